/-! The class's groups against the searches' sets. -/
theorem cne_cut {eg : Nat → Int32} {b ne : Nat} {v : Int32} (h : RIS eg b ne) : ∃ k, k ≤ ne ∧ (∀ i, i < k → eg (b + i) ≤ v) ∧ (k = ne ∨ v < eg (b + k)) := by
  suffices hs : ∀ j, j ≤ ne → (∀ i, i < j → eg (b + i) ≤ v) ∨ ∃ k, k < j ∧ (∀ i, i < k → eg (b + i) ≤ v) ∧ v < eg (b + k) by
    rcases hs ne (Nat.le_refl _) with q | ⟨k, hk, q1, q2⟩
    · exact ⟨ne, Nat.le_refl _, q, Or.inl rfl⟩
    · exact ⟨k, by omega, q1, Or.inr q2⟩
  intro j
  induction j with
  | zero => intro _; exact Or.inl (fun i hi => absurd hi (by omega))
  | succ j ih =>
    intro hj
    rcases ih (by omega) with q | ⟨k, hk, q1, q2⟩
    · rcases Int32.le_or_lt (eg (b + j)) v with r | r
      · exact Or.inl (fun i hi => by
          by_cases e : i = j
          · rw [e]; exact r
          · exact q i (by omega))
      · exact Or.inr ⟨j, by omega, q, r⟩
    · exact Or.inr ⟨k, by omega, q1, q2⟩
theorem cne_lt {eg : Nat → Int32} {b ne k : Nat} {v : Int32} (h : RIS eg b ne) (hk : k < ne) : v < eg (b + k) ↔ cnE eg b v ne ≤ k := by
  obtain ⟨m, hm, h1, h2⟩ := cne_cut (v := v) h
  rw [cnE_srt h hm h1 h2]
  constructor
  · intro q
    rcases Nat.lt_or_ge k m with r | r
    · exact absurd (h1 k r) (Int32.not_le.mpr q)
    · exact r
  · intro q
    have hv : v < eg (b + m) := h2.resolve_left (by omega)
    by_cases e : m = k
    · rw [← e]; exact hv
    · exact Int32.lt_trans hv (h m k (by omega) hk)
abbrev mrw (vv : Nat → Int32) (c n : Nat) (A : Int64) : Int64 := rwk vv c (-2147483648) n &&& A
theorem bx_gm {vv : Nat → Int32} {c n r : Nat} {A : Int64} (hr : r < 64) (hn : n ≤ 64) : bx (gsM vv c A n) r = (decide (r < n) && (bx A r && decide (vv (6 * r + c) = -2147483648))) := bx_gsr hr n hn
theorem bx_gg {vv eg ik : Nat → Int32} {ne : Nat → Nat} {c n r k : Nat} {A : Int64} (hr : r < 64) (hn : n ≤ 64) : bx (gsG vv eg ik ne c A k n) r = (decide (r < n) && (bx A r && !decide (vv (6 * r + c) = -2147483648) && decide (bnF eg ik ne c (vv (6 * r + c)) = k))) := bx_gsr hr n hn
theorem gm_rw {vv : Nat → Int32} {c n : Nat} {A : Int64} (hn : n ≤ 64) : gsM vv c A n = mrw vv c n A := bx_ext (fun r hr => by
  rw [bx_gm hr hn, bx_and, bx_rwk hr n hn]
  cases bx A r <;> cases decide (r < n) <;> cases decide (vv (6 * r + c) = -2147483648) <;> rfl)
/-- the rows before edge k -/
def blE (vv eg : Nat → Int32) (n c : Nat) (A : Int64) : Nat → Int64
  | 0 => 0
  | k + 1 => seK vv eg n c A (mrw vv c n A) k
theorem bx_se {vv eg : Nat → Int32} {n c r k : Nat} {A : Int64} (hr : r < 64) (hn : n ≤ 64) : bx (seK vv eg n c A (mrw vv c n A) k) r = (decide (r < n) && (bx A r && !decide (vv (6 * r + c) = -2147483648) && decide (vv (6 * r + c) < eg (11 * c + k)))) := by
  show bx ((rlt vv c (eg (11 * c + k)) n &&& A) &&& (mrw vv c n A ^^^ (-1))) r = _
  rw [bx_and, bx_and, bx_not _ hr, bx_and, bx_rwk hr n hn, bx_rlt hr n hn]
  cases bx A r <;> cases decide (r < n) <;> cases decide (vv (6 * r + c) = -2147483648) <;> cases decide (vv (6 * r + c) < eg (11 * c + k)) <;> rfl
theorem bx_bl {vv eg ik : Nat → Int32} {ne : Nat → Nat} {n c r k : Nat} {A : Int64} (hr : r < 64) (hn : n ≤ 64) (hk : k ≤ ne c) (hik : ik c = 0) (hS : RIS eg (11 * c) (ne c)) : bx (blE vv eg n c A k) r = (decide (r < n) && (bx A r && !decide (vv (6 * r + c) = -2147483648) && decide (bnF eg ik ne c (vv (6 * r + c)) < k))) := by
  cases k with
  | zero =>
    show bx 0 r = _
    rw [bx_zero, decide_eq_false (show ¬ bnF eg ik ne c (vv (6 * r + c)) < 0 by omega)]
    simp
  | succ k =>
    show bx (seK vv eg n c A (mrw vv c n A) k) r = _
    rw [bx_se hr hn]
    have e : (vv (6 * r + c) < eg (11 * c + k)) ↔ bnF eg ik ne c (vv (6 * r + c)) < k + 1 := by
      unfold bnF
      rw [if_pos hik, cne_lt hS (by omega)]
      omega
    by_cases q : vv (6 * r + c) < eg (11 * c + k)
    · rw [decide_eq_true q, decide_eq_true (e.mp q)]
    · rw [decide_eq_false q, decide_eq_false (fun z => q (e.mpr z))]
theorem bl_s {vv eg ik : Nat → Int32} {ne : Nat → Nat} {n c k : Nat} {A : Int64} (hn : n ≤ 64) (hk : k < ne c) (hik : ik c = 0) (hS : RIS eg (11 * c) (ne c)) : blE vv eg n c A (k + 1) = blE vv eg n c A k ||| gsG vv eg ik ne c A k n := bx_ext (fun r hr => by
  rw [bx_or, bx_bl (ik := ik) hr hn (by omega) hik hS, bx_bl (ik := ik) hr hn (by omega) hik hS, bx_gg hr hn]
  by_cases q1 : bnF eg ik ne c (vv (6 * r + c)) < k
  · rw [decide_eq_true q1, decide_eq_true (show bnF eg ik ne c (vv (6 * r + c)) < k + 1 by omega), decide_eq_false (show ¬ bnF eg ik ne c (vv (6 * r + c)) = k by omega)]
    cases decide (r < n) <;> cases bx A r <;> cases decide (vv (6 * r + c) = -2147483648) <;> rfl
  · by_cases q2 : bnF eg ik ne c (vv (6 * r + c)) = k
    · rw [decide_eq_false q1, decide_eq_true (show bnF eg ik ne c (vv (6 * r + c)) < k + 1 by omega), decide_eq_true q2]
      cases decide (r < n) <;> cases bx A r <;> cases decide (vv (6 * r + c) = -2147483648) <;> rfl
    · rw [decide_eq_false q1, decide_eq_false (show ¬ bnF eg ik ne c (vv (6 * r + c)) < k + 1 by omega), decide_eq_false q2]
      cases decide (r < n) <;> cases bx A r <;> cases decide (vv (6 * r + c) = -2147483648) <;> rfl)
theorem bl_dj {vv eg ik : Nat → Int32} {ne : Nat → Nat} {n c k r : Nat} {A : Int64} (hr : r < 64) (hn : n ≤ 64) (hk : k < ne c) (hik : ik c = 0) (hS : RIS eg (11 * c) (ne c)) : ¬ (bx (blE vv eg n c A k) r = true ∧ bx (gsG vv eg ik ne c A k n) r = true) := fun ⟨h1, h2⟩ => by
  rw [bx_bl (ik := ik) hr hn (by omega) hik hS] at h1
  rw [bx_gg hr hn] at h2
  simp only [Bool.and_eq_true, decide_eq_true_eq] at h1 h2
  have := h1.2.2
  have := h2.2.2
  omega
theorem smv_dj {RR : Nat → Int} {x y : Int64} (h : ∀ r, r < 64 → ¬ (bx x r = true ∧ bx y r = true)) : ∀ m, m ≤ 64 → smv RR (x ||| y) m = smv RR x m + smv RR y m
  | 0, _ => rfl
  | m + 1, hm => by
    have ih := smv_dj (RR := RR) h m (by omega)
    by_cases q : bx x m = true
    · have r : ¬ bx y m = true := fun z => h m (by omega) ⟨q, z⟩
      rw [smv_t (by rw [bx_or, q]; rfl), smv_t q, smv_f r, ih]; omega
    · by_cases r : bx y m = true
      · rw [smv_t (by rw [bx_or, r]; simp), smv_f q, smv_t r, ih]; omega
      · rw [smv_f (by rw [bx_or, Bool.eq_false_iff.mpr q, Bool.eq_false_iff.mpr r]; decide), smv_f q, smv_f r, ih]
theorem bl_ne {vv eg ik : Nat → Int32} {ne : Nat → Nat} {n c k : Nat} {A : Int64} (hn : n ≤ 64) (hk : k < ne c) (hik : ik c = 0) (hS : RIS eg (11 * c) (ne c)) (h : ¬ gsG vv eg ik ne c A k n = 0) : ¬ blE vv eg n c A (k + 1) = blE vv eg n c A k := fun q => by
  apply h
  refine bx_ext (fun r hr => ?_)
  rw [bx_zero]
  cases hb : bx (gsG vv eg ik ne c A k n) r
  · rfl
  · exfalso
    have h1 : bx (blE vv eg n c A (k + 1)) r = true := by rw [bl_s (ik := ik) hn hk hik hS, bx_or, hb]; simp
    rw [q] at h1
    exact bl_dj (ik := ik) hr hn hk hik hS ⟨h1, hb⟩
theorem bl_z {vv eg ik : Nat → Int32} {ne : Nat → Nat} {n c k : Nat} {A : Int64} (hn : n ≤ 64) (hk : k < ne c) (hik : ik c = 0) (hS : RIS eg (11 * c) (ne c)) (h : gsG vv eg ik ne c A k n = 0) : blE vv eg n c A (k + 1) = blE vv eg n c A k := by
  rw [bl_s (ik := ik) hn hk hik hS, h]
  exact bx_ext (fun r hr => by rw [bx_or, bx_zero]; simp)
theorem clE_y {RR : Nat → Int} {n w lst : Nat} {vv eg : Nat → Int32} {c k : Nat} {A : Int64} {b : CST} (h0 : 0 < k) (h : blE vv eg n c A (k + 1) = blE vv eg n c A k) : clE RR n w lst vv eg c A (mrw vv c n A) b (k + 1) = clE RR n w lst vv eg c A (mrw vv c n A) b k := by
  obtain ⟨j, rfl⟩ : ∃ j, k = j + 1 := ⟨k - 1, by omega⟩
  exact if_pos ⟨h0, h⟩
theorem clE_n {RR : Nat → Int} {n w lst : Nat} {vv eg : Nat → Int32} {c k : Nat} {A : Int64} {b : CST} (h : k = 0 ∨ ¬ blE vv eg n c A (k + 1) = blE vv eg n c A k) : clE RR n w lst vv eg c A (mrw vv c n A) b (k + 1) = cls RR n w lst A (mrw vv c n A) (clE RR n w lst vv eg c A (mrw vv c n A) b k) (blE vv eg n c A (k + 1)) (nI c) (eg (11 * c + k)) := by
  refine if_neg (fun q => ?_)
  rcases h with h | h
  · omega
  · obtain ⟨j, rfl⟩ : ∃ j, k = j + 1 := ⟨k - 1, by omega⟩
    exact h q.2
theorem win_bl {vv eg : Nat → Int32} {n c : Nat} {A : Int64} : ∀ k, WIN (blE vv eg n c A k) A
  | 0 => win_0
  | _ + 1 => win_andl win_and
theorem win_mr {vv : Nat → Int32} {n c : Nat} {A : Int64} : WIN (mrw vv c n A) A := win_and
theorem cb_win {S A : Int64} (h : WIN S A) : cb S ≤ cb A := by
  have := cb_add h 64 (Nat.le_refl _)
  show cbn S 64 ≤ cbn A 64
  omega
theorem smv_rb {RR : Nat → Int} {S A : Int64} {n B : Nat} (hn : n ≤ 48) (hB : ∀ i, i < n → (RR i).natAbs ≤ B) (h : WIN S A) : (smv RR A n - smv RR S n).natAbs ≤ 48 * B := by
  have h1 := smv_add (RR := RR) h n (by omega)
  have h2 := smv_le (x := A &&& (S ^^^ (-1))) (zr := RR) hB n (Nat.le_refl _)
  have h3 : n * B ≤ 48 * B := Nat.mul_le_mul_right _ hn
  rw [show smv RR A n - smv RR S n = smv RR (A &&& (S ^^^ (-1))) n by omega]
  omega
theorem smv_sb {RR : Nat → Int} {S : Int64} {n B : Nat} (hn : n ≤ 48) (hB : ∀ i, i < n → (RR i).natAbs ≤ B) : (smv RR S n).natAbs ≤ 48 * B := by
  have h2 := smv_le (x := S) (zr := RR) hB n (Nat.le_refl _)
  have h3 : n * B ≤ 48 * B := Nat.mul_le_mul_right _ hn
  omega
theorem se_mr {vv eg : Nat → Int32} {n c k r : Nat} {A : Int64} (hr : r < 64) (hn : n ≤ 64) : ¬ (bx (blE vv eg n c A k) r = true ∧ bx (mrw vv c n A) r = true) := fun ⟨h1, h2⟩ => by
  cases k with
  | zero => rw [show blE vv eg n c A 0 = 0 from rfl, bx_zero] at h1; exact absurd h1 (by decide)
  | succ k =>
    rw [show blE vv eg n c A (k + 1) = seK vv eg n c A (mrw vv c n A) k from rfl, bx_se hr hn] at h1
    rw [bx_and, bx_rwk hr n hn] at h2
    simp only [Bool.and_eq_true, Bool.not_eq_true', decide_eq_true_eq, decide_eq_false_iff_not] at h1 h2
    exact h1.2.1.2 h2.1.2
/-- the two splits in the pool: the best one stands for b9 -/
abbrev eSP (c m o l : Int32) (r : Int64) (w : Nat) (u : Int32) : va_E := .inr (6, [.int c, .int m, .int o, .int l, .long r, .ref w, .int u])
def BTK (b t : Nat) : Prop := (b = 66 ∧ t = 70) ∨ (b = 70 ∧ t = 66)
def SPL (cT : Nat → ClassId) (ad : Nat → Nat) (g : Nat → Option va_E) (b t : Nat) (ik : Nat → Int32) (b9 : CST) (BB : Nat) : Prop := ∃ (bc bm bo bl : Int32) (br : Int64) (bu : Int32) (zb : Int) (tc tm tq tl : Int32) (tr : Int64) (tu : Int32) (zt : Int),
  g b = some (eSP bc bm bo bl br (ad (b + 1)) bu) ∧ WHO cT ad g (b + 1) (b + 2) 48 zb ∧ zb.natAbs ≤ BB * BB * 136 ∧ SPF bc bm bo bl br bu zb ik b9 ∧ g t = some (eSP tc tm tq tl tr (ad (t + 1)) tu) ∧ WHO cT ad g (t + 1) (t + 2) 48 zt ∧ zt.natAbs ≤ BB * BB * 136
theorem SPL.cg {cT : Nat → ClassId} {ad : Nat → Nat} {g g2 : Nat → Option va_E} {b t : Nat} {ik : Nat → Int32} {b9 : CST} {BB : Nat} (h : SPL cT ad g b t ik b9 BB) (hbt : BTK b t) (h1 : ∀ x, 66 ≤ x → x ≤ 72 → g2 x = g x) : SPL cT ad g2 b t ik b9 BB := by
  obtain ⟨bc, bm, bo, bl, br, bu, zb, tc, tm, tq, tl, tr, tu, zt, a1, a2, a3, a4, a5, a6, a7⟩ := h
  have hb : 66 ≤ b ∧ b ≤ 70 ∧ 66 ≤ t ∧ t ≤ 70 := by rcases hbt with q | q <;> omega
  exact ⟨bc, bm, bo, bl, br, bu, zb, tc, tm, tq, tl, tr, tu, zt, (h1 _ (by omega) (by omega)).trans a1, a2.cg (h1 _ (by omega) (by omega)) (h1 _ (by omega) (by omega)), a3, a4, (h1 _ (by omega) (by omega)).trans a5, a6.cg (h1 _ (by omega) (by omega)) (h1 _ (by omega) (by omega)), a7⟩
/-- what the search keeps besides -/
def SCG (cT : Nat → ClassId) (ad : Nat → Nat) (g : Nat → Option va_E) : Prop := (∃ z, WHO cT ad g 60 61 24 z) ∧ (∃ z, WHO cT ad g 62 63 48 z) ∧ ∃ z, WHO cT ad g 64 65 48 z
theorem SCG.cg {cT : Nat → ClassId} {ad : Nat → Nat} {g g2 : Nat → Option va_E} (h : SCG cT ad g) (h1 : ∀ x, 60 ≤ x → x ≤ 65 → g2 x = g x) : SCG cT ad g2 := by
  obtain ⟨⟨a, b⟩, ⟨c, d⟩, ⟨e, f⟩⟩ := h
  exact ⟨⟨a, b.cg (h1 _ (by omega) (by omega)) (h1 _ (by omega) (by omega))⟩, ⟨c, d.cg (h1 _ (by omega) (by omega)) (h1 _ (by omega) (by omega))⟩, ⟨e, f.cg (h1 _ (by omega) (by omega)) (h1 _ (by omega) (by omega))⟩⟩
theorem btk_s {b t : Nat} (h : BTK b t) : BTK t b := by
  rcases h with ⟨h1, h2⟩ | ⟨h1, h2⟩
  · exact Or.inr ⟨h2, h1⟩
  · exact Or.inl ⟨h2, h1⟩
theorem btk_b {b t : Nat} (h : BTK b t) : 66 ≤ b ∧ b ≤ 70 ∧ 66 ≤ t ∧ t ≤ 70 ∧ (b = 66 ∧ t = 70 ∨ b = 70 ∧ t = 66) := by
  rcases h with q | q
  · exact ⟨by omega, by omega, by omega, by omega, Or.inl q⟩
  · exact ⟨by omega, by omega, by omega, by omega, Or.inr q⟩
