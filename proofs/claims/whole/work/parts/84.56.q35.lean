/-! Growing as the class does it: a node, its left side whole, its right side. -/
section CGs
variable {best : Int64 → BST} {ik : Nat → Int32} {b0 dpt : Nat}
abbrev cgL (b0 : Nat) (g : GST) (x : Int64) (d : Nat) : GST := (gBeg g.1 (b0 + g.2.1) x d, g.2.1 + 1, va_up g.2.2 g.2.1 x)
abbrev cgS (best : Int64 → BST) (ik : Nat → Int32) (b0 : Nat) (g : GST) (x : Int64) (d : Nat) : GST := (gSpl (gBeg g.1 (b0 + g.2.1) x d) (b0 + g.2.1) (best x) (ik (best x).2.2.1.toNatClampNeg), g.2.1 + 1, va_up g.2.2 g.2.1 x)
abbrev cgP (b0 m : Nat) (lf : Int32) (g : GST) : GST := (gPar g.1 g.2.1 (nI (b0 + m)) lf, g.2.1, g.2.2)
def cgw (best : Int64 → BST) (ik : Nat → Int32) (b0 dpt : Nat) : Nat → GST → Int64 → Nat → GST
  | 0, g, x, d => cgL b0 g x d
  | h + 1, g, x, d => if d = dpt ∨ (best x).1 ≤ 0 then cgL b0 g x d
    else cgw best ik b0 dpt h (cgP b0 g.2.1 (vp_nar .boolean 0) (cgw best ik b0 dpt h (cgP b0 g.2.1 (vp_nar .boolean 1) (cgS best ik b0 g x d)) (x &&& (best x).2.2.2.2.2) (d + 1))) (x &&& ((best x).2.2.2.2.2 ^^^ (-1))) (d + 1)
/-- it is what the stack gives -/
theorem cgw_gall : ∀ h (g : GST) (x : Int64) (d : Nat) (ab lf : Int32), d ≤ dpt → dpt ≤ d + h → ∃ n, 1 ≤ n ∧ n ≤ 2 ^ (dpt - d + 1) - 1 ∧ (cgw best ik b0 dpt h (gPar g.1 g.2.1 ab lf, g.2.1, g.2.2) x d).2.1 = g.2.1 + n ∧ ∀ f st, gall best ik b0 dpt (f + n) g ((x, d, ab, lf) :: st) = gall best ik b0 dpt f (cgw best ik b0 dpt h (gPar g.1 g.2.1 ab lf, g.2.1, g.2.2) x d) st := by
  have leaf : ∀ (g : GST) (x : Int64) (d : Nat) (ab lf : Int32), (d = dpt ∨ (best x).1 ≤ 0) → ∀ f st, gall best ik b0 dpt (f + 1) g ((x, d, ab, lf) :: st) = gall best ik b0 dpt f (cgL b0 (gPar g.1 g.2.1 ab lf, g.2.1, g.2.2) x d) st := fun g x d ab lf q f st => by
    show gall best ik b0 dpt f (gst best ik b0 dpt (g.1, g.2.1, g.2.2) (x, d, ab, lf)).1 ((gst best ik b0 dpt (g.1, g.2.1, g.2.2) (x, d, ab, lf)).2 ++ st) = _
    rw [gst_l q]
    rfl
  have pw : ∀ d, 1 ≤ 2 ^ (dpt - d + 1) - 1 := fun d => by
    have := Nat.pow_le_pow_right (show 0 < 2 by decide) (show 1 ≤ dpt - d + 1 by omega)
    omega
  intro h
  induction h with
  | zero =>
    intro g x d ab lf hd hh
    exact ⟨1, Nat.le_refl _, pw d, rfl, leaf g x d ab lf (Or.inl (by omega))⟩
  | succ h ih =>
    intro g x d ab lf hd hh
    by_cases q : d = dpt ∨ (best x).1 ≤ 0
    · have e : cgw best ik b0 dpt (h + 1) (gPar g.1 g.2.1 ab lf, g.2.1, g.2.2) x d = cgL b0 (gPar g.1 g.2.1 ab lf, g.2.1, g.2.2) x d := if_pos q
      rw [e]
      exact ⟨1, Nat.le_refl _, pw d, rfl, leaf g x d ab lf q⟩
    · have hq1 : d < dpt := by rcases Nat.lt_or_ge d dpt with r | r; exact r; exact absurd (Or.inl (by omega)) q
      have e : cgw best ik b0 dpt (h + 1) (gPar g.1 g.2.1 ab lf, g.2.1, g.2.2) x d = _ := if_neg q
      rw [e]
      obtain ⟨n1, a1, a2, a3, a4⟩ := ih (cgS best ik b0 (gPar g.1 g.2.1 ab lf, g.2.1, g.2.2) x d) (x &&& (best x).2.2.2.2.2) (d + 1) (nI (b0 + g.2.1)) (vp_nar .boolean 1) (by omega) (by omega)
      obtain ⟨n2, b1, b2, b3, b4⟩ := ih (cgw best ik b0 dpt h (cgP b0 g.2.1 (vp_nar .boolean 1) (cgS best ik b0 (gPar g.1 g.2.1 ab lf, g.2.1, g.2.2) x d)) (x &&& (best x).2.2.2.2.2) (d + 1)) (x &&& ((best x).2.2.2.2.2 ^^^ (-1))) (d + 1) (nI (b0 + g.2.1)) (vp_nar .boolean 0) (by omega) (by omega)
      have hp := gws_2 hq1
      refine ⟨n1 + n2 + 1, by omega, by omega, ?_, fun f st => ?_⟩
      · refine b3.trans ?_
        have a3 : (cgw best ik b0 dpt h (cgP b0 g.2.1 (vp_nar .boolean 1) (cgS best ik b0 (gPar g.1 g.2.1 ab lf, g.2.1, g.2.2) x d)) (x &&& (best x).2.2.2.2.2) (d + 1)).2.1 = g.2.1 + 1 + n1 := a3
        rw [a3]
        omega
      · show gall best ik b0 dpt (f + (n1 + n2)) (gst best ik b0 dpt (g.1, g.2.1, g.2.2) (x, d, ab, lf)).1 ((gst best ik b0 dpt (g.1, g.2.1, g.2.2) (x, d, ab, lf)).2 ++ st) = _
        rw [gst_s q, show f + (n1 + n2) = f + n2 + n1 by omega]
        exact (a4 (f + n2) _).trans (b4 f st)
theorem cgw_n (h : Nat) (g : GST) (x : Int64) (d : Nat) : ∃ n, 1 ≤ n ∧ n ≤ 2 ^ (h + 1) - 1 ∧ (cgw best ik b0 dpt h g x d).2.1 = g.2.1 + n := by
  induction h generalizing g x d with
  | zero => exact ⟨1, Nat.le_refl _, by decide, rfl⟩
  | succ h ih =>
    have pw : 1 ≤ 2 ^ (h + 1) - 1 := by
      have := Nat.pow_le_pow_right (show 0 < 2 by decide) (show 1 ≤ h + 1 by omega)
      omega
    have p2 : 2 ^ (h + 1 + 1) = 2 * 2 ^ (h + 1) := by rw [Nat.pow_succ]; omega
    by_cases q : d = dpt ∨ (best x).1 ≤ 0
    · have e : cgw best ik b0 dpt (h + 1) g x d = cgL b0 g x d := if_pos q
      rw [e]
      exact ⟨1, Nat.le_refl _, by omega, rfl⟩
    · have e : cgw best ik b0 dpt (h + 1) g x d = _ := if_neg q
      rw [e]
      obtain ⟨n1, a1, a2, a3⟩ := ih (cgP b0 g.2.1 (vp_nar .boolean 1) (cgS best ik b0 g x d)) (x &&& (best x).2.2.2.2.2) (d + 1)
      obtain ⟨n2, b1, b2, b3⟩ := ih (cgP b0 g.2.1 (vp_nar .boolean 0) (cgw best ik b0 dpt h (cgP b0 g.2.1 (vp_nar .boolean 1) (cgS best ik b0 g x d)) (x &&& (best x).2.2.2.2.2) (d + 1))) (x &&& ((best x).2.2.2.2.2 ^^^ (-1))) (d + 1)
      refine ⟨n1 + n2 + 1, by omega, by omega, b3.trans ?_⟩
      have a3 : (cgw best ik b0 dpt h (cgP b0 g.2.1 (vp_nar .boolean 1) (cgS best ik b0 g x d)) (x &&& (best x).2.2.2.2.2) (d + 1)).2.1 = g.2.1 + 1 + n1 := a3
      show (cgw best ik b0 dpt h (cgP b0 g.2.1 (vp_nar .boolean 1) (cgS best ik b0 g x d)) (x &&& (best x).2.2.2.2.2) (d + 1)).2.1 + n2 = _
      rw [a3]
      omega
theorem gPar_o {a : Nat → Nat → Int32} {m nd j : Nat} {lf : Int32} (hn : nd < 2 ^ 31) (hj : j ≠ nd) (f : Nat) (hf : f < 8) : gPar a m (nI nd) lf f j = a f j := by
  unfold gPar
  rw [nI_clamp hn]
  split
  · rfl
  · split <;> (match f, hf with
      | 0, _ => rfl
      | 1, _ => rfl
      | 2, _ => rfl
      | 3, _ => first | rfl | exact pk_un hj
      | 4, _ => first | rfl | exact pk_un hj
      | 5, _ => rfl
      | 6, _ => rfl
      | 7, _ => rfl)
/-- the nodes before it stay -/
theorem cgw_lo (h : Nat) (g : GST) (x : Int64) (d : Nat) (hb : b0 + g.2.1 + 2 ^ (h + 1) < 2 ^ 30) : (∀ k, k < g.2.1 → (cgw best ik b0 dpt h g x d).2.2 k = g.2.2 k) ∧ ∀ f j, f < 8 → j < b0 + g.2.1 → (cgw best ik b0 dpt h g x d).1 f j = g.1 f j := by
  induction h generalizing g x d with
  | zero =>
    refine ⟨fun k hk => va_up_ne _ _ (by omega), fun f j hf hj => ?_⟩
    have hn : j ≠ b0 + g.2.1 := by omega
    match f, hf with
    | 0, _ | 1, _ | 2, _ | 3, _ | 4, _ | 5, _ | 6, _ | 7, _ => exact pk_un hn
  | succ h ih =>
    by_cases q : d = dpt ∨ (best x).1 ≤ 0
    · have e : cgw best ik b0 dpt (h + 1) g x d = cgL b0 g x d := if_pos q
      rw [e]
      refine ⟨fun k hk => va_up_ne _ _ (by omega), fun f j hf hj => ?_⟩
      have hn : j ≠ b0 + g.2.1 := by omega
      match f, hf with
      | 0, _ | 1, _ | 2, _ | 3, _ | 4, _ | 5, _ | 6, _ | 7, _ => exact pk_un hn
    · have e : cgw best ik b0 dpt (h + 1) g x d = _ := if_neg q
      rw [e]
      have p2 : 2 ^ (h + 1 + 1) = 2 * 2 ^ (h + 1) := by rw [Nat.pow_succ]; omega
      obtain ⟨n1, a1, a2, a3⟩ := cgw_n (best := best) (ik := ik) (b0 := b0) (dpt := dpt) h (cgP b0 g.2.1 (vp_nar .boolean 1) (cgS best ik b0 g x d)) (x &&& (best x).2.2.2.2.2) (d + 1)
      have a3 : (cgw best ik b0 dpt h (cgP b0 g.2.1 (vp_nar .boolean 1) (cgS best ik b0 g x d)) (x &&& (best x).2.2.2.2.2) (d + 1)).2.1 = g.2.1 + 1 + n1 := a3
      have i1 := ih (cgP b0 g.2.1 (vp_nar .boolean 1) (cgS best ik b0 g x d)) (x &&& (best x).2.2.2.2.2) (d + 1) (by show b0 + (g.2.1 + 1) + _ < _; omega)
      have i2 := ih (cgP b0 g.2.1 (vp_nar .boolean 0) (cgw best ik b0 dpt h (cgP b0 g.2.1 (vp_nar .boolean 1) (cgS best ik b0 g x d)) (x &&& (best x).2.2.2.2.2) (d + 1))) (x &&& ((best x).2.2.2.2.2 ^^^ (-1))) (d + 1) (by show b0 + (cgw best ik b0 dpt h _ _ _).2.1 + _ < _; rw [a3]; omega)
      generalize cgw best ik b0 dpt h (cgP b0 g.2.1 (vp_nar .boolean 1) (cgS best ik b0 g x d)) (x &&& (best x).2.2.2.2.2) (d + 1) = G1 at a3 i1 i2 ⊢
      have e1 : (cgP b0 g.2.1 (vp_nar .boolean 0) G1).2.1 = G1.2.1 := rfl
      rw [e1, a3] at i2
      refine ⟨fun k hk => ?_, fun f j hf hj => ?_⟩
      · refine (i2.1 k (by omega)).trans ((i1.1 k (by show k < g.2.1 + 1; omega)).trans ?_)
        exact va_up_ne _ _ (by omega)
      · refine (i2.2 f j hf (by omega)).trans ((gPar_o (by omega) (by omega) f hf).trans ((i1.2 f j hf (by show j < b0 + (g.2.1 + 1); omega)).trans ((gPar_o (by omega) (by omega) f hf).trans ?_)))
        have hn : j ≠ b0 + g.2.1 := by omega
        match f, hf with
        | 0, _ | 1, _ | 2, _ | 7, _ => exact (pk_un hn).trans (pk_un hn)
        | 3, _ | 4, _ | 5, _ | 6, _ => exact pk_un hn
end CGs
theorem cgw_grw {F : TFR} {T : Nat} {RR : Nat → Int} {n w lst dpt wd : Nat} {vv eg ik : Nat → Int32} {ne : Nat → Nat} {chb : Int32} {AA : Int64} (hd : dpt ≤ 4) : cgw (fun x => colF RR n w lst vv eg ik ne chb x wd) ik (31 * T) dpt 4 (tA F, 0, fun _ => 0) AA 0 = grw F T RR n w lst dpt wd vv eg ik ne chb AA := by
  obtain ⟨k, h1, h2, h3, h4⟩ := cgw_gall (best := fun x => colF RR n w lst vv eg ik ne chb x wd) (ik := ik) (b0 := 31 * T) (dpt := dpt) 4 (tA F, 0, fun _ => 0) AA 0 (-1) (vp_nar .boolean 0) (Nat.zero_le _) (by omega)
  have hk : k ≤ 31 := by
    have : 2 ^ (dpt - 0 + 1) ≤ 2 ^ 5 := Nat.pow_le_pow_right (by decide) (by omega)
    have e : (2 : Nat) ^ 5 = 32 := by decide
    omega
  have h5 := h4 (32 - k) []
  rw [show 32 - k + k = 32 by omega, gall_n, gPar_n (by decide)] at h5
  exact h5.symm
