/-! The search through the columns, on both sides. -/
theorem lkd_p {RR : Nat → Int} {n w lst : Nat} {vv : Nat → Int32} {c : Nat} {A M : Int64} {od : Nat → Nat} {r : BST} (hl : 1 ≤ lst) (hr : 0 < r.2.1) : ∀ p, 0 < (lkd RR n w lst vv c A M od r p).2.1
  | 0 => hr
  | p + 1 => lks_p hl (lkd_p hl hr p)
theorem col_n {RR : Nat → Int} {n w lst : Nat} {vv eg ik : Nat → Int32} {ne : Nat → Nat} {chb : Int32} {A : Int64} {c : Nat} {b : CST} (hn : n ≤ 64) (hl : 1 ≤ lst) (hb : (chb >>> (nI c &&& 31)) &&& 1 = 1) (hk : ik c = 0) (h : SRL (cb A + w) (smv RR A n) b (colF RR n w lst vv eg ik ne chb A c)) (hp : 0 < (colF RR n w lst vv eg ik ne chb A c).2.1) :
    SRL (cb A + w) (smv RR A n) (clE RR n w lst vv eg c A (mrw vv c n A) b (ne c)) (colF RR n w lst vv eg ik ne chb A (c + 1)) ∧ 0 < (colF RR n w lst vv eg ik ne chb A (c + 1)).2.1 := by
  have e : colF RR n w lst vv eg ik ne chb A (c + 1) = lkE RR n w lst vv eg c A (mrw vv c n A) (colF RR n w lst vv eg ik ne chb A c) (ne c) := by
    show colS RR n w lst vv eg ik ne chb A c (colF RR n w lst vv eg ik ne chb A c) = _
    unfold colS
    rw [if_pos hb, if_pos hk]
  rw [e]
  have h1 := srl_E (vv := vv) (eg := eg) (c := c) hn hl (win_mr (vv := vv) (n := n) (c := c) (A := A)) hp h (ne c)
  exact ⟨h1.1, h1.2.1⟩
theorem col_k {RR : Nat → Int} {n w lst : Nat} {vv eg ik : Nat → Int32} {ne : Nat → Nat} {chb : Int32} {A : Int64} {c F : Nat} {od : Nat → Nat} {b : CST} (hn : n ≤ 64) (hl : 1 ≤ lst) (hb : (chb >>> (nI c &&& 31)) &&& 1 = 1) (hk : ¬ ik c = 0) (hK : KOR RR n w vv c A od F) (hF : F ≤ 12) (h : SRL (cb A + w) (smv RR A n) b (colF RR n w lst vv eg ik ne chb A c)) (hp : 0 < (colF RR n w lst vv eg ik ne chb A c).2.1) :
    SRL (cb A + w) (smv RR A n) (clK RR n w lst vv c A (mrw vv c n A) od b (F - 1)) (colF RR n w lst vv eg ik ne chb A (c + 1)) ∧ 0 < (colF RR n w lst vv eg ik ne chb A (c + 1)).2.1 := by
  have e : colF RR n w lst vv eg ik ne chb A (c + 1) = lkd RR n w lst vv c A (mrw vv c n A) od (colF RR n w lst vv eg ik ne chb A c) (F - 1) := by
    show colS RR n w lst vv eg ik ne chb A c (colF RR n w lst vv eg ik ne chb A c) = _
    unfold colS
    rw [if_pos hb, if_neg hk]
    exact lkk_all hK (by omega)
  rw [e]
  exact ⟨srl_K hn hl (win_mr (vv := vv) (n := n) (c := c) (A := A)) h (F - 1), lkd_p hl hp _⟩
theorem col_x {RR : Nat → Int} {n w lst : Nat} {vv eg ik : Nat → Int32} {ne : Nat → Nat} {chb : Int32} {A : Int64} {c : Nat} (hb : ¬ (chb >>> (nI c &&& 31)) &&& 1 = 1) : colF RR n w lst vv eg ik ne chb A (c + 1) = colF RR n w lst vv eg ik ne chb A c := by
  show colS RR n w lst vv eg ik ne chb A c (colF RR n w lst vv eg ik ne chb A c) = _
  unfold colS
  rw [if_neg hb]
/-- nothing found: no gain; something found: the gain's sign -/
theorem srl_none {nw : Nat} {s : Int} {b : CST} {r : BST} (h : SRL nw s b r) (hb : b.1 = false) : ¬ 0 < r.1 := by
  rcases h with ⟨_, e⟩ | ⟨q, _⟩
  · rw [e]; decide
  · rw [hb] at q; exact absurd q (by decide)
theorem srl_gain {nw : Nat} {s : Int} {b : CST} {r : BST} (h : SRL nw s b r) (hb : b.1 = true) : 0 < r.1 ↔ s * s * (b.2.2.1 : Int) < b.2.1 * (nw : Int) := by
  rcases h with ⟨q, _⟩ | ⟨_, _, h3⟩
  · rw [hb] at q; exact absurd q (by decide)
  · have e : gnz b.2.1 s b.2.2.1 nw = b.2.1 * (nw : Int) - s * s * (b.2.2.1 : Int) := rfl
    rcases h3 with ⟨g, e2⟩ | ⟨g, e2⟩
    · rw [e2]
      show (0 : Int) < 0 ↔ _
      omega
    · rw [e2]
      show 0 < gnz b.2.1 s b.2.2.1 nw ↔ _
      omega
def CS0 : CST := (false, 0, 0, 0, 0, 0, 0)
theorem srl_0 {nw : Nat} {s : Int} : SRL nw s CS0 (0, 1, 0, 0, 0, 0) := Or.inl ⟨rfl, rfl⟩
set_option maxHeartbeats 4000000 in
set_option maxRecDepth 100000 in
theorem k_findSplit (l : Launch) (D : va_G) (cT : Nat → ClassId) (cds : List Nat) (ad : Nat → Nat) (gg : Nat → Option va_E) (bb9 : Nat) (tt9 : Nat) (wd9 : Int32) (rw9 : Int32) (n : Nat) (zs : Nat → Int) (XB : Nat) (vv : Nat → Int32) (vq : Nat → Int32) (eg : Nat → Int32) (ik : Nat → Int32) (ne : Nat → Nat) (pd : Int32) (pu : Int32) (pq9 : Int32) (psb : Int64) (pcb : Int32) (w : Nat) (lst : Nat) (fo : Nat → Int32) (x : Int64) (nx : Nat) (ny : Nat) (nz : Nat) (nq0 : Int32) (nq1 : Int32) (nq2 : Int32) (nq3 : Int32) (nq4 : Int32) (nq5 : Int32) (nq7 : Int32) (wd : Nat) (b90 : CST) (hcd : CD cds) (hgr : gg 6 = some (eGR ad bb9 tt9)) (htb : gg 1 = some (eTB ad wd9 rw9)) (hrn : rw9 = nI n) (hn48 : n ≤ 48) (hRs : RSp cT ad gg n zs) (hXB : ∀ i, i < n → (zs i).natAbs ≤ XB) (hfit : 49 * XB < 1000000000 ^ 24) (hbt : BTK bb9 tt9) (hSc : SCG cT ad gg) (hGa : GAp cT ad gg) (hGs : ∀ j, j < 15 → ∃ (r : Int64) (z : Int), GPp cT ad gg j r z) (hCa : CAp cT ad gg) (hCf : COLF cT ad gg n vv vq eg ik ne) (hne : ∀ c, c < 6 → ne c ≤ 11) (hik : ∀ c, c < 6 → ik c = 0 ∨ ik c = 1) (hpl : gg 4 = some (ePL pd (nI lst) (nI w) pu pq9 psb pcb)) (hls2 : 1 ≤ lst ∧ lst ≤ 24) (hw20 : w ≤ 20) (hod : gg 8 = some (eA (cT 0) 12 fo)) (hnd : gg nx = some (eND nq0 nq1 nq2 nq3 nq4 nq5 (nI (cb x)) nq7 (ad ny))) (hns : WHO cT ad gg ny nz 24 (smv zs x n)) (hnx : 2000 ≤ nx ∧ 2000 ≤ ny ∧ 2000 ≤ nz ∧ nx < 8192 ∧ ny < 8192 ∧ nz < 8192 ∧ nx ≠ ny ∧ nx ≠ nz ∧ ny ≠ nz) (hAn : SUBn x n) (hB2 : 48 * XB * 2 < 1000000000 ^ 24) (hB3 : 48 * XB * (48 * XB) * 68 * 2 < 1000000000 ^ 48) (hB4 : 48 * XB * (48 * XB) * 136 * 4624 < 1000000000 ^ 48) (hSP : SPL cT ad gg bb9 tt9 ik b90 (48 * XB)) (hwd : wd9 = nI wd) (hwd6 : wd ≤ 6) (hS9 : ∀ c, c < 6 → ik c = 0 → RIS eg (11 * c) (ne c)) (hVk : ∀ c, c < 6 → ¬ ik c = 0 → ∀ r, r < n → ¬ vv (6 * r + c) = (-2147483648) → 0 ≤ vv (6 * r + c) ∧ vv (6 * r + c) < 12) (hB5 : 48 * XB * 100 < 1000000000 ^ 48) (sz : Nat) : Met l yGr_findSplit WGr_findSplit ({ frames := 6, cells := 0, slots := 0, locals := 162 } : Room) (RW D vwCl [.ref (ad 6), .ref (ad nx), .long x] ([] ++ pg cds ad gg) (TY cT) sz) (va_Qi (fun (r9 : Int32) (u9 : (Nat → Option va_E) × Nat × Nat × CST) => r9 = bn (decide (0 < (colF zs n w lst vv eg ik ne pcb x wd).1)) ∧ (∀ z8, (z8 < 60 ∨ (72 < z8 ∧ z8 < 200) ∨ 260 ≤ z8) → z8 ≠ 6 → z8 ≠ 8 → u9.1 z8 = gg z8) ∧ u9.1 6 = some (eGR ad u9.2.1 u9.2.2.1) ∧ BTK u9.2.1 u9.2.2.1 ∧ SPL cT ad u9.1 u9.2.1 u9.2.2.1 ik u9.2.2.2 (48 * XB) ∧ SRL (cb x + w) (smv zs x n) u9.2.2.2 (colF zs n w lst vv eg ik ne pcb x wd) ∧ SCG cT ad u9.1 ∧ (∃ f8, u9.1 8 = some (eA (cT 0) 12 f8)) ∧ ∀ j8, j8 < 15 → ∃ r8 z8, GPp cT ad u9.1 j8 r8 z8) (BW D vwCl (va_A ([] ++ pg cds ad gg) sz) (fun u9 : (Nat → Option va_E) × Nat × Nat × CST => ([] ++ pg cds ad u9.1))) (va_A ([] ++ pg cds ad gg) sz)) 0 0 (va_A ([] ++ pg cds ad gg) sz) := by
  refine Met.ofW (cc := cGr_findSplit) (maxL := 5) (ret := (some .boolean)) (by decide) rfl ?_
  intro p e s m args below meth c s₁ B hml hv
  obtain ⟨rfl, hsz, hZ, hP, hK, hD0⟩ := hv
  have hx := B.exec
  have hb := B.bytes
  have hr := B.returns
  have hts := atoms_spec (ws := WGr_findSplit) B.pre
  have hT : ∀ w ∈ TB, w.before _ s = true := fun w h => hts w (List.mem_cons_of_mem _ h)
  have hown : s.vm.findClass R_Gr = some m.cls := findClass_of_methodNamed B.named
  have hlocks := B.notSynchronized
  subst hsz
  have hD := hD0.self (sz := s.heap.size)
  generalize hAe : va_A ([] ++ pg cds ad gg) s.heap.size = A at hD hZ ⊢
  have hA : ∀ q : Nat, s.heap.size ≤ q → A q := fun q h => by rw [← hAe]; exact Or.inr h
  have hS : va_S A s.heap s.heap [] := va_S.rf
  have hl := lv_entry ([.ref (ad 6), .ref (ad nx), .long x]) (n := 5) (Nat.le_of_ble_eq_true rfl)
  rw [lg_entry_eq]
  generalize (lg_sl ([.ref (ad 6), .ref (ad nx), .long x]) ++ List.replicate (5 - (lg_sl ([.ref (ad 6), .ref (ad nx), .long x])).length) Slot.unset).toArray = ls at hl ⊢
  have hl : lv_has ls 5 [(0, .ref (ad 6)), (1, .ref (ad nx)), (2, .long x)] := hl
  have hbt0 := btk_b hbt
  obtain ⟨n1, n2, n3, n4, n5, n6, n7, n8, n9⟩ := hnx
  have hns0 := hns
  obtain ⟨wnn, wnb, wnf, wn1, wn2, wn3⟩ := hns
  have hSP0 := hSP
  obtain ⟨bc, bm, bo, bl, br, bu, zb, tc, tm, to, tl, tr, tu, zt, sb1, sb2, sb3, sb4, st1, st2, st3⟩ := hSP
  obtain ⟨wbn, wbb, wbf, wb1, wb2, wb3⟩ := sb2
  obtain ⟨wtn, wtb, wtf, wt1, wt2, wt3⟩ := st2
  refine lv_aload_n hx hb dGr_findSplit_0 rfl (lv_at hl 0 rfl) ?_
  refine va_get (D := D) (ci := 7) (v := .ref (ad bb9)) (C := R_Gr) (T := T_Gr) (N := 13) hx hb hT in_Gr hown hK (pg_1 (x := 6) hcd hP (by decide) hgr) 0 rfl rfl 11 (by decide) (hT _ w225) (fun _ h9 => h9) rfl dGr_findSplit_1 ?_
  refine lv_iconst (v := (-1)) hx hb dGr_findSplit_4 (by decide) ?_
  have hB9 : QI gg [(bb9, .inr (6, [.int bc, .int bm, .int bo, .int bl, .long br, .ref (ad (bb9 + 1)), .int bu]))] := (qi_c (by omega) sb1 qi_0)
  have hN9 := (show NDc [bb9] from (nd_c na_0 nd_0))
  have hP := bo_P (wc := [(bb9, .inr (6, [.int bc, .int bm, .int bo, .int bl, .long br, .ref (ad (bb9 + 1)), .int bu]))]) (X := []) hcd hN9 hB9 hP
  have hD := bo_D (wc := [(bb9, .inr (6, [.int bc, .int bm, .int bo, .int bl, .long br, .ref (ad (bb9 + 1)), .int bu]))]) (X := []) hcd hN9 hB9 hD
  have hP : va_P D vwCl ([(ad bb9, .inr (6, [.int bc, .int bm, .int bo, .int bl, .long br, .ref (ad (bb9 + 1)), .int bu]))] ++ pg cds ad (upo gg [bb9])) _ := hP
  have hD : va_D A ([(ad bb9, .inr (6, [.int bc, .int bm, .int bo, .int bl, .long br, .ref (ad (bb9 + 1)), .int bu]))] ++ pg cds ad (upo gg [bb9])) := hD
  refine va_put (D := D) (ci := 6) (v := .int (-1)) (ty := .int) (C := R_S) (T := T_S) (N := 7) hx hb hT in_S ty_S ty_S_ok m_S hown hK hP hD hS 0 rfl rfl 0 (by decide) (hT _ w191) (fun _ h9 => h9) rfl (by decide +kernel) rfl rfl (Nat.le_of_ble_eq_true rfl) dGr_findSplit_5 (fun H locs hP hD hS => ?_)
  have hP : va_P D vwCl ([(ad bb9, .inr (6, [.int (-1), .int bm, .int bo, .int bl, .long br, .ref (ad (bb9 + 1)), .int bu]))] ++ pg cds ad (upo gg [bb9])) _ := hP
  have hD : va_D A ([(ad bb9, .inr (6, [.int (-1), .int bm, .int bo, .int bl, .long br, .ref (ad (bb9 + 1)), .int bu]))] ++ pg cds ad (upo gg [bb9])) := hD
  have hN9 := (show NDc [bb9] from (nd_c na_0 nd_0))
  have hP := gb_P (w9 := [(bb9, .inr (6, [.int (-1), .int bm, .int bo, .int bl, .long br, .ref (ad (bb9 + 1)), .int bu]))]) (X := []) (g := gg) hcd hN9 (show QB [(bb9, .inr (6, [.int (-1), .int bm, .int bo, .int bl, .long br, .ref (ad (bb9 + 1)), .int bu]))] from (qb_c (by omega) qb_0)) (hP.part (cx := [(ad bb9, .inr (6, [.int (-1), .int bm, .int bo, .int bl, .long br, .ref (ad (bb9 + 1)), .int bu]))]) [0] rfl)
  have hD := gb_D (w9 := [(bb9, .inr (6, [.int (-1), .int bm, .int bo, .int bl, .long br, .ref (ad (bb9 + 1)), .int bu]))]) (X := []) (g := gg) hcd hN9 (show QB [(bb9, .inr (6, [.int (-1), .int bm, .int bo, .int bl, .long br, .ref (ad (bb9 + 1)), .int bu]))] from (qb_c (by omega) qb_0)) (hD.part (cx := [(ad bb9, .inr (6, [.int (-1), .int bm, .int bo, .int bl, .long br, .ref (ad (bb9 + 1)), .int bu]))]) [0] (by decide) rfl)
  obtain ⟨g0, hg0⟩ : ∃ q9, q9 = ups gg [(bb9, .inr (6, [.int (-1), .int bm, .int bo, .int bl, .long br, .ref (ad (bb9 + 1)), .int bu]))] := ⟨_, rfl⟩
  rw [← hg0] at hP hD
  have hP : va_P D vwCl ([] ++ pg cds ad g0) _ := hP
  have hD : va_D A ([] ++ pg cds ad g0) := hD
  have fg0 : ∀ z8, z8 ≠ bb9 → g0 z8 = gg z8 := fun z8 z1 => by rw [hg0]; exact ups_k (kp_n z1 kp_0)
  have g0_0 : g0 bb9 = some (.inr (6, [.int (-1), .int bm, .int bo, .int bl, .long br, .ref (ad (bb9 + 1)), .int bu])) := by rw [hg0]; exact ups_1
  have hSP1 : SPL cT ad g0 bb9 tt9 ik CS0 (48 * XB) := ⟨(-1), bm, bo, bl, br, bu, zb, tc, tm, to, tl, tr, tu, zt, g0_0, ⟨_, _, _, (fg0 _ (by omega)).trans wb1, (fg0 _ (by omega)).trans wb2, wb3⟩, sb3, Or.inl ⟨rfl, rfl⟩, (fg0 _ (by omega)).trans st1, ⟨_, _, _, (fg0 _ (by omega)).trans wt1, (fg0 _ (by omega)).trans wt2, wt3⟩, st3⟩
  have q0F : ∀ z8, (z8 < 66 ∨ 72 < z8) → g0 z8 = gg z8 := fun z8 n1 => fg0 z8 (by omega)
  refine lv_iconst (v := 0) hx hb dGr_findSplit_8 (by decide) ?_
  refine lv_istore hx hb dGr_findSplit_9 hl (by decide) rfl (fun ls hl => ?_)
  have hl : lv_has ls 5 [(4, .int 0), (0, .ref (ad 6)), (1, .ref (ad nx)), (2, .long x)] := hl
  have hl : lv_has ls 5 [(4, .int (nI 0)), (0, .ref (ad 6)), (1, .ref (ad nx)), (2, .long x)] := by
    rw [(show nI 0 = 0 from rfl)]; exact hl
  refine lp_w (α := Nat × Nat × Nat × CST × (Nat → Option va_E)) (fun a9 => a9.1 ≤ wd ∧ (∀ z8, (z8 < 60 ∨ (72 < z8 ∧ z8 < 200) ∨ 260 ≤ z8) → z8 ≠ 6 → z8 ≠ 8 → a9.2.2.2.2 z8 = gg z8) ∧ a9.2.2.2.2 6 = some (eGR ad a9.2.1 a9.2.2.1) ∧ BTK a9.2.1 a9.2.2.1 ∧ SPL cT ad a9.2.2.2.2 a9.2.1 a9.2.2.1 ik a9.2.2.2.1 (48 * XB) ∧ SCG cT ad a9.2.2.2.2 ∧ (∃ f9, a9.2.2.2.2 8 = some (eA (cT 0) 12 f9)) ∧ (∀ j9, j9 < 15 → ∃ r9 z9, GPp cT ad a9.2.2.2.2 j9 r9 z9) ∧ SRL (cb x + w) (smv zs x n) a9.2.2.2.1 (colF zs n w lst vv eg ik ne pcb x a9.1) ∧ 0 < (colF zs n w lst vv eg ik ne pcb x a9.1).2.1) (fun a9 => wd - a9.1) (fun a9 => [(0, .ref (ad 6)), (1, .ref (ad nx)), (2, .long x), (4, .int (nI a9.1))]) (fun a9 => ([] ++ pg cds ad a9.2.2.2.2)) 11 ?_ (0, bb9, tt9, CS0, g0) (show 0 ≤ wd ∧ (∀ z8, (z8 < 60 ∨ (72 < z8 ∧ z8 < 200) ∨ 260 ≤ z8) → z8 ≠ 6 → z8 ≠ 8 → g0 z8 = gg z8) ∧ g0 6 = some (eGR ad bb9 tt9) ∧ BTK bb9 tt9 ∧ SPL cT ad g0 bb9 tt9 ik CS0 (48 * XB) ∧ SCG cT ad g0 ∧ (∃ f9, g0 8 = some (eA (cT 0) 12 f9)) ∧ (∀ j9, j9 < 15 → ∃ r9 z9, GPp cT ad g0 j9 r9 z9) ∧ SRL (cb x + w) (smv zs x n) CS0 (colF zs n w lst vv eg ik ne pcb x 0) ∧ 0 < (colF zs n w lst vv eg ik ne pcb x 0).2.1 from ⟨Nat.zero_le _, fun z8 n1 n2 n3 => q0F z8 (by omega), (q0F 6 (by omega)).trans hgr, hbt, hSP1, hSc.cg (fun z h1 h2 => q0F z (by omega)), ⟨fo, (q0F 8 (by omega)).trans hod⟩, fun j hj => (by obtain ⟨r, z, e1⟩ := hGs j hj; exact ⟨r, z, e1.cg (q0F _ (by omega)) (q0F _ (by omega)) (q0F _ (by omega))⟩), srl_0, (by show 0 < 1; decide)⟩) (lv_sub hl [1, 2, 3, 0] rfl) hP hD hS
  intro a9 hI11 ih11 ls H locs hl hP hD hS
  obtain ⟨i, pb, pt, bq, g2⟩ := a9
  have hI11 : i ≤ wd ∧ (∀ z8, (z8 < 60 ∨ (72 < z8 ∧ z8 < 200) ∨ 260 ≤ z8) → z8 ≠ 6 → z8 ≠ 8 → g2 z8 = gg z8) ∧ g2 6 = some (eGR ad pb pt) ∧ BTK pb pt ∧ SPL cT ad g2 pb pt ik bq (48 * XB) ∧ SCG cT ad g2 ∧ (∃ f9, g2 8 = some (eA (cT 0) 12 f9)) ∧ (∀ j9, j9 < 15 → ∃ r9 z9, GPp cT ad g2 j9 r9 z9) ∧ SRL (cb x + w) (smv zs x n) bq (colF zs n w lst vv eg ik ne pcb x i) ∧ 0 < (colF zs n w lst vv eg ik ne pcb x i).2.1 := hI11
  obtain ⟨ii, iF, i6, ibt, iS, iC, i8, iG, iR, iP⟩ := hI11
  have hl : lv_has ls 5 [(0, .ref (ad 6)), (1, .ref (ad nx)), (2, .long x), (4, .int (nI i))] := hl
  have hP : va_P D vwCl ([] ++ pg cds ad g2) _ := hP
  have hD : va_D A ([] ++ pg cds ad g2) := hD
  refine lv_iload hx hb dGr_findSplit_11 (lv_at hl 3 rfl) ?_
  refine lv_aload_n hx hb dGr_findSplit_13 rfl (lv_at hl 0 rfl) ?_
  refine va_get (D := D) (ci := 7) (v := .ref (ad 1)) (C := R_Gr) (T := T_Gr) (N := 13) hx hb hT in_Gr hown hK (pg_1 (x := 6) hcd hP (by decide) i6) 0 rfl rfl 0 (by decide) (hT _ w214) (fun _ h9 => h9) rfl dGr_findSplit_14 ?_
  refine va_get (D := D) (ci := 2) (v := .int wd9) (C := R_T) (T := T_T) (N := 4) hx hb hT in_T hown hK (pg_1 (x := 1) hcd hP (by decide) ((iF 1 (by omega) (by omega) (by omega)).trans htb)) 0 rfl rfl 2 (by decide) (hT _ w79) (fun _ h9 => h9) rfl dGr_findSplit_17 ?_
  refine lv_topi (fun y9 e9 => ?_)
  cases (show y9 = nI wd from e9.trans hwd)
  refine lv_icmp_ge (tgt := 53) hx hb dGr_findSplit_20 rfl (fun h1 => ?_) (fun h1 => ?_)
  · have gh1 : wd ≤ i := (nI_leI (a := wd) (b := i) (by omega) (by omega)).mp h1
    have iS0 := iS
    have hpb := btk_b ibt
    obtain ⟨bc, bm, bo, bl, br, bu, zb, tc, tm, to, tl, tr, tu, zt, sb1, sb2, sb3, sb4, st1, st2, st3⟩ := iS
    obtain ⟨wbn, wbb, wbf, wb1, wb2, wb3⟩ := sb2
    obtain ⟨wtn, wtb, wtf, wt1, wt2, wt3⟩ := st2
    obtain ⟨⟨zo1, hso⟩, ⟨zo2, hss⟩, ⟨zo3, hst⟩⟩ := iC
    obtain ⟨won, wob, wof, wo1, wo2, wo3⟩ := hso
    obtain ⟨wscn, wscb, wscf, wsc1, wsc2, wsc3⟩ := hss
    obtain ⟨wotn, wotb, wotf, wot1, wot2, wot3⟩ := hst
    have eiw : i = wd := by omega
    refine lv_aload_n hx hb dGr_findSplit_53 rfl (lv_at hl 0 rfl) ?_
    refine va_get (D := D) (ci := 7) (v := .ref (ad pb)) (C := R_Gr) (T := T_Gr) (N := 13) hx hb hT in_Gr hown hK (pg_1 (x := 6) hcd hP (by decide) i6) 0 rfl rfl 11 (by decide) (hT _ w225) (fun _ h9 => h9) rfl dGr_findSplit_54 ?_
    refine va_get (D := D) (ci := 6) (v := .int bc) (C := R_S) (T := T_S) (N := 7) hx hb hT in_S hown hK (pg_1 (x := pb) hcd hP (by omega) sb1) 0 rfl rfl 0 (by decide) (hT _ w191) (fun _ h9 => h9) rfl dGr_findSplit_57 ?_
    refine lv_iconst (v := (-1)) hx hb dGr_findSplit_60 (by decide) ?_
    refine lv_icmp_ne (tgt := 66) hx hb dGr_findSplit_61 rfl (fun h2 => ?_) (fun h2 => ?_)
    · obtain ⟨f1, f2, f3, f4, f5, f6⟩ := sb4.resolve_left (fun q => h2 q.2)
      have f4 : bu = nI bq.2.2.1 := f4
      have hgn := srl_gain iR f1
      rw [f3] at hgn
      have hu46 := f5
      have hBn := smv_sb (S := x) hn48 hXB
      have hcA := cb_n hAn hn48
      have hm1 : zb.natAbs * (cb x + w) < 1000000000 ^ 48 := Nat.lt_of_le_of_lt (Nat.mul_le_mul sb3 (show cb x + w ≤ 4624 by omega)) hB4
      have hm0 : zb.natAbs < 1000000000 ^ 48 := Nat.lt_of_le_of_lt (Nat.le_mul_of_pos_right _ (show 0 < 4624 by decide)) (Nat.lt_of_le_of_lt (Nat.mul_le_mul_right 4624 sb3) hB4)
      have hq1 := Nat.mul_le_mul hBn hBn
      have hq2 : (smv zs x n * smv zs x n).natAbs * bq.2.2.1 < 1000000000 ^ 48 := by rw [Int.natAbs_mul]; exact Nat.lt_of_le_of_lt (Nat.mul_le_mul hq1 hu46) (Nat.lt_of_le_of_lt (Nat.mul_le_mul_right 4624 (Nat.le_mul_of_pos_right _ (show 0 < 136 by decide))) hB4)
      have hq3 : (smv zs x n).natAbs * (smv zs x n).natAbs < 1000000000 ^ 48 := Nat.lt_of_le_of_lt hq1 (Nat.lt_of_le_of_lt (Nat.le_mul_of_pos_right _ (show 0 < 136 * 4624 by decide)) (by rw [← Nat.mul_assoc]; exact hB4))
      refine lv_aload_n hx hb dGr_findSplit_66 rfl (lv_at hl 0 rfl) ?_
      refine va_get (D := D) (ci := 7) (v := .ref (ad 62)) (C := R_Gr) (T := T_Gr) (N := 13) hx hb hT in_Gr hown hK (pg_1 (x := 6) hcd hP (by decide) i6) 0 rfl rfl 9 (by decide) (hT _ w223) (fun _ h9 => h9) rfl dGr_findSplit_67 ?_
      refine lv_aload_n hx hb dGr_findSplit_70 rfl (lv_at hl 0 rfl) ?_
      refine va_get (D := D) (ci := 7) (v := .ref (ad pb)) (C := R_Gr) (T := T_Gr) (N := 13) hx hb hT in_Gr hown hK (pg_1 (x := 6) hcd hP (by decide) i6) 0 rfl rfl 11 (by decide) (hT _ w225) (fun _ h9 => h9) rfl dGr_findSplit_71 ?_
      refine va_get (D := D) (ci := 6) (v := .ref (ad (pb + 1))) (C := R_S) (T := T_S) (N := 7) hx hb hT in_S hown hK (pg_1 (x := pb) hcd hP (by omega) sb1) 0 rfl rfl 5 (by decide) (hT _ w197) (fun _ h9 => h9) rfl dGr_findSplit_74 ?_
      have hB9 : QI g2 [(62, .inr (4, [.ref (ad 63), .int wscn, .int wscb])), (63, .inl (cT 0, 48, .inl wscf)), (pb + 1, .inr (4, [.ref (ad (pb + 2)), .int wbn, .int wbb])), (pb + 2, .inl (cT 0, 48, .inl wbf))] := (qi_c (by decide) wsc1 (qi_c (by decide) wsc2 (qi_c (by omega) wb1 (qi_c (by omega) wb2 qi_0))))
      have hN9 := (show NDc [62, 63, pb + 1, pb + 2] from (nd_c (na_c (by decide) (na_c (by omega) (na_c (by omega) na_0))) (nd_c (na_c (by omega) (na_c (by omega) na_0)) (nd_c (na_c (by omega) na_0) (nd_c na_0 nd_0)))))
      have hP := bo_P (wc := [(62, .inr (4, [.ref (ad 63), .int wscn, .int wscb])), (63, .inl (cT 0, 48, .inl wscf)), (pb + 1, .inr (4, [.ref (ad (pb + 2)), .int wbn, .int wbb])), (pb + 2, .inl (cT 0, 48, .inl wbf))]) (X := []) hcd hN9 hB9 hP
      have hD := bo_D (wc := [(62, .inr (4, [.ref (ad 63), .int wscn, .int wscb])), (63, .inl (cT 0, 48, .inl wscf)), (pb + 1, .inr (4, [.ref (ad (pb + 2)), .int wbn, .int wbb])), (pb + 2, .inl (cT 0, 48, .inl wbf))]) (X := []) hcd hN9 hB9 hD
      have hP : va_P D vwCl ([(ad 62, .inr (4, [.ref (ad 63), .int wscn, .int wscb])), (ad 63, .inl (cT 0, 48, .inl wscf)), (ad (pb + 1), .inr (4, [.ref (ad (pb + 2)), .int wbn, .int wbb])), (ad (pb + 2), .inl (cT 0, 48, .inl wbf))] ++ pg cds ad (upo g2 [62, 63, pb + 1, pb + 2])) _ := hP
      have hD : va_D A ([(ad 62, .inr (4, [.ref (ad 63), .int wscn, .int wscb])), (ad 63, .inl (cT 0, 48, .inl wscf)), (ad (pb + 1), .inr (4, [.ref (ad (pb + 2)), .int wbn, .int wbb])), (ad (pb + 2), .inl (cT 0, 48, .inl wbf))] ++ pg cds ad (upo g2 [62, 63, pb + 1, pb + 2])) := hD
      refine hy_vQ (X := [(ad 62, .inr (4, [.ref (ad 63), .int wscn, .int wscb])), (ad 63, .inl (cT 0, 48, .inl wscf)), (ad (pb + 1), .inr (4, [.ref (ad (pb + 2)), .int wbn, .int wbb])), (ad (pb + 2), .inl (cT 0, 48, .inl wbf))]) (pl := pg cds ad (upo g2 [62, 63, pb + 1, pb + 2])) (cx := [(ad 62, .inr (4, [.ref (ad 63), .int wscn, .int wscb])), (ad 63, .inl (cT 0, 48, .inl wscf)), (ad (pb + 1), .inr (4, [.ref (ad (pb + 2)), .int wbn, .int wbb])), (ad (pb + 2), .inl (cT 0, 48, .inl wbf))]) (wr := []) hP hD hS hA [0, 1, 2, 3] [] rfl rfl (by decide) (by decide) (va_runV (As := [.ref (ad (pb + 1))]) (rest := []) ⟨hx, hb, hml, hown, hT⟩ (k_setW l D cT (ad 62) (ad 63) 48 wscn wscb wscf (ad (pb + 1)) (ad (pb + 2)) 48 wbn wbb wbf zb (by decide) (by decide) wb3 hm0 _) ⟨callB_of 1 hT (tb_gd w446) rfl rfl rfl (hT _ w5) (hT _ w925) hW_setb ⟨Nat.le_of_ble_eq_true rfl, Nat.le_of_ble_eq_true rfl⟩, (hT _ w444), (hT _ w445)⟩ (RW.preV (ci := 4) (q0 := 0) hZ hS (hy_free (cx := [(ad 62, .inr (4, [.ref (ad 63), .int wscn, .int wscb])), (ad 63, .inl (cT 0, 48, .inl wscf)), (ad (pb + 1), .inr (4, [.ref (ad (pb + 2)), .int wbn, .int wbb])), (ad (pb + 2), .inl (cT 0, 48, .inl wbf))]) hD hS hA [0, 1, 2, 3] rfl) (hP.sub (ws' := [(ad 62, .inr (4, [.ref (ad 63), .int wscn, .int wscb])), (ad 63, .inl (cT 0, 48, .inl wscf)), (ad (pb + 1), .inr (4, [.ref (ad (pb + 2)), .int wbn, .int wbb])), (ad (pb + 2), .inl (cT 0, 48, .inl wbf))]) [0, 1, 2, 3] rfl) hK (hD.sub (ws' := [(ad 62, .inr (4, [.ref (ad 63), .int wscn, .int wscb])), (ad 63, .inl (cT 0, 48, .inl wscf)), (ad (pb + 1), .inr (4, [.ref (ad (pb + 2)), .int wbn, .int wbb])), (ad (pb + 2), .inl (cT 0, 48, .inl wbf))]) [0, 1, 2, 3] (by decide) rfl) rfl rfl) rfl rfl hl.1 rfl (lv_room (Nat.le_of_ble_eq_true rfl)) dGr_findSplit_77 ⟨Nat.le_of_ble_eq_true rfl, Nat.le_of_ble_eq_true rfl⟩) (fun u9 H locs hpu3 hP hD hS => ?_)
      obtain ⟨f1u3, rfl⟩ : ∃ q9, q9 = u9 := ⟨_, rfl⟩
      have hpu3 : WN 48 wbn wbb f1u3 zb := hpu3
      have hP : va_P D vwCl ([(ad 62, .inr (4, [.ref (ad 63), .int wbn, .int wbb])), (ad 63, .inl (cT 0, 48, .inl f1u3)), (ad (pb + 1), .inr (4, [.ref (ad (pb + 2)), .int wbn, .int wbb])), (ad (pb + 2), .inl (cT 0, 48, .inl wbf))] ++ pg cds ad (upo g2 [62, 63, pb + 1, pb + 2])) _ := hP
      have hD : va_D A ([(ad 62, .inr (4, [.ref (ad 63), .int wbn, .int wbb])), (ad 63, .inl (cT 0, 48, .inl f1u3)), (ad (pb + 1), .inr (4, [.ref (ad (pb + 2)), .int wbn, .int wbb])), (ad (pb + 2), .inl (cT 0, 48, .inl wbf))] ++ pg cds ad (upo g2 [62, 63, pb + 1, pb + 2])) := hD
      have d1 := hpu3
      have hN9 := (show NDc [62, 63, pb + 1, pb + 2] from (nd_c (na_c (by decide) (na_c (by omega) (na_c (by omega) na_0))) (nd_c (na_c (by omega) (na_c (by omega) na_0)) (nd_c (na_c (by omega) na_0) (nd_c na_0 nd_0)))))
      have hP := gb_P (w9 := [(62, .inr (4, [.ref (ad 63), .int wbn, .int wbb])), (63, .inl (cT 0, 48, .inl f1u3)), (pb + 1, .inr (4, [.ref (ad (pb + 2)), .int wbn, .int wbb])), (pb + 2, .inl (cT 0, 48, .inl wbf))]) (X := []) (g := g2) hcd hN9 (show QB [(62, .inr (4, [.ref (ad 63), .int wbn, .int wbb])), (63, .inl (cT 0, 48, .inl f1u3)), (pb + 1, .inr (4, [.ref (ad (pb + 2)), .int wbn, .int wbb])), (pb + 2, .inl (cT 0, 48, .inl wbf))] from (qb_c (by decide) (qb_c (by decide) (qb_c (by omega) (qb_c (by omega) qb_0))))) (hP.part (cx := [(ad 62, .inr (4, [.ref (ad 63), .int wbn, .int wbb])), (ad 63, .inl (cT 0, 48, .inl f1u3)), (ad (pb + 1), .inr (4, [.ref (ad (pb + 2)), .int wbn, .int wbb])), (ad (pb + 2), .inl (cT 0, 48, .inl wbf))]) [0, 1, 2, 3] rfl)
      have hD := gb_D (w9 := [(62, .inr (4, [.ref (ad 63), .int wbn, .int wbb])), (63, .inl (cT 0, 48, .inl f1u3)), (pb + 1, .inr (4, [.ref (ad (pb + 2)), .int wbn, .int wbb])), (pb + 2, .inl (cT 0, 48, .inl wbf))]) (X := []) (g := g2) hcd hN9 (show QB [(62, .inr (4, [.ref (ad 63), .int wbn, .int wbb])), (63, .inl (cT 0, 48, .inl f1u3)), (pb + 1, .inr (4, [.ref (ad (pb + 2)), .int wbn, .int wbb])), (pb + 2, .inl (cT 0, 48, .inl wbf))] from (qb_c (by decide) (qb_c (by decide) (qb_c (by omega) (qb_c (by omega) qb_0))))) (hD.part (cx := [(ad 62, .inr (4, [.ref (ad 63), .int wbn, .int wbb])), (ad 63, .inl (cT 0, 48, .inl f1u3)), (ad (pb + 1), .inr (4, [.ref (ad (pb + 2)), .int wbn, .int wbb])), (ad (pb + 2), .inl (cT 0, 48, .inl wbf))]) [0, 1, 2, 3] (by decide) rfl)
      obtain ⟨g3, hg3⟩ : ∃ q9, q9 = ups g2 [(62, .inr (4, [.ref (ad 63), .int wbn, .int wbb])), (63, .inl (cT 0, 48, .inl f1u3)), (pb + 1, .inr (4, [.ref (ad (pb + 2)), .int wbn, .int wbb])), (pb + 2, .inl (cT 0, 48, .inl wbf))] := ⟨_, rfl⟩
      rw [← hg3] at hP hD
      have hP : va_P D vwCl ([] ++ pg cds ad g3) _ := hP
      have hD : va_D A ([] ++ pg cds ad g3) := hD
      have fg3 : ∀ z8, z8 ≠ 62 → z8 ≠ 63 → g3 z8 = g2 z8 := fun z8 z1 z2 => by rw [hg3]; exact ups_k (kp_n z1 (kp_n z2 (kp_s wb1 (kp_s wb2 kp_0))))
      have g3_0 : g3 62 = some (.inr (4, [.ref (ad 63), .int wbn, .int wbb])) := by rw [hg3]; exact ups_1
      have g3_1 : g3 63 = some (.inl (cT 0, 48, .inl f1u3)) := by rw [hg3]; exact ups_2 (by decide)
      refine lv_aload_n hx hb dGr_findSplit_80 rfl (lv_at hl 0 rfl) ?_
      refine va_get (D := D) (ci := 7) (v := .ref (ad 62)) (C := R_Gr) (T := T_Gr) (N := 13) hx hb hT in_Gr hown hK (pg_1 (x := 6) hcd hP (by decide) ((fg3 _ (by decide) (by decide)).trans i6)) 0 rfl rfl 9 (by decide) (hT _ w223) (fun _ h9 => h9) rfl dGr_findSplit_81 ?_
      refine lv_aload_n hx hb dGr_findSplit_84 rfl (lv_at hl 1 rfl) ?_
      refine va_get (D := D) (ci := 10) (v := .int (nI (cb x))) (C := R_N) (T := T_N) (N := 9) hx hb hT in_N hown hK (pg_1 (x := nx) hcd hP (by omega) ((fg3 _ (by omega) (by omega)).trans ((iF nx (by omega) (by omega) (by omega)).trans hnd))) 0 rfl rfl 6 (by decide) (hT _ w851) (fun _ h9 => h9) rfl dGr_findSplit_85 ?_
      refine lv_aload_n hx hb dGr_findSplit_88 rfl (lv_at hl 0 rfl) ?_
      refine va_get (D := D) (ci := 7) (v := .ref (ad 4)) (C := R_Gr) (T := T_Gr) (N := 13) hx hb hT in_Gr hown hK (pg_1 (x := 6) hcd hP (by decide) ((fg3 _ (by decide) (by decide)).trans i6)) 0 rfl rfl 1 (by decide) (hT _ w215) (fun _ h9 => h9) rfl dGr_findSplit_89 ?_
      refine va_get (D := D) (ci := 3) (v := .int (nI w)) (C := R_P) (T := T_P) (N := 7) hx hb hT in_P hown hK (pg_1 (x := 4) hcd hP (by decide) ((fg3 _ (by decide) (by decide)).trans ((iF 4 (by omega) (by omega) (by omega)).trans hpl))) 0 rfl rfl 2 (by decide) (hT _ w107) (fun _ h9 => h9) rfl dGr_findSplit_92 ?_
      refine lv_iadd hx hb dGr_findSplit_95 ?_
      refine lv_topi (fun y9 e9 => ?_)
      cases (show y9 = nI ((cb x) + w) from e9.trans (nI_add (cb x) w))
      refine lv_i2l hx hb dGr_findSplit_96 rfl ?_
      refine lv_topl (fun y9 e9 => ?_)
      cases (show y9 = lN ((cb x) + w) from e9.trans (nI_l (n := (cb x) + w) (by omega)))
      have hB9 : QI g3 [(62, .inr (4, [.ref (ad 63), .int wbn, .int wbb])), (63, .inl (cT 0, 48, .inl f1u3))] := (qi_c (by decide) g3_0 (qi_c (by decide) g3_1 qi_0))
      have hN9 := (show NDc [62, 63] from (nd_c (na_c (by decide) na_0) (nd_c na_0 nd_0)))
      have hP := bo_P (wc := [(62, .inr (4, [.ref (ad 63), .int wbn, .int wbb])), (63, .inl (cT 0, 48, .inl f1u3))]) (X := []) hcd hN9 hB9 hP
      have hD := bo_D (wc := [(62, .inr (4, [.ref (ad 63), .int wbn, .int wbb])), (63, .inl (cT 0, 48, .inl f1u3))]) (X := []) hcd hN9 hB9 hD
      have hP : va_P D vwCl ([(ad 62, .inr (4, [.ref (ad 63), .int wbn, .int wbb])), (ad 63, .inl (cT 0, 48, .inl f1u3))] ++ pg cds ad (upo g3 [62, 63])) _ := hP
      have hD : va_D A ([(ad 62, .inr (4, [.ref (ad 63), .int wbn, .int wbb])), (ad 63, .inl (cT 0, 48, .inl f1u3))] ++ pg cds ad (upo g3 [62, 63])) := hD
      refine hy_vQ (X := [(ad 62, .inr (4, [.ref (ad 63), .int wbn, .int wbb])), (ad 63, .inl (cT 0, 48, .inl f1u3))]) (pl := pg cds ad (upo g3 [62, 63])) (cx := [(ad 62, .inr (4, [.ref (ad 63), .int wbn, .int wbb])), (ad 63, .inl (cT 0, 48, .inl f1u3))]) (wr := []) hP hD hS hA [0, 1] [] rfl rfl (by decide) (by decide) (va_runV (As := [.long (lN ((cb x) + w))]) (rest := []) ⟨hx, hb, hml, hown, hT⟩ (k_times l D cT (ad 62) (ad 63) 48 wbn wbb f1u3 zb (cb x + w : Nat) (by decide) d1 (by omega) hm1 _) ⟨callB_of 1 hT (tb_gd w420) rfl rfl rfl (hT _ w5) (hT _ w926) hW_times ⟨Nat.le_of_ble_eq_true rfl, Nat.le_of_ble_eq_true rfl⟩, (hT _ w418), (hT _ w419)⟩ (RW.preV (ci := 4) (q0 := 0) hZ hS (hy_free (cx := [(ad 62, .inr (4, [.ref (ad 63), .int wbn, .int wbb])), (ad 63, .inl (cT 0, 48, .inl f1u3))]) hD hS hA [0, 1] rfl) (hP.sub (ws' := [(ad 62, .inr (4, [.ref (ad 63), .int wbn, .int wbb])), (ad 63, .inl (cT 0, 48, .inl f1u3))]) [0, 1] rfl) hK (hD.sub (ws' := [(ad 62, .inr (4, [.ref (ad 63), .int wbn, .int wbb])), (ad 63, .inl (cT 0, 48, .inl f1u3))]) [0, 1] (by decide) rfl) rfl rfl) rfl rfl hl.1 rfl (lv_room (Nat.le_of_ble_eq_true rfl)) dGr_findSplit_97 ⟨Nat.le_of_ble_eq_true rfl, Nat.le_of_ble_eq_true rfl⟩) (fun u9 H locs hpu4 hP hD hS => ?_)
      obtain ⟨n1u4, f1u4⟩ := u9
      have hpu4 : WN 48 n1u4 wbb f1u4 (zb * (cb x + w : Nat)) := hpu4
      have hP : va_P D vwCl ([(ad 62, .inr (4, [.ref (ad 63), .int n1u4, .int wbb])), (ad 63, .inl (cT 0, 48, .inl f1u4))] ++ pg cds ad (upo g3 [62, 63])) _ := hP
      have hD : va_D A ([(ad 62, .inr (4, [.ref (ad 63), .int n1u4, .int wbb])), (ad 63, .inl (cT 0, 48, .inl f1u4))] ++ pg cds ad (upo g3 [62, 63])) := hD
      have d2 := hpu4
      have hN9 := (show NDc [62, 63] from (nd_c (na_c (by decide) na_0) (nd_c na_0 nd_0)))
      have hP := gb_P (w9 := [(62, .inr (4, [.ref (ad 63), .int n1u4, .int wbb])), (63, .inl (cT 0, 48, .inl f1u4))]) (X := []) (g := g3) hcd hN9 (show QB [(62, .inr (4, [.ref (ad 63), .int n1u4, .int wbb])), (63, .inl (cT 0, 48, .inl f1u4))] from (qb_c (by decide) (qb_c (by decide) qb_0))) (hP.part (cx := [(ad 62, .inr (4, [.ref (ad 63), .int n1u4, .int wbb])), (ad 63, .inl (cT 0, 48, .inl f1u4))]) [0, 1] rfl)
      have hD := gb_D (w9 := [(62, .inr (4, [.ref (ad 63), .int n1u4, .int wbb])), (63, .inl (cT 0, 48, .inl f1u4))]) (X := []) (g := g3) hcd hN9 (show QB [(62, .inr (4, [.ref (ad 63), .int n1u4, .int wbb])), (63, .inl (cT 0, 48, .inl f1u4))] from (qb_c (by decide) (qb_c (by decide) qb_0))) (hD.part (cx := [(ad 62, .inr (4, [.ref (ad 63), .int n1u4, .int wbb])), (ad 63, .inl (cT 0, 48, .inl f1u4))]) [0, 1] (by decide) rfl)
      obtain ⟨g4, hg4⟩ : ∃ q9, q9 = ups g3 [(62, .inr (4, [.ref (ad 63), .int n1u4, .int wbb])), (63, .inl (cT 0, 48, .inl f1u4))] := ⟨_, rfl⟩
      rw [← hg4] at hP hD
      have hP : va_P D vwCl ([] ++ pg cds ad g4) _ := hP
      have hD : va_D A ([] ++ pg cds ad g4) := hD
      have fg4 : ∀ z8, z8 ≠ 62 → z8 ≠ 63 → g4 z8 = g3 z8 := fun z8 z1 z2 => by rw [hg4]; exact ups_k (kp_n z1 (kp_n z2 kp_0))
      have g4_0 : g4 62 = some (.inr (4, [.ref (ad 63), .int n1u4, .int wbb])) := by rw [hg4]; exact ups_1
      have g4_1 : g4 63 = some (.inl (cT 0, 48, .inl f1u4)) := by rw [hg4]; exact ups_2 (by decide)
      refine lv_aload_n hx hb dGr_findSplit_100 rfl (lv_at hl 0 rfl) ?_
      refine va_get (D := D) (ci := 7) (v := .ref (ad 64)) (C := R_Gr) (T := T_Gr) (N := 13) hx hb hT in_Gr hown hK (pg_1 (x := 6) hcd hP (by decide) ((fg4 _ (by decide) (by decide)).trans ((fg3 _ (by decide) (by decide)).trans i6))) 0 rfl rfl 10 (by decide) (hT _ w224) (fun _ h9 => h9) rfl dGr_findSplit_101 ?_
      refine lv_aload_n hx hb dGr_findSplit_104 rfl (lv_at hl 1 rfl) ?_
      refine va_get (D := D) (ci := 10) (v := .ref (ad ny)) (C := R_N) (T := T_N) (N := 9) hx hb hT in_N hown hK (pg_1 (x := nx) hcd hP (by omega) ((fg4 _ (by omega) (by omega)).trans ((fg3 _ (by omega) (by omega)).trans ((iF nx (by omega) (by omega) (by omega)).trans hnd)))) 0 rfl rfl 8 (by decide) (hT _ w856) (fun _ h9 => h9) rfl dGr_findSplit_105 ?_
      refine lv_aload_n hx hb dGr_findSplit_108 rfl (lv_at hl 1 rfl) ?_
      refine va_get (D := D) (ci := 10) (v := .ref (ad ny)) (C := R_N) (T := T_N) (N := 9) hx hb hT in_N hown hK (pg_1 (x := nx) hcd hP (by omega) ((fg4 _ (by omega) (by omega)).trans ((fg3 _ (by omega) (by omega)).trans ((iF nx (by omega) (by omega) (by omega)).trans hnd)))) 0 rfl rfl 8 (by decide) (hT _ w856) (fun _ h9 => h9) rfl dGr_findSplit_109 ?_
      have hB9 : QI g4 [(64, .inr (4, [.ref (ad 65), .int wotn, .int wotb])), (65, .inl (cT 0, 48, .inl wotf)), (ny, .inr (4, [.ref (ad nz), .int wnn, .int wnb])), (nz, .inl (cT 0, 24, .inl wnf))] := (qi_c (by decide) ((fg4 _ (by decide) (by decide)).trans ((fg3 _ (by decide) (by decide)).trans wot1)) (qi_c (by decide) ((fg4 _ (by decide) (by decide)).trans ((fg3 _ (by decide) (by decide)).trans wot2)) (qi_c (by omega) ((fg4 _ (by omega) (by omega)).trans ((fg3 _ (by omega) (by omega)).trans ((iF ny (by omega) (by omega) (by omega)).trans wn1))) (qi_c (by omega) ((fg4 _ (by omega) (by omega)).trans ((fg3 _ (by omega) (by omega)).trans ((iF nz (by omega) (by omega) (by omega)).trans wn2))) qi_0))))
      have hN9 := (show NDc [64, 65, ny, nz] from (nd_c (na_c (by decide) (na_c (by omega) (na_c (by omega) na_0))) (nd_c (na_c (by omega) (na_c (by omega) na_0)) (nd_c (na_c (by omega) na_0) (nd_c na_0 nd_0)))))
      have hP := bo_P (wc := [(64, .inr (4, [.ref (ad 65), .int wotn, .int wotb])), (65, .inl (cT 0, 48, .inl wotf)), (ny, .inr (4, [.ref (ad nz), .int wnn, .int wnb])), (nz, .inl (cT 0, 24, .inl wnf))]) (X := []) hcd hN9 hB9 hP
      have hD := bo_D (wc := [(64, .inr (4, [.ref (ad 65), .int wotn, .int wotb])), (65, .inl (cT 0, 48, .inl wotf)), (ny, .inr (4, [.ref (ad nz), .int wnn, .int wnb])), (nz, .inl (cT 0, 24, .inl wnf))]) (X := []) hcd hN9 hB9 hD
      have hP : va_P D vwCl ([(ad 64, .inr (4, [.ref (ad 65), .int wotn, .int wotb])), (ad 65, .inl (cT 0, 48, .inl wotf)), (ad ny, .inr (4, [.ref (ad nz), .int wnn, .int wnb])), (ad nz, .inl (cT 0, 24, .inl wnf))] ++ pg cds ad (upo g4 [64, 65, ny, nz])) _ := hP
      have hD : va_D A ([(ad 64, .inr (4, [.ref (ad 65), .int wotn, .int wotb])), (ad 65, .inl (cT 0, 48, .inl wotf)), (ad ny, .inr (4, [.ref (ad nz), .int wnn, .int wnb])), (ad nz, .inl (cT 0, 24, .inl wnf))] ++ pg cds ad (upo g4 [64, 65, ny, nz])) := hD
      refine hy_vQ (X := [(ad 64, .inr (4, [.ref (ad 65), .int wotn, .int wotb])), (ad 65, .inl (cT 0, 48, .inl wotf)), (ad ny, .inr (4, [.ref (ad nz), .int wnn, .int wnb])), (ad nz, .inl (cT 0, 24, .inl wnf))]) (pl := pg cds ad (upo g4 [64, 65, ny, nz])) (cx := [(ad 64, .inr (4, [.ref (ad 65), .int wotn, .int wotb])), (ad 65, .inl (cT 0, 48, .inl wotf)), (ad ny, .inr (4, [.ref (ad nz), .int wnn, .int wnb])), (ad nz, .inl (cT 0, 24, .inl wnf))]) (wr := []) hP hD hS hA [0, 1, 2, 3] [] rfl rfl (by decide) (by decide) (va_runV (As := [.ref (ad ny), .ref (ad ny)]) (rest := []) ⟨hx, hb, hml, hown, hT⟩ (k_square l D cT (ad 64) (ad 65) 48 wotn wotb wotf (ad ny) (ad nz) 24 wnn wnb wnf (smv zs x n) (by decide) (by decide) wn3 hq3 _) ⟨callB_of 2 hT (tb_gd w474) rfl rfl rfl (hT _ w5) (hT _ w948) hW_setProduct ⟨Nat.le_of_ble_eq_true rfl, Nat.le_of_ble_eq_true rfl⟩, (hT _ w472), (hT _ w473)⟩ (RW.preV (ci := 4) (q0 := 0) hZ hS (hy_free (cx := [(ad 64, .inr (4, [.ref (ad 65), .int wotn, .int wotb])), (ad 65, .inl (cT 0, 48, .inl wotf)), (ad ny, .inr (4, [.ref (ad nz), .int wnn, .int wnb])), (ad nz, .inl (cT 0, 24, .inl wnf))]) hD hS hA [0, 1, 2, 3] rfl) (hP.sub (ws' := [(ad 64, .inr (4, [.ref (ad 65), .int wotn, .int wotb])), (ad 65, .inl (cT 0, 48, .inl wotf)), (ad ny, .inr (4, [.ref (ad nz), .int wnn, .int wnb])), (ad nz, .inl (cT 0, 24, .inl wnf))]) [0, 1, 2, 3] rfl) hK (hD.sub (ws' := [(ad 64, .inr (4, [.ref (ad 65), .int wotn, .int wotb])), (ad 65, .inl (cT 0, 48, .inl wotf)), (ad ny, .inr (4, [.ref (ad nz), .int wnn, .int wnb])), (ad nz, .inl (cT 0, 24, .inl wnf))]) [0, 1, 2, 3] (by decide) rfl) rfl rfl) rfl rfl hl.1 rfl (lv_room (Nat.le_of_ble_eq_true rfl)) dGr_findSplit_112 ⟨Nat.le_of_ble_eq_true rfl, Nat.le_of_ble_eq_true rfl⟩) (fun u9 H locs hpu5 hP hD hS => ?_)
      obtain ⟨n1u5, b1u5, f1u5⟩ := u9
      have hpu5 : WN 48 n1u5 b1u5 f1u5 ((smv zs x n) * (smv zs x n)) := hpu5
      have hP : va_P D vwCl ([(ad 64, .inr (4, [.ref (ad 65), .int n1u5, .int b1u5])), (ad 65, .inl (cT 0, 48, .inl f1u5)), (ad ny, .inr (4, [.ref (ad nz), .int wnn, .int wnb])), (ad nz, .inl (cT 0, 24, .inl wnf))] ++ pg cds ad (upo g4 [64, 65, ny, nz])) _ := hP
      have hD : va_D A ([(ad 64, .inr (4, [.ref (ad 65), .int n1u5, .int b1u5])), (ad 65, .inl (cT 0, 48, .inl f1u5)), (ad ny, .inr (4, [.ref (ad nz), .int wnn, .int wnb])), (ad nz, .inl (cT 0, 24, .inl wnf))] ++ pg cds ad (upo g4 [64, 65, ny, nz])) := hD
      have d3 := hpu5
      have hN9 := (show NDc [64, 65, ny, nz] from (nd_c (na_c (by decide) (na_c (by omega) (na_c (by omega) na_0))) (nd_c (na_c (by omega) (na_c (by omega) na_0)) (nd_c (na_c (by omega) na_0) (nd_c na_0 nd_0)))))
      have hP := gb_P (w9 := [(64, .inr (4, [.ref (ad 65), .int n1u5, .int b1u5])), (65, .inl (cT 0, 48, .inl f1u5)), (ny, .inr (4, [.ref (ad nz), .int wnn, .int wnb])), (nz, .inl (cT 0, 24, .inl wnf))]) (X := []) (g := g4) hcd hN9 (show QB [(64, .inr (4, [.ref (ad 65), .int n1u5, .int b1u5])), (65, .inl (cT 0, 48, .inl f1u5)), (ny, .inr (4, [.ref (ad nz), .int wnn, .int wnb])), (nz, .inl (cT 0, 24, .inl wnf))] from (qb_c (by decide) (qb_c (by decide) (qb_c (by omega) (qb_c (by omega) qb_0))))) (hP.part (cx := [(ad 64, .inr (4, [.ref (ad 65), .int n1u5, .int b1u5])), (ad 65, .inl (cT 0, 48, .inl f1u5)), (ad ny, .inr (4, [.ref (ad nz), .int wnn, .int wnb])), (ad nz, .inl (cT 0, 24, .inl wnf))]) [0, 1, 2, 3] rfl)
      have hD := gb_D (w9 := [(64, .inr (4, [.ref (ad 65), .int n1u5, .int b1u5])), (65, .inl (cT 0, 48, .inl f1u5)), (ny, .inr (4, [.ref (ad nz), .int wnn, .int wnb])), (nz, .inl (cT 0, 24, .inl wnf))]) (X := []) (g := g4) hcd hN9 (show QB [(64, .inr (4, [.ref (ad 65), .int n1u5, .int b1u5])), (65, .inl (cT 0, 48, .inl f1u5)), (ny, .inr (4, [.ref (ad nz), .int wnn, .int wnb])), (nz, .inl (cT 0, 24, .inl wnf))] from (qb_c (by decide) (qb_c (by decide) (qb_c (by omega) (qb_c (by omega) qb_0))))) (hD.part (cx := [(ad 64, .inr (4, [.ref (ad 65), .int n1u5, .int b1u5])), (ad 65, .inl (cT 0, 48, .inl f1u5)), (ad ny, .inr (4, [.ref (ad nz), .int wnn, .int wnb])), (ad nz, .inl (cT 0, 24, .inl wnf))]) [0, 1, 2, 3] (by decide) rfl)
      obtain ⟨g5, hg5⟩ : ∃ q9, q9 = ups g4 [(64, .inr (4, [.ref (ad 65), .int n1u5, .int b1u5])), (65, .inl (cT 0, 48, .inl f1u5)), (ny, .inr (4, [.ref (ad nz), .int wnn, .int wnb])), (nz, .inl (cT 0, 24, .inl wnf))] := ⟨_, rfl⟩
      rw [← hg5] at hP hD
      have hP : va_P D vwCl ([] ++ pg cds ad g5) _ := hP
      have hD : va_D A ([] ++ pg cds ad g5) := hD
      have fg5 : ∀ z8, z8 ≠ 64 → z8 ≠ 65 → g5 z8 = g4 z8 := fun z8 z1 z2 => by rw [hg5]; exact ups_k (kp_n z1 (kp_n z2 (kp_s ((fg4 _ (by omega) (by omega)).trans ((fg3 _ (by omega) (by omega)).trans ((iF ny (by omega) (by omega) (by omega)).trans wn1))) (kp_s ((fg4 _ (by omega) (by omega)).trans ((fg3 _ (by omega) (by omega)).trans ((iF nz (by omega) (by omega) (by omega)).trans wn2))) kp_0))))
      have g5_0 : g5 64 = some (.inr (4, [.ref (ad 65), .int n1u5, .int b1u5])) := by rw [hg5]; exact ups_1
      have g5_1 : g5 65 = some (.inl (cT 0, 48, .inl f1u5)) := by rw [hg5]; exact ups_2 (by decide)
      refine lv_aload_n hx hb dGr_findSplit_115 rfl (lv_at hl 0 rfl) ?_
      refine va_get (D := D) (ci := 7) (v := .ref (ad 64)) (C := R_Gr) (T := T_Gr) (N := 13) hx hb hT in_Gr hown hK (pg_1 (x := 6) hcd hP (by decide) ((fg5 _ (by decide) (by decide)).trans ((fg4 _ (by decide) (by decide)).trans ((fg3 _ (by decide) (by decide)).trans i6)))) 0 rfl rfl 10 (by decide) (hT _ w224) (fun _ h9 => h9) rfl dGr_findSplit_116 ?_
      refine lv_aload_n hx hb dGr_findSplit_119 rfl (lv_at hl 0 rfl) ?_
      refine va_get (D := D) (ci := 7) (v := .ref (ad pb)) (C := R_Gr) (T := T_Gr) (N := 13) hx hb hT in_Gr hown hK (pg_1 (x := 6) hcd hP (by decide) ((fg5 _ (by decide) (by decide)).trans ((fg4 _ (by decide) (by decide)).trans ((fg3 _ (by decide) (by decide)).trans i6)))) 0 rfl rfl 11 (by decide) (hT _ w225) (fun _ h9 => h9) rfl dGr_findSplit_120 ?_
      refine va_get (D := D) (ci := 6) (v := .int bu) (C := R_S) (T := T_S) (N := 7) hx hb hT in_S hown hK (pg_1 (x := pb) hcd hP (by omega) ((fg5 _ (by omega) (by omega)).trans ((fg4 _ (by omega) (by omega)).trans ((fg3 _ (by omega) (by omega)).trans sb1)))) 0 rfl rfl 6 (by decide) (hT _ w198) (fun _ h9 => h9) rfl dGr_findSplit_123 ?_
      refine lv_topi (fun y9 e9 => ?_)
      cases (show y9 = nI bq.2.2.1 from e9.trans f4)
      refine lv_i2l hx hb dGr_findSplit_126 rfl ?_
      refine lv_topl (fun y9 e9 => ?_)
      cases (show y9 = lN bq.2.2.1 from e9.trans (nI_l (n := bq.2.2.1) (by omega)))
      have hB9 : QI g5 [(64, .inr (4, [.ref (ad 65), .int n1u5, .int b1u5])), (65, .inl (cT 0, 48, .inl f1u5))] := (qi_c (by decide) g5_0 (qi_c (by decide) g5_1 qi_0))
      have hN9 := (show NDc [64, 65] from (nd_c (na_c (by decide) na_0) (nd_c na_0 nd_0)))
      have hP := bo_P (wc := [(64, .inr (4, [.ref (ad 65), .int n1u5, .int b1u5])), (65, .inl (cT 0, 48, .inl f1u5))]) (X := []) hcd hN9 hB9 hP
      have hD := bo_D (wc := [(64, .inr (4, [.ref (ad 65), .int n1u5, .int b1u5])), (65, .inl (cT 0, 48, .inl f1u5))]) (X := []) hcd hN9 hB9 hD
      have hP : va_P D vwCl ([(ad 64, .inr (4, [.ref (ad 65), .int n1u5, .int b1u5])), (ad 65, .inl (cT 0, 48, .inl f1u5))] ++ pg cds ad (upo g5 [64, 65])) _ := hP
      have hD : va_D A ([(ad 64, .inr (4, [.ref (ad 65), .int n1u5, .int b1u5])), (ad 65, .inl (cT 0, 48, .inl f1u5))] ++ pg cds ad (upo g5 [64, 65])) := hD
      refine hy_vQ (X := [(ad 64, .inr (4, [.ref (ad 65), .int n1u5, .int b1u5])), (ad 65, .inl (cT 0, 48, .inl f1u5))]) (pl := pg cds ad (upo g5 [64, 65])) (cx := [(ad 64, .inr (4, [.ref (ad 65), .int n1u5, .int b1u5])), (ad 65, .inl (cT 0, 48, .inl f1u5))]) (wr := []) hP hD hS hA [0, 1] [] rfl rfl (by decide) (by decide) (va_runV (As := [.long (lN bq.2.2.1)]) (rest := []) ⟨hx, hb, hml, hown, hT⟩ (k_times l D cT (ad 64) (ad 65) 48 n1u5 b1u5 f1u5 (smv zs x n * smv zs x n) bq.2.2.1 (by decide) d3 (by omega) hq2 _) ⟨callB_of 1 hT (tb_gd w420) rfl rfl rfl (hT _ w5) (hT _ w926) hW_times ⟨Nat.le_of_ble_eq_true rfl, Nat.le_of_ble_eq_true rfl⟩, (hT _ w418), (hT _ w419)⟩ (RW.preV (ci := 4) (q0 := 0) hZ hS (hy_free (cx := [(ad 64, .inr (4, [.ref (ad 65), .int n1u5, .int b1u5])), (ad 65, .inl (cT 0, 48, .inl f1u5))]) hD hS hA [0, 1] rfl) (hP.sub (ws' := [(ad 64, .inr (4, [.ref (ad 65), .int n1u5, .int b1u5])), (ad 65, .inl (cT 0, 48, .inl f1u5))]) [0, 1] rfl) hK (hD.sub (ws' := [(ad 64, .inr (4, [.ref (ad 65), .int n1u5, .int b1u5])), (ad 65, .inl (cT 0, 48, .inl f1u5))]) [0, 1] (by decide) rfl) rfl rfl) rfl rfl hl.1 rfl (lv_room (Nat.le_of_ble_eq_true rfl)) dGr_findSplit_127 ⟨Nat.le_of_ble_eq_true rfl, Nat.le_of_ble_eq_true rfl⟩) (fun u9 H locs hpu6 hP hD hS => ?_)
      obtain ⟨n1u6, f1u6⟩ := u9
      have hpu6 : WN 48 n1u6 b1u5 f1u6 ((smv zs x n * smv zs x n) * bq.2.2.1) := hpu6
      have hP : va_P D vwCl ([(ad 64, .inr (4, [.ref (ad 65), .int n1u6, .int b1u5])), (ad 65, .inl (cT 0, 48, .inl f1u6))] ++ pg cds ad (upo g5 [64, 65])) _ := hP
      have hD : va_D A ([(ad 64, .inr (4, [.ref (ad 65), .int n1u6, .int b1u5])), (ad 65, .inl (cT 0, 48, .inl f1u6))] ++ pg cds ad (upo g5 [64, 65])) := hD
      have d4 := hpu6
      have hN9 := (show NDc [64, 65] from (nd_c (na_c (by decide) na_0) (nd_c na_0 nd_0)))
      have hP := gb_P (w9 := [(64, .inr (4, [.ref (ad 65), .int n1u6, .int b1u5])), (65, .inl (cT 0, 48, .inl f1u6))]) (X := []) (g := g5) hcd hN9 (show QB [(64, .inr (4, [.ref (ad 65), .int n1u6, .int b1u5])), (65, .inl (cT 0, 48, .inl f1u6))] from (qb_c (by decide) (qb_c (by decide) qb_0))) (hP.part (cx := [(ad 64, .inr (4, [.ref (ad 65), .int n1u6, .int b1u5])), (ad 65, .inl (cT 0, 48, .inl f1u6))]) [0, 1] rfl)
      have hD := gb_D (w9 := [(64, .inr (4, [.ref (ad 65), .int n1u6, .int b1u5])), (65, .inl (cT 0, 48, .inl f1u6))]) (X := []) (g := g5) hcd hN9 (show QB [(64, .inr (4, [.ref (ad 65), .int n1u6, .int b1u5])), (65, .inl (cT 0, 48, .inl f1u6))] from (qb_c (by decide) (qb_c (by decide) qb_0))) (hD.part (cx := [(ad 64, .inr (4, [.ref (ad 65), .int n1u6, .int b1u5])), (ad 65, .inl (cT 0, 48, .inl f1u6))]) [0, 1] (by decide) rfl)
      obtain ⟨g6, hg6⟩ : ∃ q9, q9 = ups g5 [(64, .inr (4, [.ref (ad 65), .int n1u6, .int b1u5])), (65, .inl (cT 0, 48, .inl f1u6))] := ⟨_, rfl⟩
      rw [← hg6] at hP hD
      have hP : va_P D vwCl ([] ++ pg cds ad g6) _ := hP
      have hD : va_D A ([] ++ pg cds ad g6) := hD
      have fg6 : ∀ z8, z8 ≠ 64 → z8 ≠ 65 → g6 z8 = g5 z8 := fun z8 z1 z2 => by rw [hg6]; exact ups_k (kp_n z1 (kp_n z2 kp_0))
      have g6_0 : g6 64 = some (.inr (4, [.ref (ad 65), .int n1u6, .int b1u5])) := by rw [hg6]; exact ups_1
      have g6_1 : g6 65 = some (.inl (cT 0, 48, .inl f1u6)) := by rw [hg6]; exact ups_2 (by decide)
      refine lv_aload_n hx hb dGr_findSplit_130 rfl (lv_at hl 0 rfl) ?_
      refine va_get (D := D) (ci := 7) (v := .ref (ad 62)) (C := R_Gr) (T := T_Gr) (N := 13) hx hb hT in_Gr hown hK (pg_1 (x := 6) hcd hP (by decide) ((fg6 _ (by decide) (by decide)).trans ((fg5 _ (by decide) (by decide)).trans ((fg4 _ (by decide) (by decide)).trans ((fg3 _ (by decide) (by decide)).trans i6))))) 0 rfl rfl 9 (by decide) (hT _ w223) (fun _ h9 => h9) rfl dGr_findSplit_131 ?_
      refine lv_aload_n hx hb dGr_findSplit_134 rfl (lv_at hl 0 rfl) ?_
      refine va_get (D := D) (ci := 7) (v := .ref (ad 64)) (C := R_Gr) (T := T_Gr) (N := 13) hx hb hT in_Gr hown hK (pg_1 (x := 6) hcd hP (by decide) ((fg6 _ (by decide) (by decide)).trans ((fg5 _ (by decide) (by decide)).trans ((fg4 _ (by decide) (by decide)).trans ((fg3 _ (by decide) (by decide)).trans i6))))) 0 rfl rfl 10 (by decide) (hT _ w224) (fun _ h9 => h9) rfl dGr_findSplit_135 ?_
      refine ro_i (va_Run.run (va_runV (As := [.ref (ad 64)]) (rest := []) ⟨hx, hb, hml, hown, hT⟩ (k_compare l D cT (ad 62) (ad 63) 48 n1u4 wbb f1u4 (zb * ((cb x + w : Nat) : Int)) (ad 64) (ad 65) 48 n1u6 b1u5 f1u6 (smv zs x n * smv zs x n * (bq.2.2.1 : Int)) (by decide) d2 (by decide) d4) ⟨callB_of 1 hT (tb_gd w485) rfl rfl rfl (hT _ w5) (hT _ w927) hW_compare ⟨Nat.le_of_ble_eq_true rfl, Nat.le_of_ble_eq_true rfl⟩, (hT _ w483), (hT _ w484)⟩ (RO.preV (ci := 4) (q0 := 0) hZ hS ((show va_P D vwCl [(ad 62, .inr (4, [.ref (ad 63), .int n1u4, .int wbb])), (ad 63, .inl (cT 0, 48, .inl f1u4)), (ad 64, .inr (4, [.ref (ad 65), .int n1u6, .int b1u5])), (ad 65, .inl (cT 0, 48, .inl f1u6))] _ from (pv_c (pg_1 (x := 62) hcd hP (by decide) ((fg6 _ (by decide) (by decide)).trans ((fg5 _ (by decide) (by decide)).trans g4_0))) (pv_c (pg_1 (x := 63) hcd hP (by decide) ((fg6 _ (by decide) (by decide)).trans ((fg5 _ (by decide) (by decide)).trans g4_1))) (pv_c (pg_1 (x := 64) hcd hP (by decide) g6_0) (pv_c (pg_1 (x := 65) hcd hP (by decide) g6_1) pv_0)))))) hK rfl rfl) rfl rfl hl.1 rfl (lv_room (Nat.le_of_ble_eq_true rfl)) dGr_findSplit_138 ⟨Nat.le_of_ble_eq_true rfl, Nat.le_of_ble_eq_true rfl⟩)) ?_
      refine lv_if_le (tgt := 148) hx hb dGr_findSplit_141 rfl (fun h7 => ?_) (fun h7 => ?_)
      · refine lv_iconst (v := 0) hx hb dGr_findSplit_148 (by decide) ?_
        have hP9 : va_P D vwCl ([] ++ pg cds ad g6) _ := hP.part (cx := []) [] rfl
        have hD9 : va_D A ([] ++ pg cds ad g6) := hD.part (cx := []) [] (by decide) rfl
        refine W.widen (k := 0) (n := 0) (Nat.le_of_ble_eq_true rfl) (Nat.le_of_ble_eq_true rfl) ?_
        exact W.zret (v := 0) hx hb hr rfl (fun t9 ht9 hW9 => ⟨⟨0, (g6, pb, pt, bq), rfl, (show 0 = bn (decide (0 < (colF zs n w lst vv eg ik ne pcb x wd).1)) ∧ (∀ z8, (z8 < 60 ∨ (72 < z8 ∧ z8 < 200) ∨ 260 ≤ z8) → z8 ≠ 6 → z8 ≠ 8 → g6 z8 = gg z8) ∧ g6 6 = some (eGR ad pb pt) ∧ BTK pb pt ∧ SPL cT ad g6 pb pt ik bq (48 * XB) ∧ SRL (cb x + w) (smv zs x n) bq (colF zs n w lst vv eg ik ne pcb x wd) ∧ SCG cT ad g6 ∧ (∃ f8, g6 8 = some (eA (cT 0) 12 f8)) ∧ ∀ j8, j8 < 15 → ∃ r8 z8, GPp cT ad g6 j8 r8 z8 from ⟨by rw [← eiw, decide_eq_false (fun q => Int32.not_lt.mpr h7 (cz_pos.mpr (hgn.mp q)))]; rfl, fun z8 n1 n2 n3 => ((fg6 z8 (by omega) (by omega)).trans ((fg5 z8 (by omega) (by omega)).trans ((fg4 z8 (by omega) (by omega)).trans (fg3 z8 (by omega) (by omega))))).trans (iF z8 n1 n2 n3), ((fg6 _ (by omega) (by omega)).trans ((fg5 _ (by omega) (by omega)).trans ((fg4 _ (by omega) (by omega)).trans (fg3 _ (by omega) (by omega))))).trans i6, ibt, iS0.cg ibt (fun z h1 h2 => (fg6 z (by omega) (by omega)).trans ((fg5 z (by omega) (by omega)).trans ((fg4 z (by omega) (by omega)).trans (fg3 z (by omega) (by omega))))), (by rw [← eiw]; exact iR), ⟨⟨_, _, _, _, ((fg6 _ (by omega) (by omega)).trans ((fg5 _ (by omega) (by omega)).trans ((fg4 _ (by omega) (by omega)).trans (fg3 _ (by omega) (by omega))))).trans wo1, ((fg6 _ (by omega) (by omega)).trans ((fg5 _ (by omega) (by omega)).trans ((fg4 _ (by omega) (by omega)).trans (fg3 _ (by omega) (by omega))))).trans wo2, wo3⟩, ⟨_, _, _, _, (fg6 _ (by decide) (by decide)).trans ((fg5 _ (by decide) (by decide)).trans g4_0), (fg6 _ (by decide) (by decide)).trans ((fg5 _ (by decide) (by decide)).trans g4_1), d2⟩, ⟨_, _, _, _, g6_0, g6_1, d4⟩⟩, (by obtain ⟨f9, q9⟩ := i8; exact ⟨f9, ((fg6 _ (by omega) (by omega)).trans ((fg5 _ (by omega) (by omega)).trans ((fg4 _ (by omega) (by omega)).trans (fg3 _ (by omega) (by omega))))).trans q9⟩), fun j hj => (by obtain ⟨r, z, e1⟩ := iG j hj; exact ⟨r, z, e1.cg ((fg6 _ (by omega) (by omega)).trans ((fg5 _ (by omega) (by omega)).trans ((fg4 _ (by omega) (by omega)).trans (fg3 _ (by omega) (by omega))))) ((fg6 _ (by omega) (by omega)).trans ((fg5 _ (by omega) (by omega)).trans ((fg4 _ (by omega) (by omega)).trans (fg3 _ (by omega) (by omega))))) ((fg6 _ (by omega) (by omega)).trans ((fg5 _ (by omega) (by omega)).trans ((fg4 _ (by omega) (by omega)).trans (fg3 _ (by omega) (by omega)))))⟩)⟩), by rw [ht9]; exact hP9, hD9⟩, hS.F ht9⟩) hS.2.2 dGr_findSplit_149
      · refine lv_iconst (v := 1) hx hb dGr_findSplit_144 (by decide) ?_
        refine lv_goto (tgt := 149) hx hb dGr_findSplit_145 rfl ?_
        have hP9 : va_P D vwCl ([] ++ pg cds ad g6) _ := hP.part (cx := []) [] rfl
        have hD9 : va_D A ([] ++ pg cds ad g6) := hD.part (cx := []) [] (by decide) rfl
        refine W.widen (k := 0) (n := 0) (Nat.le_of_ble_eq_true rfl) (Nat.le_of_ble_eq_true rfl) ?_
        exact W.zret (v := 1) hx hb hr rfl (fun t9 ht9 hW9 => ⟨⟨1, (g6, pb, pt, bq), rfl, (show 1 = bn (decide (0 < (colF zs n w lst vv eg ik ne pcb x wd).1)) ∧ (∀ z8, (z8 < 60 ∨ (72 < z8 ∧ z8 < 200) ∨ 260 ≤ z8) → z8 ≠ 6 → z8 ≠ 8 → g6 z8 = gg z8) ∧ g6 6 = some (eGR ad pb pt) ∧ BTK pb pt ∧ SPL cT ad g6 pb pt ik bq (48 * XB) ∧ SRL (cb x + w) (smv zs x n) bq (colF zs n w lst vv eg ik ne pcb x wd) ∧ SCG cT ad g6 ∧ (∃ f8, g6 8 = some (eA (cT 0) 12 f8)) ∧ ∀ j8, j8 < 15 → ∃ r8 z8, GPp cT ad g6 j8 r8 z8 from ⟨by rw [← eiw, decide_eq_true (hgn.mpr (cz_pos.mp (Int32.not_le.mp h7)))]; rfl, fun z8 n1 n2 n3 => ((fg6 z8 (by omega) (by omega)).trans ((fg5 z8 (by omega) (by omega)).trans ((fg4 z8 (by omega) (by omega)).trans (fg3 z8 (by omega) (by omega))))).trans (iF z8 n1 n2 n3), ((fg6 _ (by omega) (by omega)).trans ((fg5 _ (by omega) (by omega)).trans ((fg4 _ (by omega) (by omega)).trans (fg3 _ (by omega) (by omega))))).trans i6, ibt, iS0.cg ibt (fun z h1 h2 => (fg6 z (by omega) (by omega)).trans ((fg5 z (by omega) (by omega)).trans ((fg4 z (by omega) (by omega)).trans (fg3 z (by omega) (by omega))))), (by rw [← eiw]; exact iR), ⟨⟨_, _, _, _, ((fg6 _ (by omega) (by omega)).trans ((fg5 _ (by omega) (by omega)).trans ((fg4 _ (by omega) (by omega)).trans (fg3 _ (by omega) (by omega))))).trans wo1, ((fg6 _ (by omega) (by omega)).trans ((fg5 _ (by omega) (by omega)).trans ((fg4 _ (by omega) (by omega)).trans (fg3 _ (by omega) (by omega))))).trans wo2, wo3⟩, ⟨_, _, _, _, (fg6 _ (by decide) (by decide)).trans ((fg5 _ (by decide) (by decide)).trans g4_0), (fg6 _ (by decide) (by decide)).trans ((fg5 _ (by decide) (by decide)).trans g4_1), d2⟩, ⟨_, _, _, _, g6_0, g6_1, d4⟩⟩, (by obtain ⟨f9, q9⟩ := i8; exact ⟨f9, ((fg6 _ (by omega) (by omega)).trans ((fg5 _ (by omega) (by omega)).trans ((fg4 _ (by omega) (by omega)).trans (fg3 _ (by omega) (by omega))))).trans q9⟩), fun j hj => (by obtain ⟨r, z, e1⟩ := iG j hj; exact ⟨r, z, e1.cg ((fg6 _ (by omega) (by omega)).trans ((fg5 _ (by omega) (by omega)).trans ((fg4 _ (by omega) (by omega)).trans (fg3 _ (by omega) (by omega))))) ((fg6 _ (by omega) (by omega)).trans ((fg5 _ (by omega) (by omega)).trans ((fg4 _ (by omega) (by omega)).trans (fg3 _ (by omega) (by omega))))) ((fg6 _ (by omega) (by omega)).trans ((fg5 _ (by omega) (by omega)).trans ((fg4 _ (by omega) (by omega)).trans (fg3 _ (by omega) (by omega)))))⟩)⟩), by rw [ht9]; exact hP9, hD9⟩, hS.F ht9⟩) hS.2.2 dGr_findSplit_149
    · refine lv_iconst (v := 0) hx hb dGr_findSplit_64 (by decide) ?_
      have hP9 : va_P D vwCl ([] ++ pg cds ad g2) _ := hP.part (cx := []) [] rfl
      have hD9 : va_D A ([] ++ pg cds ad g2) := hD.part (cx := []) [] (by decide) rfl
      refine W.widen (k := 0) (n := 0) (Nat.le_of_ble_eq_true rfl) (Nat.le_of_ble_eq_true rfl) ?_
      exact W.zret (v := 0) hx hb hr rfl (fun t9 ht9 hW9 => ⟨⟨0, (g2, pb, pt, bq), rfl, (show 0 = bn (decide (0 < (colF zs n w lst vv eg ik ne pcb x wd).1)) ∧ (∀ z8, (z8 < 60 ∨ (72 < z8 ∧ z8 < 200) ∨ 260 ≤ z8) → z8 ≠ 6 → z8 ≠ 8 → g2 z8 = gg z8) ∧ g2 6 = some (eGR ad pb pt) ∧ BTK pb pt ∧ SPL cT ad g2 pb pt ik bq (48 * XB) ∧ SRL (cb x + w) (smv zs x n) bq (colF zs n w lst vv eg ik ne pcb x wd) ∧ SCG cT ad g2 ∧ (∃ f8, g2 8 = some (eA (cT 0) 12 f8)) ∧ ∀ j8, j8 < 15 → ∃ r8 z8, GPp cT ad g2 j8 r8 z8 from ⟨by rw [← eiw, decide_eq_false (srl_none iR (sb4.elim (fun q => q.1) (fun q => absurd h2 q.2.1)))]; rfl, iF, i6, ibt, iS0, (by rw [← eiw]; exact iR), ⟨⟨_, _, _, _, wo1, wo2, wo3⟩, ⟨_, _, _, _, wsc1, wsc2, wsc3⟩, ⟨_, _, _, _, wot1, wot2, wot3⟩⟩, i8, iG⟩), by rw [ht9]; exact hP9, hD9⟩, hS.F ht9⟩) hS.2.2 dGr_findSplit_65
  · have gh1 : i < wd := Nat.not_le.mp (fun q => h1 ((nI_leI (a := wd) (b := i) (by omega) (by omega)).mpr q))
    refine lv_aload_n hx hb dGr_findSplit_23 rfl (lv_at hl 0 rfl) ?_
    refine va_get (D := D) (ci := 7) (v := .ref (ad 4)) (C := R_Gr) (T := T_Gr) (N := 13) hx hb hT in_Gr hown hK (pg_1 (x := 6) hcd hP (by decide) i6) 0 rfl rfl 1 (by decide) (hT _ w215) (fun _ h9 => h9) rfl dGr_findSplit_24 ?_
    refine va_get (D := D) (ci := 3) (v := .int pcb) (C := R_P) (T := T_P) (N := 7) hx hb hT in_P hown hK (pg_1 (x := 4) hcd hP (by decide) ((iF 4 (by omega) (by omega) (by omega)).trans hpl)) 0 rfl rfl 6 (by decide) (hT _ w118) (fun _ h9 => h9) rfl dGr_findSplit_27 ?_
    refine lv_iload hx hb dGr_findSplit_30 (lv_at hl 3 rfl) ?_
    refine lv_ishr hx hb dGr_findSplit_32 ?_
    refine lv_iconst (v := 1) hx hb dGr_findSplit_33 (by decide) ?_
    refine lv_iand hx hb dGr_findSplit_34 ?_
    refine lv_iconst (v := 1) hx hb dGr_findSplit_35 (by decide) ?_
    refine lv_icmp_ne (tgt := 47) hx hb dGr_findSplit_36 rfl (fun h8 => ?_) (fun h8 => ?_)
    · have hcb9 : ¬ (pcb >>> (nI i &&& 31)) &&& 1 = 1 := h8
      refine lv_iinc (k := 3) (v := nI (i + 1)) hx hb dGr_findSplit_47 hl rfl (nI_1 i) (by decide) rfl (fun ls hl => ?_)
      have hl : lv_has ls 5 [(4, .int (nI (i + 1))), (0, .ref (ad 6)), (1, .ref (ad nx)), (2, .long x)] := hl
      refine lv_goto (tgt := 11) hx hb dGr_findSplit_50 rfl ?_
      exact ih11 (i + 1, pb, pt, bq, g2) (show (i + 1) ≤ wd ∧ (∀ z8, (z8 < 60 ∨ (72 < z8 ∧ z8 < 200) ∨ 260 ≤ z8) → z8 ≠ 6 → z8 ≠ 8 → g2 z8 = gg z8) ∧ g2 6 = some (eGR ad pb pt) ∧ BTK pb pt ∧ SPL cT ad g2 pb pt ik bq (48 * XB) ∧ SCG cT ad g2 ∧ (∃ f9, g2 8 = some (eA (cT 0) 12 f9)) ∧ (∀ j9, j9 < 15 → ∃ r9 z9, GPp cT ad g2 j9 r9 z9) ∧ SRL (cb x + w) (smv zs x n) bq (colF zs n w lst vv eg ik ne pcb x (i + 1)) ∧ 0 < (colF zs n w lst vv eg ik ne pcb x (i + 1)).2.1 from ⟨by omega, iF, i6, ibt, iS, iC, i8, iG, by rw [col_x hcb9]; exact iR, by rw [col_x hcb9]; exact iP⟩) (show wd - (i + 1) < wd - i from (by omega)) ls H locs (lv_sub hl [1, 2, 3, 0] rfl) hP hD hS
    · have hcb9 : (pcb >>> (nI i &&& 31)) &&& 1 = 1 := h8
      have hi6 : i < 6 := by omega
      obtain ⟨f9, i8⟩ := i8
      refine lv_aload_n hx hb dGr_findSplit_39 rfl (lv_at hl 0 rfl) ?_
      refine lv_iload hx hb dGr_findSplit_40 (lv_at hl 3 rfl) ?_
      refine lv_aload_n hx hb dGr_findSplit_42 rfl (lv_at hl 1 rfl) ?_
      refine lv_lload_n hx hb dGr_findSplit_43 rfl (lv_at hl 2 rfl) ?_
      by_cases hk : ik i = 0
      · refine hy_vP (X := []) (pl := pg cds ad g2) (cx := []) (wr := []) hP hD hS hA [] [] rfl rfl (by decide) (by decide) (va_runV (As := [.int (nI i), .ref (ad nx), .long x]) (rest := []) ⟨hx, hb, hml, hown, hT⟩ (k_tryN l D cT cds ad g2 pb pt wd9 rw9 n zs XB vv vq eg ik ne pd pu pq9 psb pcb w lst f9 i x nx ny nz nq0 nq1 nq2 nq3 nq4 nq5 nq7 bq hcd i6 ((iF 1 (by omega) (by omega) (by omega)).trans htb) hrn hn48 (hRs.cg (iF _ (by omega) (by omega) (by omega)) (fun z h1 h2 => iF z (by omega) (by omega) (by omega))) hXB hfit ibt iS iC (by obtain ⟨qg, e1, e2⟩ := hGa; exact ⟨qg, (iF _ (by omega) (by omega) (by omega)).trans e1, e2⟩) iG (hCa.cg (iF _ (by omega) (by omega) (by omega))) (hCf.cg (fun z h1 h2 => iF z (by omega) (by omega) (by omega))) hne hik hi6 ((iF 4 (by omega) (by omega) (by omega)).trans hpl) hls2 hw20 i8 ((iF _ (by omega) (by omega) (by omega)).trans hnd) (hns0.cg (iF _ (by omega) (by omega) (by omega)) (iF _ (by omega) (by omega) (by omega))) (⟨n1, n2, n3, n4, n5, n6, n7, n8, n9⟩) hAn hB2 hB3 hB4 hk (hS9 i hi6 hk) _) ⟨callB_of 3 hT (tb_gd w900) rfl rfl rfl (hT _ w6) (hT _ w897) hGr_tryColumn ⟨Nat.le_of_ble_eq_true rfl, Nat.le_of_ble_eq_true rfl⟩, (hT _ w899), (hT _ wp15)⟩ (RW.preW (ci := 7) (q0 := 0) hZ hS (va_freeP (cx := []) hD hS hA [] rfl) (hP.part (cx := []) [] rfl) hK (hD.part (cx := []) [] (by decide) rfl) (pg_1 (x := 6) hcd hP (by decide) i6) rfl rfl) rfl rfl hl.1 rfl (lv_room (Nat.le_of_ble_eq_true rfl)) dGr_findSplit_44 ⟨Nat.le_of_ble_eq_true rfl, Nat.le_of_ble_eq_true rfl⟩) (fun u9 H locs hpu9 hP hD hS => ?_)
        obtain ⟨gg7u9, b7u9, t7u9⟩ := u9
        have hpu9 : (∀ z8, (z8 < 60 ∨ (72 < z8 ∧ z8 < 200) ∨ 260 ≤ z8) → z8 ≠ 6 → z8 ≠ 8 → gg7u9 z8 = g2 z8) ∧ gg7u9 6 = some (eGR ad b7u9 t7u9) ∧ BTK b7u9 t7u9 ∧ SPL cT ad gg7u9 b7u9 t7u9 ik (clE zs n w lst vv eg i x (mrw vv i n x) bq (ne i)) (48 * XB) ∧ SCG cT ad gg7u9 ∧ (∃ f8, gg7u9 8 = some (eA (cT 0) 12 f8)) ∧ ∀ j8, j8 < 15 → ∃ r8 z8, GPp cT ad gg7u9 j8 r8 z8 := hpu9
        have hP : va_P D vwCl ([] ++ pg cds ad gg7u9) _ := hP
        have hD : va_D A ([] ++ pg cds ad gg7u9) := hD
        obtain ⟨tF, t6, tb, tS, tC, t8, tG⟩ := hpu9
        have tR := col_n (ne := ne) (by omega) hls2.1 hcb9 hk iR iP
        refine lv_iinc (k := 3) (v := nI (i + 1)) hx hb dGr_findSplit_47 hl rfl (nI_1 i) (by decide) rfl (fun ls hl => ?_)
        have hl : lv_has ls 5 [(4, .int (nI (i + 1))), (0, .ref (ad 6)), (1, .ref (ad nx)), (2, .long x)] := hl
        refine lv_goto (tgt := 11) hx hb dGr_findSplit_50 rfl ?_
        exact ih11 (i + 1, b7u9, t7u9, clE zs n w lst vv eg i x (mrw vv i n x) bq (ne i), gg7u9) (show (i + 1) ≤ wd ∧ (∀ z8, (z8 < 60 ∨ (72 < z8 ∧ z8 < 200) ∨ 260 ≤ z8) → z8 ≠ 6 → z8 ≠ 8 → gg7u9 z8 = gg z8) ∧ gg7u9 6 = some (eGR ad b7u9 t7u9) ∧ BTK b7u9 t7u9 ∧ SPL cT ad gg7u9 b7u9 t7u9 ik (clE zs n w lst vv eg i x (mrw vv i n x) bq (ne i)) (48 * XB) ∧ SCG cT ad gg7u9 ∧ (∃ f9, gg7u9 8 = some (eA (cT 0) 12 f9)) ∧ (∀ j9, j9 < 15 → ∃ r9 z9, GPp cT ad gg7u9 j9 r9 z9) ∧ SRL (cb x + w) (smv zs x n) (clE zs n w lst vv eg i x (mrw vv i n x) bq (ne i)) (colF zs n w lst vv eg ik ne pcb x (i + 1)) ∧ 0 < (colF zs n w lst vv eg ik ne pcb x (i + 1)).2.1 from ⟨by omega, fun z8 n1 n2 n3 => (tF z8 n1 n2 n3).trans (iF z8 n1 n2 n3), t6, tb, tS, tC, t8, tG, tR.1, tR.2⟩) (show wd - (i + 1) < wd - i from (by omega)) ls H locs (lv_sub hl [1, 2, 3, 0] rfl) hP hD hS
      · refine hy_vP (X := []) (pl := pg cds ad g2) (cx := []) (wr := []) hP hD hS hA [] [] rfl rfl (by decide) (by decide) (va_runV (As := [.int (nI i), .ref (ad nx), .long x]) (rest := []) ⟨hx, hb, hml, hown, hT⟩ (k_tryK l D cT cds ad g2 pb pt wd9 rw9 n zs XB vv vq eg ik ne pd pu pq9 psb pcb w lst f9 i x nx ny nz nq0 nq1 nq2 nq3 nq4 nq5 nq7 bq hcd i6 ((iF 1 (by omega) (by omega) (by omega)).trans htb) hrn hn48 (hRs.cg (iF _ (by omega) (by omega) (by omega)) (fun z h1 h2 => iF z (by omega) (by omega) (by omega))) hXB hfit ibt iS iC (by obtain ⟨qg, e1, e2⟩ := hGa; exact ⟨qg, (iF _ (by omega) (by omega) (by omega)).trans e1, e2⟩) iG (hCa.cg (iF _ (by omega) (by omega) (by omega))) (hCf.cg (fun z h1 h2 => iF z (by omega) (by omega) (by omega))) hne hik hi6 ((iF 4 (by omega) (by omega) (by omega)).trans hpl) hls2 hw20 i8 ((iF _ (by omega) (by omega) (by omega)).trans hnd) (hns0.cg (iF _ (by omega) (by omega) (by omega)) (iF _ (by omega) (by omega) (by omega))) (⟨n1, n2, n3, n4, n5, n6, n7, n8, n9⟩) hAn hB2 hB3 hB4 hk (hVk i hi6 hk) hB5 _) ⟨callB_of 3 hT (tb_gd w900) rfl rfl rfl (hT _ w6) (hT _ w897) hGr_tryColumn ⟨Nat.le_of_ble_eq_true rfl, Nat.le_of_ble_eq_true rfl⟩, (hT _ w899), (hT _ wp15)⟩ (RW.preW (ci := 7) (q0 := 0) hZ hS (va_freeP (cx := []) hD hS hA [] rfl) (hP.part (cx := []) [] rfl) hK (hD.part (cx := []) [] (by decide) rfl) (pg_1 (x := 6) hcd hP (by decide) i6) rfl rfl) rfl rfl hl.1 rfl (lv_room (Nat.le_of_ble_eq_true rfl)) dGr_findSplit_44 ⟨Nat.le_of_ble_eq_true rfl, Nat.le_of_ble_eq_true rfl⟩) (fun u9 H locs hpu10 hP hD hS => ?_)
        obtain ⟨gg7u10, b7u10, t7u10, od7u10, F7u10⟩ := u9
        have hpu10 : KOR zs n w vv i x od7u10 F7u10 ∧ F7u10 ≤ 12 ∧ (∀ z8, (z8 < 60 ∨ (72 < z8 ∧ z8 < 200) ∨ 260 ≤ z8) → z8 ≠ 6 → z8 ≠ 8 → gg7u10 z8 = g2 z8) ∧ gg7u10 6 = some (eGR ad b7u10 t7u10) ∧ BTK b7u10 t7u10 ∧ SPL cT ad gg7u10 b7u10 t7u10 ik (clK zs n w lst vv i x (mrw vv i n x) od7u10 bq (F7u10 - 1)) (48 * XB) ∧ SCG cT ad gg7u10 ∧ (∃ f8, gg7u10 8 = some (eA (cT 0) 12 f8)) ∧ ∀ j8, j8 < 15 → ∃ r8 z8, GPp cT ad gg7u10 j8 r8 z8 := hpu10
        have hP : va_P D vwCl ([] ++ pg cds ad gg7u10) _ := hP
        have hD : va_D A ([] ++ pg cds ad gg7u10) := hD
        obtain ⟨tK, tF12, tF, t6, tb, tS, tC, t8, tG⟩ := hpu10
        have tR := col_k (eg := eg) (ne := ne) (by omega) hls2.1 hcb9 hk tK tF12 iR iP
        refine lv_iinc (k := 3) (v := nI (i + 1)) hx hb dGr_findSplit_47 hl rfl (nI_1 i) (by decide) rfl (fun ls hl => ?_)
        have hl : lv_has ls 5 [(4, .int (nI (i + 1))), (0, .ref (ad 6)), (1, .ref (ad nx)), (2, .long x)] := hl
        refine lv_goto (tgt := 11) hx hb dGr_findSplit_50 rfl ?_
        exact ih11 (i + 1, b7u10, t7u10, clK zs n w lst vv i x (mrw vv i n x) od7u10 bq (F7u10 - 1), gg7u10) (show (i + 1) ≤ wd ∧ (∀ z8, (z8 < 60 ∨ (72 < z8 ∧ z8 < 200) ∨ 260 ≤ z8) → z8 ≠ 6 → z8 ≠ 8 → gg7u10 z8 = gg z8) ∧ gg7u10 6 = some (eGR ad b7u10 t7u10) ∧ BTK b7u10 t7u10 ∧ SPL cT ad gg7u10 b7u10 t7u10 ik (clK zs n w lst vv i x (mrw vv i n x) od7u10 bq (F7u10 - 1)) (48 * XB) ∧ SCG cT ad gg7u10 ∧ (∃ f9, gg7u10 8 = some (eA (cT 0) 12 f9)) ∧ (∀ j9, j9 < 15 → ∃ r9 z9, GPp cT ad gg7u10 j9 r9 z9) ∧ SRL (cb x + w) (smv zs x n) (clK zs n w lst vv i x (mrw vv i n x) od7u10 bq (F7u10 - 1)) (colF zs n w lst vv eg ik ne pcb x (i + 1)) ∧ 0 < (colF zs n w lst vv eg ik ne pcb x (i + 1)).2.1 from ⟨by omega, fun z8 n1 n2 n3 => (tF z8 n1 n2 n3).trans (iF z8 n1 n2 n3), t6, tb, tS, tC, t8, tG, tR.1, tR.2⟩) (show wd - (i + 1) < wd - i from (by omega)) ls H locs (lv_sub hl [1, 2, 3, 0] rfl) hP hD hS
