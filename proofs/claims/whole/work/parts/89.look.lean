/-! kinds that are taken: bits of an Int32 -/
def tk (x : Int32) (j : Nat) : Bool := x.toBitVec.getLsbD j
theorem tk_c : ∀ k, k < 32 → (nI k &&& 31) = nI k := by decide +kernel
theorem tk_sm : ∀ k, k < 32 → ((nI k).toBitVec.smod 32).toNat = k := by decide +kernel
theorem tk_sh (x : Int32) {j : Nat} (hj : j < 32) : (x >>> (nI j &&& 31)) &&& 1 = if tk x j = true then 1 else 0 := by
  rw [tk_c j hj]
  apply Int32.toBitVec_inj.mp
  rw [Int32.toBitVec_and]
  have e : (x >>> nI j).toBitVec = x.toBitVec.sshiftRight j := by
    show x.toBitVec.sshiftRight' ((nI j).toBitVec.smod 32) = _
    show x.toBitVec.sshiftRight ((nI j).toBitVec.smod 32).toNat = _
    rw [tk_sm j hj]
  rw [e]
  show x.toBitVec.sshiftRight j &&& 1#32 = _
  rw [BitVec.and_one_eq_setWidth_ofBool_getLsbD, BitVec.getLsbD_sshiftRight]
  have hb : tk x j = x.toBitVec.getLsbD j := rfl
  rw [hb]
  simp only [Nat.add_zero, hj, if_true]
  cases x.toBitVec.getLsbD j <;> decide
theorem tk_0 (x : Int32) {j : Nat} (hj : j < 32) : (x >>> (nI j &&& 31)) &&& 1 = 0 ↔ tk x j = false := by
  rw [tk_sh x hj]
  cases tk x j
  · exact ⟨fun _ => rfl, fun _ => rfl⟩
  · exact ⟨fun q => absurd q (by decide), fun q => absurd q (by decide)⟩
theorem tk_one : ∀ k, k < 32 → ((1 : Int32) <<< (nI k &&& 31)).toBitVec = BitVec.twoPow 32 k := by decide +kernel
theorem tk_or (x : Int32) {j i : Nat} (hj : j < 32) (hi : i < 32) : tk (x ||| ((1 : Int32) <<< (nI j &&& 31))) i = (tk x i || decide (i = j)) := by
  unfold tk
  rw [Int32.toBitVec_or, BitVec.getLsbD_or, tk_one j hj, BitVec.getLsbD_twoPow]
  by_cases h : i = j
  · subst h; simp [hi]
  · simp [h, show ¬ j = i by omega]
/-- how many of the first k kinds aren't taken -/
def ukn (x : Int32) : Nat → Nat
  | 0 => 0
  | k + 1 => ukn x k + if tk x k = true then 0 else 1
theorem ukn_le (x : Int32) : ∀ k, ukn x k ≤ k
  | 0 => Nat.le_refl _
  | k + 1 => by
    have := ukn_le x k
    show ukn x k + _ ≤ _
    split <;> omega
theorem ukn_or (x : Int32) {j : Nat} (hj : j < 32) (h : tk x j = false) : ∀ k, k ≤ 12 → ukn (x ||| ((1 : Int32) <<< (nI j &&& 31))) k + (if j < k then 1 else 0) = ukn x k
  | 0, _ => by
    rw [if_neg (by omega)]; rfl
  | k + 1, hk => by
    have ih := ukn_or x hj h k (by omega)
    show ukn _ k + (if tk (x ||| ((1 : Int32) <<< (nI j &&& 31))) k = true then 0 else 1) + _ = ukn x k + (if tk x k = true then 0 else 1)
    by_cases e : k = j
    · subst e
      have e1 : tk (x ||| ((1 : Int32) <<< (nI k &&& 31))) k = true := by
        rw [tk_or x hj hj]
        simp
      rw [if_neg (Nat.lt_irrefl k)] at ih
      rw [if_pos e1, if_pos (show k < k + 1 by omega), if_neg (show ¬ tk x k = true by rw [h]; decide)]
      omega
    · have e1 : tk (x ||| ((1 : Int32) <<< (nI j &&& 31))) k = tk x k := by
        rw [tk_or x hj (by omega)]
        simp [e]
      rw [e1]
      by_cases f : j < k
      · rw [if_pos f] at ih
        rw [if_pos (show j < k + 1 by omega)]
        omega
      · rw [if_neg f] at ih
        rw [if_neg (show ¬ j < k + 1 by omega)]
        omega
/-- the kinds' splits: taken one by one in the order of their means -/
def lkk (zr : Nat → Int) (n w lst : Nat) (vv : Nat → Int32) (c : Nat) (A M : Int64) : Nat → Int32 → Int64 → BST → BST
  | 0, _, _, b => b
  | f + 1, bits, side, b =>
    if nxk zr n w vv c A bits 12 < 0 then b
    else lkk zr n w lst vv c A M f (bits ||| ((1 : Int32) <<< (nxk zr n w vv c A bits 12 &&& 31))) (side ||| (rwk vv c (nxk zr n w vv c A bits 12) n &&& A))
      (if nxk zr n w vv c A (bits ||| ((1 : Int32) <<< (nxk zr n w vv c A bits 12 &&& 31))) 12 < 0 then b
       else lks zr n w lst A M b (side ||| (rwk vv c (nxk zr n w vv c A bits 12) n &&& A)) (nI c) (bits ||| ((1 : Int32) <<< (nxk zr n w vv c A bits 12 &&& 31))))
theorem lkk_0 {zr : Nat → Int} {n w lst : Nat} {vv : Nat → Int32} {c : Nat} {A M : Int64} {bits : Int32} {side : Int64} {b : BST} (h : nxk zr n w vv c A bits 12 < 0) : ∀ f, lkk zr n w lst vv c A M f bits side b = b
  | 0 => rfl
  | f + 1 => if_pos h
theorem lkk_s {zr : Nat → Int} {n w lst : Nat} {vv : Nat → Int32} {c : Nat} {A M : Int64} {bits : Int32} {side : Int64} {b : BST} {f : Nat} (h : ¬ nxk zr n w vv c A bits 12 < 0) {bits2 : Int32} {side2 : Int64} (hb : bits2 = bits ||| ((1 : Int32) <<< (nxk zr n w vv c A bits 12 &&& 31))) (hs : side2 = side ||| (rwk vv c (nxk zr n w vv c A bits 12) n &&& A)) :
    lkk zr n w lst vv c A M (f + 1) bits side b = lkk zr n w lst vv c A M f bits2 side2 (if nxk zr n w vv c A bits2 12 < 0 then b else lks zr n w lst A M b side2 (nI c) bits2) := by
  subst hb hs
  exact if_neg h
set_option maxHeartbeats 4000000 in
set_option maxRecDepth 100000 in
theorem m_next (l : Launch) (D : va_G) (cT : Nat → ClassId) (y : Nat) (yr : Nat → Nat) (yi : Nat → Int32) (ysb : Int64) (ybs : Int64) (n : Nat) (w : Nat) (zr : Nat → Int) (ZB : Nat) (fr : Nat → Int32) (AA : Int64) (vv : Nat → Int32) (k0 : Nat → Int32) (k1 : Nat → Int32) (k2 : Nat → Int32) (c0 : Nat) (bits : Int32) (hn : yi 3 = nI n) (hn2 : n ≤ 48) (hw9 : yi 12 = nI w) (hw20 : w ≤ 20) (hM : ∀ k, k < n → MR fr (132 * k) (zr k)) (hZB : ∀ k, k < n → (zr k).natAbs ≤ ZB) (hzf : 100 * ZB < 268435456 ^ 250) (hfit : (100 * ZB) * (100 * ZB) * 1000000000000 < 268435456 ^ 130) (hc0 : c0 < 6) (sz : Nat) : Met l yM_nextKind WM_nextKind ({ frames := 5, cells := 0, slots := 0, locals := 125 } : Room) (RW D vwCl [.ref y, .long AA, .int (nI c0), .int bits] [(y, .inr (11, MO yr yi ysb ybs)), (yr 45, .inl (cT 0, 6336, .inl fr)), (yr 5, .inl (cT 0, 288, .inl vv)), (yr 30, .inl (cT 0, 302, .inl k0)), (yr 33, .inl (cT 0, 302, .inl k1)), (yr 34, .inl (cT 0, 302, .inl k2))] (TY cT) sz) (va_Qi (fun (r9 : Int32) (u9 : (Nat → Int32) × (Nat → Int32) × (Nat → Int32)) => r9 = nxk zr n w vv c0 AA bits 12) (BW D vwCl (va_A [(y, .inr (11, MO yr yi ysb ybs)), (yr 45, .inl (cT 0, 6336, .inl fr)), (yr 5, .inl (cT 0, 288, .inl vv)), (yr 30, .inl (cT 0, 302, .inl k0)), (yr 33, .inl (cT 0, 302, .inl k1)), (yr 34, .inl (cT 0, 302, .inl k2))] sz) (fun u9 : (Nat → Int32) × (Nat → Int32) × (Nat → Int32) => [(y, .inr (11, MO yr yi ysb ybs)), (yr 45, .inl (cT 0, 6336, .inl fr)), (yr 5, .inl (cT 0, 288, .inl vv)), (yr 30, .inl (cT 0, 302, .inl u9.1)), (yr 33, .inl (cT 0, 302, .inl u9.2.1)), (yr 34, .inl (cT 0, 302, .inl u9.2.2))])) (va_A [(y, .inr (11, MO yr yi ysb ybs)), (yr 45, .inl (cT 0, 6336, .inl fr)), (yr 5, .inl (cT 0, 288, .inl vv)), (yr 30, .inl (cT 0, 302, .inl k0)), (yr 33, .inl (cT 0, 302, .inl k1)), (yr 34, .inl (cT 0, 302, .inl k2))] sz)) 0 0 (va_A [(y, .inr (11, MO yr yi ysb ybs)), (yr 45, .inl (cT 0, 6336, .inl fr)), (yr 5, .inl (cT 0, 288, .inl vv)), (yr 30, .inl (cT 0, 302, .inl k0)), (yr 33, .inl (cT 0, 302, .inl k1)), (yr 34, .inl (cT 0, 302, .inl k2))] sz) := by
  refine Met.ofW (cc := cM_nextKind) (maxL := 9) (ret := (some .int)) (by decide) rfl ?_
  intro p e s m args below meth c s₁ B hml hv
  obtain ⟨rfl, hsz, hZ, hP, hK, hD0⟩ := hv
  have hx := B.exec
  have hb := B.bytes
  have hr := B.returns
  have hts := atoms_spec (ws := WM_nextKind) B.pre
  have hT : ∀ w ∈ TB, w.before _ s = true := fun w h => hts w (List.mem_cons_of_mem _ h)
  have hown : s.vm.findClass R_M = some m.cls := findClass_of_methodNamed B.named
  have hlocks := B.notSynchronized
  subst hsz
  have hD := hD0.self (sz := s.heap.size)
  generalize hAe : va_A [(y, .inr (11, MO yr yi ysb ybs)), (yr 45, .inl (cT 0, 6336, .inl fr)), (yr 5, .inl (cT 0, 288, .inl vv)), (yr 30, .inl (cT 0, 302, .inl k0)), (yr 33, .inl (cT 0, 302, .inl k1)), (yr 34, .inl (cT 0, 302, .inl k2))] s.heap.size = A at hD hZ ⊢
  have hA : ∀ q : Nat, s.heap.size ≤ q → A q := fun q h => by rw [← hAe]; exact Or.inr h
  have hS : va_S A s.heap s.heap [] := va_S.rf
  have hl := lv_entry ([.ref y, .long AA, .int (nI c0), .int bits]) (n := 9) (Nat.le_of_ble_eq_true rfl)
  rw [lg_entry_eq]
  generalize (lg_sl ([.ref y, .long AA, .int (nI c0), .int bits]) ++ List.replicate (9 - (lg_sl ([.ref y, .long AA, .int (nI c0), .int bits])).length) Slot.unset).toArray = ls at hl ⊢
  have hl : lv_has ls 9 [(0, .ref y), (1, .long AA), (3, .int (nI c0)), (4, .int bits)] := hl
  refine lv_iconst (v := (-1)) hx hb dM_nextKind_0 (by decide) ?_
  refine lv_istore hx hb dM_nextKind_1 hl (by decide) rfl (fun ls hl => ?_)
  have hl : lv_has ls 9 [(5, .int (-1)), (0, .ref y), (1, .long AA), (3, .int (nI c0)), (4, .int bits)] := hl
  refine lv_iconst (v := 0) hx hb dM_nextKind_3 (by decide) ?_
  refine lv_istore hx hb dM_nextKind_4 hl (by decide) rfl (fun ls hl => ?_)
  have hl : lv_has ls 9 [(6, .int 0), (5, .int (-1)), (0, .ref y), (1, .long AA), (3, .int (nI c0)), (4, .int bits)] := hl
  refine lp_w (α := Nat × (Nat → Int32) × (Nat → Int32) × (Nat → Int32)) (fun a9 => a9.1 ≤ 12) (fun a9 => 12 - a9.1) (fun a9 => [(0, .ref y), (1, .long AA), (3, .int (nI c0)), (4, .int bits), (5, .int (nxk zr n w vv c0 AA bits a9.1)), (6, .int (nI a9.1))]) (fun a9 => [(y, .inr (11, MO yr yi ysb ybs)), (yr 45, .inl (cT 0, 6336, .inl fr)), (yr 5, .inl (cT 0, 288, .inl vv)), (yr 30, .inl (cT 0, 302, .inl a9.2.1)), (yr 33, .inl (cT 0, 302, .inl a9.2.2.1)), (yr 34, .inl (cT 0, 302, .inl a9.2.2.2))]) 6 ?_ (0, k0, k1, k2) (show 0 ≤ 12 from by omega) (lv_sub hl [2, 3, 4, 5, 1, 0] rfl) hP hD hS
  intro a9 hI6 ih6 ls H locs hl hP hD hS
  obtain ⟨k, q0, q1, q2⟩ := a9
  have hI6 : k ≤ 12 := hI6
  have hl : lv_has ls 9 [(0, .ref y), (1, .long AA), (3, .int (nI c0)), (4, .int bits), (5, .int (nxk zr n w vv c0 AA bits k)), (6, .int (nI k))] := hl
  have hP : va_P D vwCl [(y, .inr (11, MO yr yi ysb ybs)), (yr 45, .inl (cT 0, 6336, .inl fr)), (yr 5, .inl (cT 0, 288, .inl vv)), (yr 30, .inl (cT 0, 302, .inl q0)), (yr 33, .inl (cT 0, 302, .inl q1)), (yr 34, .inl (cT 0, 302, .inl q2))] _ := hP
  have hD : va_D A [(y, .inr (11, MO yr yi ysb ybs)), (yr 45, .inl (cT 0, 6336, .inl fr)), (yr 5, .inl (cT 0, 288, .inl vv)), (yr 30, .inl (cT 0, 302, .inl q0)), (yr 33, .inl (cT 0, 302, .inl q1)), (yr 34, .inl (cT 0, 302, .inl q2))] := hD
  refine lv_iload hx hb dM_nextKind_6 (lv_at hl 5 rfl) ?_
  refine lv_bipush (v := 12) hx hb dM_nextKind_8 (by decide) ?_
  refine lv_icmp_ge (tgt := 81) hx hb dM_nextKind_10 rfl (fun h1 => ?_) (fun h1 => ?_)
  · have gh1 : 12 ≤ k := (nI_leI (a := 12) (b := k) (by omega) (by omega)).mp h1
    have ek : k = 12 := by omega
    subst ek
    have hl : lv_has ls 9 [(0, .ref y), (1, .long AA), (3, .int (nI c0)), (4, .int bits), (5, .int (nxk zr n w vv c0 AA bits 12)), (6, .int (nI 12))] := hl
    have hP : va_P D vwCl [(y, .inr (11, MO yr yi ysb ybs)), (yr 45, .inl (cT 0, 6336, .inl fr)), (yr 5, .inl (cT 0, 288, .inl vv)), (yr 30, .inl (cT 0, 302, .inl q0)), (yr 33, .inl (cT 0, 302, .inl q1)), (yr 34, .inl (cT 0, 302, .inl q2))] _ := hP
    have hD : va_D A [(y, .inr (11, MO yr yi ysb ybs)), (yr 45, .inl (cT 0, 6336, .inl fr)), (yr 5, .inl (cT 0, 288, .inl vv)), (yr 30, .inl (cT 0, 302, .inl q0)), (yr 33, .inl (cT 0, 302, .inl q1)), (yr 34, .inl (cT 0, 302, .inl q2))] := hD
    refine lv_iload hx hb dM_nextKind_81 (lv_at hl 4 rfl) ?_
    have hP9 := hP.sub (ws' := [(y, .inr (11, MO yr yi ysb ybs)), (yr 45, .inl (cT 0, 6336, .inl fr)), (yr 5, .inl (cT 0, 288, .inl vv)), (yr 30, .inl (cT 0, 302, .inl q0)), (yr 33, .inl (cT 0, 302, .inl q1)), (yr 34, .inl (cT 0, 302, .inl q2))]) [0, 1, 2, 3, 4, 5] rfl
    have hD9 := hD.sub (ws' := [(y, .inr (11, MO yr yi ysb ybs)), (yr 45, .inl (cT 0, 6336, .inl fr)), (yr 5, .inl (cT 0, 288, .inl vv)), (yr 30, .inl (cT 0, 302, .inl q0)), (yr 33, .inl (cT 0, 302, .inl q1)), (yr 34, .inl (cT 0, 302, .inl q2))]) [0, 1, 2, 3, 4, 5] (by decide) rfl
    refine W.widen (k := 0) (n := 0) (Nat.le_of_ble_eq_true rfl) (Nat.le_of_ble_eq_true rfl) ?_
    exact W.iret (v := nxk zr n w vv c0 AA bits 12) hx hb hr (fun t9 ht9 hW9 => ⟨⟨nxk zr n w vv c0 AA bits 12, (q0, q1, q2), rfl, (show (nxk zr n w vv c0 AA bits 12) = nxk zr n w vv c0 AA bits 12 from rfl), by rw [ht9]; exact hP9, hD9⟩, hS.F ht9⟩) hS.2.2 dM_nextKind_83
  · have gh1 : k < 12 := Nat.not_le.mp (fun q => h1 ((nI_leI (a := 12) (b := k) (by omega) (by omega)).mpr q))
    refine lv_aload_n hx hb dM_nextKind_13 rfl (lv_at hl 0 rfl) ?_
    refine lv_lload_n hx hb dM_nextKind_14 rfl (lv_at hl 1 rfl) ?_
    refine lv_iload_n hx hb dM_nextKind_15 rfl (lv_at hl 2 rfl) ?_
    refine lv_iload hx hb dM_nextKind_16 (lv_at hl 5 rfl) ?_
    refine ro_l (va_Run.run (va_runV (As := [.long AA, .int (nI c0), .int (nI k)]) (rest := []) ⟨hx, hb, hml, hown, hT⟩ (m_rows l D cT y yr yi ysb ybs vv n AA c0 (nI k) hn hn2 hc0) ⟨callB_of 3 hT (tb_gd w1480) rfl rfl rfl (hT _ w13) (hT _ w1477) hM_rowsOf ⟨Nat.le_of_ble_eq_true rfl, Nat.le_of_ble_eq_true rfl⟩, (hT _ w1479), (hT _ wp49)⟩ (RO.preV (ci := 11) (q0 := 0) hZ hS (hP.sub (ws' := [(y, .inr (11, MO yr yi ysb ybs)), (yr 5, .inl (cT 0, 288, .inl vv))]) [0, 2] rfl) hK rfl rfl) rfl rfl hl.1 rfl (lv_room (Nat.le_of_ble_eq_true rfl)) dM_nextKind_18 ⟨Nat.le_of_ble_eq_true rfl, Nat.le_of_ble_eq_true rfl⟩)) ?_
    refine lv_lstore hx hb dM_nextKind_21 hl (by decide) rfl (fun ls hl => ?_)
    have hl : lv_has ls 9 [(7, .long ((rwk vv c0 (nI k) n) &&& AA)), (0, .ref y), (1, .long AA), (3, .int (nI c0)), (4, .int bits), (5, .int (nxk zr n w vv c0 AA bits k)), (6, .int (nI k))] := hl
    refine lv_iload hx hb dM_nextKind_23 (lv_at hl 4 rfl) ?_
    refine lv_iload hx hb dM_nextKind_25 (lv_at hl 6 rfl) ?_
    refine lv_ishr hx hb dM_nextKind_27 ?_
    refine lv_iconst (v := 1) hx hb dM_nextKind_28 (by decide) ?_
    refine lv_iand hx hb dM_nextKind_29 ?_
    refine lv_if_ne (tgt := 75) hx hb dM_nextKind_30 rfl (fun h2 => ?_) (fun h2 => ?_)
    · have hl : lv_has ls 9 [(7, .long ((rwk vv c0 (nI k) n) &&& AA)), (0, .ref y), (1, .long AA), (3, .int (nI c0)), (4, .int bits), (5, .int (nxk zr n w vv c0 AA bits (k + 1))), (6, .int (nI k))] := by
        rw [nxk_f (fun q => h2 q.1)]; exact hl
      refine lv_iinc (k := 6) (v := nI (k + 1)) hx hb dM_nextKind_75 hl rfl (nI_1 k) (by decide) rfl (fun ls hl => ?_)
      have hl : lv_has ls 9 [(6, .int (nI (k + 1))), (7, .long ((rwk vv c0 (nI k) n) &&& AA)), (0, .ref y), (1, .long AA), (3, .int (nI c0)), (4, .int bits), (5, .int (nxk zr n w vv c0 AA bits (k + 1)))] := hl
      refine lv_goto (tgt := 6) hx hb dM_nextKind_78 rfl ?_
      exact ih6 (k + 1, q0, q1, q2) (show (k + 1) ≤ 12 from by omega) (show 12 - (k + 1) < 12 - k from (by omega)) ls H locs (lv_sub hl [2, 3, 4, 5, 6, 0] rfl) hP hD hS
    · refine lv_lload hx hb dM_nextKind_33 (lv_at hl 0 rfl) ?_
      refine lv_lconst (v := 0) hx hb dM_nextKind_35 (by decide) ?_
      refine W.lcmp hx hb dM_nextKind_36 ?_
      refine lv_if_eq (tgt := 75) hx hb dM_nextKind_37 rfl (fun h3 => ?_) (fun h3 => ?_)
      · have hl : lv_has ls 9 [(7, .long ((rwk vv c0 (nI k) n) &&& AA)), (0, .ref y), (1, .long AA), (3, .int (nI c0)), (4, .int bits), (5, .int (nxk zr n w vv c0 AA bits (k + 1))), (6, .int (nI k))] := by
          rw [nxk_f (fun q => q.2.1 ((lg_cmp_eq _ _).mp h3))]; exact hl
        refine lv_iinc (k := 6) (v := nI (k + 1)) hx hb dM_nextKind_75 hl rfl (nI_1 k) (by decide) rfl (fun ls hl => ?_)
        have hl : lv_has ls 9 [(6, .int (nI (k + 1))), (7, .long ((rwk vv c0 (nI k) n) &&& AA)), (0, .ref y), (1, .long AA), (3, .int (nI c0)), (4, .int bits), (5, .int (nxk zr n w vv c0 AA bits (k + 1)))] := hl
        refine lv_goto (tgt := 6) hx hb dM_nextKind_78 rfl ?_
        exact ih6 (k + 1, q0, q1, q2) (show (k + 1) ≤ 12 from by omega) (show 12 - (k + 1) < 12 - k from (by omega)) ls H locs (lv_sub hl [2, 3, 4, 5, 6, 0] rfl) hP hD hS
      · have hwn : ¬ (rwk vv c0 (nI k) n &&& AA) = 0 := fun q => h3 ((lg_cmp_eq _ _).mpr q)
        refine lv_iload hx hb dM_nextKind_40 (lv_at hl 5 rfl) ?_
        refine lv_if_lt (tgt := 66) hx hb dM_nextKind_42 rfl (fun h4 => ?_) (fun h4 => ?_)
        · refine lv_iload hx hb dM_nextKind_66 (lv_at hl 6 rfl) ?_
          refine lv_goto (tgt := 73) hx hb dM_nextKind_68 rfl ?_
          refine lv_topi (fun y9 e9 => ?_)
          cases (show y9 = nxk zr n w vv c0 AA bits (k + 1) from e9.trans ((nxk_t h2 hwn (Or.inl h4)).symm))
          refine lv_istore hx hb dM_nextKind_73 hl (by decide) rfl (fun ls hl => ?_)
          have hl : lv_has ls 9 [(5, .int (nxk zr n w vv c0 AA bits (k + 1))), (7, .long ((rwk vv c0 (nI k) n) &&& AA)), (0, .ref y), (1, .long AA), (3, .int (nI c0)), (4, .int bits), (6, .int (nI k))] := hl
          refine lv_iinc (k := 6) (v := nI (k + 1)) hx hb dM_nextKind_75 hl rfl (nI_1 k) (by decide) rfl (fun ls hl => ?_)
          have hl : lv_has ls 9 [(6, .int (nI (k + 1))), (5, .int (nxk zr n w vv c0 AA bits (k + 1))), (7, .long ((rwk vv c0 (nI k) n) &&& AA)), (0, .ref y), (1, .long AA), (3, .int (nI c0)), (4, .int bits)] := hl
          refine lv_goto (tgt := 6) hx hb dM_nextKind_78 rfl ?_
          exact ih6 (k + 1, q0, q1, q2) (show (k + 1) ≤ 12 from by omega) (show 12 - (k + 1) < 12 - k from (by omega)) ls H locs (lv_sub hl [3, 4, 5, 6, 1, 0] rfl) hP hD hS
        · have hfn : ¬ (rwk vv c0 (nxk zr n w vv c0 AA bits k) n &&& AA) = 0 := by
            rcases nxk_ok (zr := zr) (n := n) (w := w) (vv := vv) (c := c0) (A := AA) (bits := bits) k (by omega) with q | ⟨j, _, q1, _, q2⟩
            · exact absurd q h4
            · rw [q1]; exact q2
          refine lv_aload_n hx hb dM_nextKind_45 rfl (lv_at hl 1 rfl) ?_
          refine lv_lload hx hb dM_nextKind_46 (lv_at hl 0 rfl) ?_
          refine lv_iload hx hb dM_nextKind_48 (lv_at hl 6 rfl) ?_
          refine lv_aload_n hx hb dM_nextKind_50 rfl (lv_at hl 1 rfl) ?_
          refine lv_lload_n hx hb dM_nextKind_51 rfl (lv_at hl 2 rfl) ?_
          refine lv_iload_n hx hb dM_nextKind_52 rfl (lv_at hl 3 rfl) ?_
          refine lv_iload hx hb dM_nextKind_53 (lv_at hl 5 rfl) ?_
          refine ro_l (va_Run.run (va_runV (As := [.long AA, .int (nI c0), .int (nxk zr n w vv c0 AA bits k)]) (rest := [.int (nI k), .long ((rwk vv c0 (nI k) n) &&& AA), .ref y]) ⟨hx, hb, hml, hown, hT⟩ (m_rows l D cT y yr yi ysb ybs vv n AA c0 (nxk zr n w vv c0 AA bits k) hn hn2 hc0) ⟨callB_of 3 hT (tb_gd w1480) rfl rfl rfl (hT _ w13) (hT _ w1477) hM_rowsOf ⟨Nat.le_of_ble_eq_true rfl, Nat.le_of_ble_eq_true rfl⟩, (hT _ w1479), (hT _ wp49)⟩ (RO.preV (ci := 11) (q0 := 0) hZ hS (hP.sub (ws' := [(y, .inr (11, MO yr yi ysb ybs)), (yr 5, .inl (cT 0, 288, .inl vv))]) [0, 2] rfl) hK rfl rfl) rfl rfl hl.1 rfl (lv_room (Nat.le_of_ble_eq_true rfl)) dM_nextKind_55 ⟨Nat.le_of_ble_eq_true rfl, Nat.le_of_ble_eq_true rfl⟩)) ?_
          refine lv_iload hx hb dM_nextKind_58 (lv_at hl 5 rfl) ?_
          refine rw_i (wc := [(y, .inr (11, MO yr yi ysb ybs)), (yr 45, .inl (cT 0, 6336, .inl fr)), (yr 30, .inl (cT 0, 302, .inl q0)), (yr 33, .inl (cT 0, 302, .inl q1)), (yr 34, .inl (cT 0, 302, .inl q2))]) (wr := [(yr 5, .inl (cT 0, 288, .inl vv))]) hP hD hS hA [0, 1, 3, 4, 5] [2] rfl rfl (by decide) (by decide) (va_runV (As := [.long ((rwk vv c0 (nI k) n) &&& AA), .int (nI k), .long ((rwk vv c0 (nxk zr n w vv c0 AA bits k) n) &&& AA), .int (nxk zr n w vv c0 AA bits k)]) (rest := []) ⟨hx, hb, hml, hown, hT⟩ (m_before l D cT y yr yi ysb ybs n w zr ZB fr q0 q1 q2 (rwk vv c0 (nI k) n &&& AA) (nI k) (rwk vv c0 (nxk zr n w vv c0 AA bits k) n &&& AA) (nxk zr n w vv c0 AA bits k) hn hn2 hw9 hw20 hM hZB hzf hfit (sub_and (sub_rwk hn2)) (sub_and (sub_rwk hn2)) (cb_pos hwn) (cb_pos hfn) _) ⟨callB_of 4 hT (tb_gd w1484) rfl rfl rfl (hT _ w13) (hT _ w1481) hM_isBefore ⟨Nat.le_of_ble_eq_true rfl, Nat.le_of_ble_eq_true rfl⟩, (hT _ w1483), (hT _ wp50)⟩ (RW.preV (ci := 11) (q0 := 0) hZ hS (va_free (wc := [(y, .inr (11, MO yr yi ysb ybs)), (yr 45, .inl (cT 0, 6336, .inl fr)), (yr 30, .inl (cT 0, 302, .inl q0)), (yr 33, .inl (cT 0, 302, .inl q1)), (yr 34, .inl (cT 0, 302, .inl q2))]) hD hS hA [0, 1, 3, 4, 5] rfl) (hP.sub (ws' := [(y, .inr (11, MO yr yi ysb ybs)), (yr 45, .inl (cT 0, 6336, .inl fr)), (yr 30, .inl (cT 0, 302, .inl q0)), (yr 33, .inl (cT 0, 302, .inl q1)), (yr 34, .inl (cT 0, 302, .inl q2))]) [0, 1, 3, 4, 5] rfl) hK (hD.sub (ws' := [(y, .inr (11, MO yr yi ysb ybs)), (yr 45, .inl (cT 0, 6336, .inl fr)), (yr 30, .inl (cT 0, 302, .inl q0)), (yr 33, .inl (cT 0, 302, .inl q1)), (yr 34, .inl (cT 0, 302, .inl q2))]) [0, 1, 3, 4, 5] (by decide) rfl) rfl rfl) rfl rfl hl.1 rfl (lv_room (Nat.le_of_ble_eq_true rfl)) dM_nextKind_60 ⟨Nat.le_of_ble_eq_true rfl, Nat.le_of_ble_eq_true rfl⟩) (fun ru5 u9 H locs hpu5 hP hD hS => ?_)
          obtain ⟨t0u5, t1u5, t2u5⟩ := u9
          have hpu5 : ru5 = bn (bef zr n w (rwk vv c0 (nI k) n &&& AA) (nI k) (rwk vv c0 (nxk zr n w vv c0 AA bits k) n &&& AA) (nxk zr n w vv c0 AA bits k)) := hpu5
          have hP : va_P D vwCl [(yr 5, .inl (cT 0, 288, .inl vv)), (y, .inr (11, MO yr yi ysb ybs)), (yr 45, .inl (cT 0, 6336, .inl fr)), (yr 30, .inl (cT 0, 302, .inl t0u5)), (yr 33, .inl (cT 0, 302, .inl t1u5)), (yr 34, .inl (cT 0, 302, .inl t2u5))] _ := hP
          have hD : va_D A [(yr 5, .inl (cT 0, 288, .inl vv)), (y, .inr (11, MO yr yi ysb ybs)), (yr 45, .inl (cT 0, 6336, .inl fr)), (yr 30, .inl (cT 0, 302, .inl t0u5)), (yr 33, .inl (cT 0, 302, .inl t1u5)), (yr 34, .inl (cT 0, 302, .inl t2u5))] := hD
          refine lv_if_eq (tgt := 71) hx hb dM_nextKind_63 rfl (fun h6 => ?_) (fun h6 => ?_)
          · refine lv_iload hx hb dM_nextKind_71 (lv_at hl 5 rfl) ?_
            refine lv_topi (fun y9 e9 => ?_)
            cases (show y9 = nxk zr n w vv c0 AA bits (k + 1) from e9.trans ((nxk_f (fun q => q.2.2.elim h4 (fun r => by have q1 := bn_0.mp (hpu5.symm.trans h6); rw [r] at q1; exact absurd q1 (by decide)))).symm))
            refine lv_istore hx hb dM_nextKind_73 hl (by decide) rfl (fun ls hl => ?_)
            have hl : lv_has ls 9 [(5, .int (nxk zr n w vv c0 AA bits (k + 1))), (7, .long ((rwk vv c0 (nI k) n) &&& AA)), (0, .ref y), (1, .long AA), (3, .int (nI c0)), (4, .int bits), (6, .int (nI k))] := hl
            refine lv_iinc (k := 6) (v := nI (k + 1)) hx hb dM_nextKind_75 hl rfl (nI_1 k) (by decide) rfl (fun ls hl => ?_)
            have hl : lv_has ls 9 [(6, .int (nI (k + 1))), (5, .int (nxk zr n w vv c0 AA bits (k + 1))), (7, .long ((rwk vv c0 (nI k) n) &&& AA)), (0, .ref y), (1, .long AA), (3, .int (nI c0)), (4, .int bits)] := hl
            refine lv_goto (tgt := 6) hx hb dM_nextKind_78 rfl ?_
            exact ih6 (k + 1, t0u5, t1u5, t2u5) (show (k + 1) ≤ 12 from by omega) (show 12 - (k + 1) < 12 - k from (by omega)) ls H locs (lv_sub hl [3, 4, 5, 6, 1, 0] rfl) (hP.sub (ws' := [(y, .inr (11, MO yr yi ysb ybs)), (yr 45, .inl (cT 0, 6336, .inl fr)), (yr 5, .inl (cT 0, 288, .inl vv)), (yr 30, .inl (cT 0, 302, .inl t0u5)), (yr 33, .inl (cT 0, 302, .inl t1u5)), (yr 34, .inl (cT 0, 302, .inl t2u5))]) [1, 2, 0, 3, 4, 5] rfl) (hD.sub (ws' := [(y, .inr (11, MO yr yi ysb ybs)), (yr 45, .inl (cT 0, 6336, .inl fr)), (yr 5, .inl (cT 0, 288, .inl vv)), (yr 30, .inl (cT 0, 302, .inl t0u5)), (yr 33, .inl (cT 0, 302, .inl t1u5)), (yr 34, .inl (cT 0, 302, .inl t2u5))]) [1, 2, 0, 3, 4, 5] (by decide) rfl) hS
          · refine lv_iload hx hb dM_nextKind_66 (lv_at hl 6 rfl) ?_
            refine lv_goto (tgt := 73) hx hb dM_nextKind_68 rfl ?_
            refine lv_topi (fun y9 e9 => ?_)
            cases (show y9 = nxk zr n w vv c0 AA bits (k + 1) from e9.trans ((nxk_t h2 hwn (Or.inr (bt_nf (fun q => h6 (by rw [hpu5]; exact bn_0.mpr q))))).symm))
            refine lv_istore hx hb dM_nextKind_73 hl (by decide) rfl (fun ls hl => ?_)
            have hl : lv_has ls 9 [(5, .int (nxk zr n w vv c0 AA bits (k + 1))), (7, .long ((rwk vv c0 (nI k) n) &&& AA)), (0, .ref y), (1, .long AA), (3, .int (nI c0)), (4, .int bits), (6, .int (nI k))] := hl
            refine lv_iinc (k := 6) (v := nI (k + 1)) hx hb dM_nextKind_75 hl rfl (nI_1 k) (by decide) rfl (fun ls hl => ?_)
            have hl : lv_has ls 9 [(6, .int (nI (k + 1))), (5, .int (nxk zr n w vv c0 AA bits (k + 1))), (7, .long ((rwk vv c0 (nI k) n) &&& AA)), (0, .ref y), (1, .long AA), (3, .int (nI c0)), (4, .int bits)] := hl
            refine lv_goto (tgt := 6) hx hb dM_nextKind_78 rfl ?_
            exact ih6 (k + 1, t0u5, t1u5, t2u5) (show (k + 1) ≤ 12 from by omega) (show 12 - (k + 1) < 12 - k from (by omega)) ls H locs (lv_sub hl [3, 4, 5, 6, 1, 0] rfl) (hP.sub (ws' := [(y, .inr (11, MO yr yi ysb ybs)), (yr 45, .inl (cT 0, 6336, .inl fr)), (yr 5, .inl (cT 0, 288, .inl vv)), (yr 30, .inl (cT 0, 302, .inl t0u5)), (yr 33, .inl (cT 0, 302, .inl t1u5)), (yr 34, .inl (cT 0, 302, .inl t2u5))]) [1, 2, 0, 3, 4, 5] rfl) (hD.sub (ws' := [(y, .inr (11, MO yr yi ysb ybs)), (yr 45, .inl (cT 0, 6336, .inl fr)), (yr 5, .inl (cT 0, 288, .inl vv)), (yr 30, .inl (cT 0, 302, .inl t0u5)), (yr 33, .inl (cT 0, 302, .inl t1u5)), (yr 34, .inl (cT 0, 302, .inl t2u5))]) [1, 2, 0, 3, 4, 5] (by decide) rfl) hS
set_option maxHeartbeats 4000000 in
set_option maxRecDepth 100000 in
theorem m_lkinds (l : Launch) (D : va_G) (cT : Nat → ClassId) (y : Nat) (yr : Nat → Nat) (yi : Nat → Int32) (ysb : Int64) (ybs : Int64) (n : Nat) (w : Nat) (lst : Nat) (zr : Nat → Int) (ZB : Nat) (fr : Nat → Int32) (AA : Int64) (vv : Nat → Int32) (fb : Nat → Int32) (k0 : Nat → Int32) (k1 : Nat → Int32) (k2 : Nat → Int32) (k3 : Nat → Int32) (k4 : Nat → Int32) (k5 : Nat → Int32) (k6 : Nat → Int32) (b : BST) (MM : Int64) (c0 : Nat) (hn : yi 3 = nI n) (hn2 : n ≤ 48) (hw9 : yi 12 = nI w) (hw20 : w ≤ 20) (hls : yi 11 = nI lst) (hls2 : 1 ≤ lst ∧ lst ≤ 24) (hM : ∀ k, k < n → MR fr (132 * k) (zr k)) (hZB : ∀ k, k < n → (zr k).natAbs ≤ ZB) (hzf : 100 * ZB < 268435456 ^ 250) (hfit : (100 * ZB) * (100 * ZB) * 1000000000000 < 268435456 ^ 130) (hB : BSF yi ybs fb b ((100 * ZB) * (100 * ZB) * 20000)) (hA9 : SUBn AA n) (hM9 : SUBn MM n) (hc0 : c0 < 6) (sz : Nat) : Met l yM_lookAtKinds WM_lookAtKinds ({ frames := 6, cells := 0, slots := 0, locals := 158 } : Room) (RW D vwCl [.ref y, .long AA, .long MM, .int (nI c0)] [(y, .inr (11, MO yr yi ysb ybs)), (yr 45, .inl (cT 0, 6336, .inl fr)), (yr 5, .inl (cT 0, 288, .inl vv)), (yr 36, .inl (cT 0, 302, .inl fb)), (yr 30, .inl (cT 0, 302, .inl k0)), (yr 33, .inl (cT 0, 302, .inl k1)), (yr 34, .inl (cT 0, 302, .inl k2)), (yr 32, .inl (cT 0, 302, .inl k3)), (yr 35, .inl (cT 0, 302, .inl k4)), (yr 31, .inl (cT 0, 302, .inl k5)), (yr 39, .inl (cT 0, 302, .inl k6))] (TY cT) sz) (va_Qv (fun u9 : BST × (Nat → Int32) × Int64 × (Nat → Int32) × (Nat → Int32) × (Nat → Int32) × (Nat → Int32) × (Nat → Int32) × (Nat → Int32) × (Nat → Int32) × (Nat → Int32) => u9.1 = lkk zr n w lst vv c0 AA MM 13 0 0 b ∧ BSF u9.2.1 u9.2.2.1 u9.2.2.2.1 u9.1 ((100 * ZB) * (100 * ZB) * 20000) ∧ YKP yi u9.2.1) (BW D vwCl (va_A [(y, .inr (11, MO yr yi ysb ybs)), (yr 45, .inl (cT 0, 6336, .inl fr)), (yr 5, .inl (cT 0, 288, .inl vv)), (yr 36, .inl (cT 0, 302, .inl fb)), (yr 30, .inl (cT 0, 302, .inl k0)), (yr 33, .inl (cT 0, 302, .inl k1)), (yr 34, .inl (cT 0, 302, .inl k2)), (yr 32, .inl (cT 0, 302, .inl k3)), (yr 35, .inl (cT 0, 302, .inl k4)), (yr 31, .inl (cT 0, 302, .inl k5)), (yr 39, .inl (cT 0, 302, .inl k6))] sz) (fun u9 : BST × (Nat → Int32) × Int64 × (Nat → Int32) × (Nat → Int32) × (Nat → Int32) × (Nat → Int32) × (Nat → Int32) × (Nat → Int32) × (Nat → Int32) × (Nat → Int32) => [(y, .inr (11, MO yr u9.2.1 ysb u9.2.2.1)), (yr 45, .inl (cT 0, 6336, .inl fr)), (yr 5, .inl (cT 0, 288, .inl vv)), (yr 36, .inl (cT 0, 302, .inl u9.2.2.2.1)), (yr 30, .inl (cT 0, 302, .inl u9.2.2.2.2.1)), (yr 33, .inl (cT 0, 302, .inl u9.2.2.2.2.2.1)), (yr 34, .inl (cT 0, 302, .inl u9.2.2.2.2.2.2.1)), (yr 32, .inl (cT 0, 302, .inl u9.2.2.2.2.2.2.2.1)), (yr 35, .inl (cT 0, 302, .inl u9.2.2.2.2.2.2.2.2.1)), (yr 31, .inl (cT 0, 302, .inl u9.2.2.2.2.2.2.2.2.2.1)), (yr 39, .inl (cT 0, 302, .inl u9.2.2.2.2.2.2.2.2.2.2))])) (va_A [(y, .inr (11, MO yr yi ysb ybs)), (yr 45, .inl (cT 0, 6336, .inl fr)), (yr 5, .inl (cT 0, 288, .inl vv)), (yr 36, .inl (cT 0, 302, .inl fb)), (yr 30, .inl (cT 0, 302, .inl k0)), (yr 33, .inl (cT 0, 302, .inl k1)), (yr 34, .inl (cT 0, 302, .inl k2)), (yr 32, .inl (cT 0, 302, .inl k3)), (yr 35, .inl (cT 0, 302, .inl k4)), (yr 31, .inl (cT 0, 302, .inl k5)), (yr 39, .inl (cT 0, 302, .inl k6))] sz)) 0 0 (va_A [(y, .inr (11, MO yr yi ysb ybs)), (yr 45, .inl (cT 0, 6336, .inl fr)), (yr 5, .inl (cT 0, 288, .inl vv)), (yr 36, .inl (cT 0, 302, .inl fb)), (yr 30, .inl (cT 0, 302, .inl k0)), (yr 33, .inl (cT 0, 302, .inl k1)), (yr 34, .inl (cT 0, 302, .inl k2)), (yr 32, .inl (cT 0, 302, .inl k3)), (yr 35, .inl (cT 0, 302, .inl k4)), (yr 31, .inl (cT 0, 302, .inl k5)), (yr 39, .inl (cT 0, 302, .inl k6))] sz) := by
  refine Met.ofW (cc := cM_lookAtKinds) (maxL := 10) (ret := none) (by decide) rfl ?_
  intro p e s m args below meth c s₁ B hml hv
  obtain ⟨rfl, hsz, hZ, hP, hK, hD0⟩ := hv
  have hx := B.exec
  have hb := B.bytes
  have hr := B.returns
  have hts := atoms_spec (ws := WM_lookAtKinds) B.pre
  have hT : ∀ w ∈ TB, w.before _ s = true := fun w h => hts w (List.mem_cons_of_mem _ h)
  have hown : s.vm.findClass R_M = some m.cls := findClass_of_methodNamed B.named
  have hlocks := B.notSynchronized
  subst hsz
  have hD := hD0.self (sz := s.heap.size)
  generalize hAe : va_A [(y, .inr (11, MO yr yi ysb ybs)), (yr 45, .inl (cT 0, 6336, .inl fr)), (yr 5, .inl (cT 0, 288, .inl vv)), (yr 36, .inl (cT 0, 302, .inl fb)), (yr 30, .inl (cT 0, 302, .inl k0)), (yr 33, .inl (cT 0, 302, .inl k1)), (yr 34, .inl (cT 0, 302, .inl k2)), (yr 32, .inl (cT 0, 302, .inl k3)), (yr 35, .inl (cT 0, 302, .inl k4)), (yr 31, .inl (cT 0, 302, .inl k5)), (yr 39, .inl (cT 0, 302, .inl k6))] s.heap.size = A at hD hZ ⊢
  have hA : ∀ q : Nat, s.heap.size ≤ q → A q := fun q h => by rw [← hAe]; exact Or.inr h
  have hS : va_S A s.heap s.heap [] := va_S.rf
  have hl := lv_entry ([.ref y, .long AA, .long MM, .int (nI c0)]) (n := 10) (Nat.le_of_ble_eq_true rfl)
  rw [lg_entry_eq]
  generalize (lg_sl ([.ref y, .long AA, .long MM, .int (nI c0)]) ++ List.replicate (10 - (lg_sl ([.ref y, .long AA, .long MM, .int (nI c0)])).length) Slot.unset).toArray = ls at hl ⊢
  have hl : lv_has ls 10 [(0, .ref y), (1, .long AA), (3, .long MM), (5, .int (nI c0))] := hl
  refine lv_iconst (v := 0) hx hb dM_lookAtKinds_0 (by decide) ?_
  refine lv_istore hx hb dM_lookAtKinds_1 hl (by decide) rfl (fun ls hl => ?_)
  have hl : lv_has ls 10 [(6, .int 0), (0, .ref y), (1, .long AA), (3, .long MM), (5, .int (nI c0))] := hl
  refine lv_lconst (v := 0) hx hb dM_lookAtKinds_3 (by decide) ?_
  refine lv_lstore hx hb dM_lookAtKinds_4 hl (by decide) rfl (fun ls hl => ?_)
  have hl : lv_has ls 10 [(7, .long 0), (6, .int 0), (0, .ref y), (1, .long AA), (3, .long MM), (5, .int (nI c0))] := hl
  refine lv_aload_n hx hb dM_lookAtKinds_6 rfl (lv_at hl 2 rfl) ?_
  refine lv_lload_n hx hb dM_lookAtKinds_7 rfl (lv_at hl 3 rfl) ?_
  refine lv_iload hx hb dM_lookAtKinds_8 (lv_at hl 5 rfl) ?_
  refine lv_iload hx hb dM_lookAtKinds_10 (lv_at hl 1 rfl) ?_
  refine rw_i (wc := [(y, .inr (11, MO yr yi ysb ybs)), (yr 45, .inl (cT 0, 6336, .inl fr)), (yr 5, .inl (cT 0, 288, .inl vv)), (yr 30, .inl (cT 0, 302, .inl k0)), (yr 33, .inl (cT 0, 302, .inl k1)), (yr 34, .inl (cT 0, 302, .inl k2))]) (wr := [(yr 36, .inl (cT 0, 302, .inl fb)), (yr 32, .inl (cT 0, 302, .inl k3)), (yr 35, .inl (cT 0, 302, .inl k4)), (yr 31, .inl (cT 0, 302, .inl k5)), (yr 39, .inl (cT 0, 302, .inl k6))]) hP hD hS hA [0, 1, 2, 4, 5, 6] [3, 7, 8, 9, 10] rfl rfl (by decide) (by decide) (va_runV (As := [.long AA, .int (nI c0), .int 0]) (rest := []) ⟨hx, hb, hml, hown, hT⟩ (m_next l D cT y yr yi ysb ybs n w zr ZB fr AA vv k0 k1 k2 c0 0 hn hn2 hw9 hw20 hM hZB hzf hfit hc0 _) ⟨callB_of 3 hT (tb_gd w1476) rfl rfl rfl (hT _ w13) (hT _ w1473) hM_nextKind ⟨Nat.le_of_ble_eq_true rfl, Nat.le_of_ble_eq_true rfl⟩, (hT _ w1475), (hT _ wp48)⟩ (RW.preV (ci := 11) (q0 := 0) hZ hS (va_free (wc := [(y, .inr (11, MO yr yi ysb ybs)), (yr 45, .inl (cT 0, 6336, .inl fr)), (yr 5, .inl (cT 0, 288, .inl vv)), (yr 30, .inl (cT 0, 302, .inl k0)), (yr 33, .inl (cT 0, 302, .inl k1)), (yr 34, .inl (cT 0, 302, .inl k2))]) hD hS hA [0, 1, 2, 4, 5, 6] rfl) (hP.sub (ws' := [(y, .inr (11, MO yr yi ysb ybs)), (yr 45, .inl (cT 0, 6336, .inl fr)), (yr 5, .inl (cT 0, 288, .inl vv)), (yr 30, .inl (cT 0, 302, .inl k0)), (yr 33, .inl (cT 0, 302, .inl k1)), (yr 34, .inl (cT 0, 302, .inl k2))]) [0, 1, 2, 4, 5, 6] rfl) hK (hD.sub (ws' := [(y, .inr (11, MO yr yi ysb ybs)), (yr 45, .inl (cT 0, 6336, .inl fr)), (yr 5, .inl (cT 0, 288, .inl vv)), (yr 30, .inl (cT 0, 302, .inl k0)), (yr 33, .inl (cT 0, 302, .inl k1)), (yr 34, .inl (cT 0, 302, .inl k2))]) [0, 1, 2, 4, 5, 6] (by decide) rfl) rfl rfl) rfl rfl hl.1 rfl (lv_room (Nat.le_of_ble_eq_true rfl)) dM_lookAtKinds_12 ⟨Nat.le_of_ble_eq_true rfl, Nat.le_of_ble_eq_true rfl⟩) (fun ru1 u9 H locs hpu1 hP hD hS => ?_)
  obtain ⟨t0u1, t1u1, t2u1⟩ := u9
  have hpu1 : ru1 = nxk zr n w vv c0 AA 0 12 := hpu1
  have hP : va_P D vwCl [(yr 36, .inl (cT 0, 302, .inl fb)), (yr 32, .inl (cT 0, 302, .inl k3)), (yr 35, .inl (cT 0, 302, .inl k4)), (yr 31, .inl (cT 0, 302, .inl k5)), (yr 39, .inl (cT 0, 302, .inl k6)), (y, .inr (11, MO yr yi ysb ybs)), (yr 45, .inl (cT 0, 6336, .inl fr)), (yr 5, .inl (cT 0, 288, .inl vv)), (yr 30, .inl (cT 0, 302, .inl t0u1)), (yr 33, .inl (cT 0, 302, .inl t1u1)), (yr 34, .inl (cT 0, 302, .inl t2u1))] _ := hP
  have hD : va_D A [(yr 36, .inl (cT 0, 302, .inl fb)), (yr 32, .inl (cT 0, 302, .inl k3)), (yr 35, .inl (cT 0, 302, .inl k4)), (yr 31, .inl (cT 0, 302, .inl k5)), (yr 39, .inl (cT 0, 302, .inl k6)), (y, .inr (11, MO yr yi ysb ybs)), (yr 45, .inl (cT 0, 6336, .inl fr)), (yr 5, .inl (cT 0, 288, .inl vv)), (yr 30, .inl (cT 0, 302, .inl t0u1)), (yr 33, .inl (cT 0, 302, .inl t1u1)), (yr 34, .inl (cT 0, 302, .inl t2u1))] := hD
  have hx12 := hpu1
  refine lv_istore hx hb dM_lookAtKinds_15 hl (by decide) rfl (fun ls hl => ?_)
  have hl : lv_has ls 10 [(9, .int ru1), (7, .long 0), (6, .int 0), (0, .ref y), (1, .long AA), (3, .long MM), (5, .int (nI c0))] := hl
  refine lp_w (α := Int32 × Int64 × Int32 × Nat × BST × (Nat → Int32) × Int64 × (Nat → Int32) × (Nat → Int32) × (Nat → Int32) × (Nat → Int32) × (Nat → Int32) × (Nat → Int32) × (Nat → Int32) × (Nat → Int32)) (fun a9 => SUBn a9.2.1 n ∧ a9.2.2.1 = nxk zr n w vv c0 AA a9.1 12 ∧ ukn a9.1 12 < a9.2.2.2.1 ∧ lkk zr n w lst vv c0 AA MM a9.2.2.2.1 a9.1 a9.2.1 a9.2.2.2.2.1 = lkk zr n w lst vv c0 AA MM 13 0 0 b ∧ BSF a9.2.2.2.2.2.1 a9.2.2.2.2.2.2.1 a9.2.2.2.2.2.2.2.1 a9.2.2.2.2.1 ((100 * ZB) * (100 * ZB) * 20000) ∧ YKP yi a9.2.2.2.2.2.1) (fun a9 => ukn a9.1 12) (fun a9 => [(0, .ref y), (1, .long AA), (3, .long MM), (5, .int (nI c0)), (6, .int a9.1), (7, .long a9.2.1), (9, .int a9.2.2.1)]) (fun a9 => [(yr 36, .inl (cT 0, 302, .inl a9.2.2.2.2.2.2.2.1)), (yr 32, .inl (cT 0, 302, .inl a9.2.2.2.2.2.2.2.2.2.2.2.1)), (yr 35, .inl (cT 0, 302, .inl a9.2.2.2.2.2.2.2.2.2.2.2.2.1)), (yr 31, .inl (cT 0, 302, .inl a9.2.2.2.2.2.2.2.2.2.2.2.2.2.1)), (yr 39, .inl (cT 0, 302, .inl a9.2.2.2.2.2.2.2.2.2.2.2.2.2.2)), (y, .inr (11, MO yr a9.2.2.2.2.2.1 ysb a9.2.2.2.2.2.2.1)), (yr 45, .inl (cT 0, 6336, .inl fr)), (yr 5, .inl (cT 0, 288, .inl vv)), (yr 30, .inl (cT 0, 302, .inl a9.2.2.2.2.2.2.2.2.1)), (yr 33, .inl (cT 0, 302, .inl a9.2.2.2.2.2.2.2.2.2.1)), (yr 34, .inl (cT 0, 302, .inl a9.2.2.2.2.2.2.2.2.2.2.1))]) 17 ?_ (0, 0, ru1, 13, b, yi, ybs, fb, t0u1, t1u1, t2u1, k3, k4, k5, k6) (show SUBn 0 n ∧ ru1 = nxk zr n w vv c0 AA 0 12 ∧ ukn 0 12 < 13 ∧ lkk zr n w lst vv c0 AA MM 13 0 0 b = lkk zr n w lst vv c0 AA MM 13 0 0 b ∧ BSF yi ybs fb b ((100 * ZB) * (100 * ZB) * 20000) ∧ YKP yi yi from ⟨fun r h => by rw [bx_zero] at h; exact absurd h (by decide), hx12, by have := ukn_le 0 12; omega, rfl, hB, fun _ _ _ _ _ => rfl⟩) (lv_sub hl [3, 4, 5, 6, 2, 1, 0] rfl) hP hD hS
  intro a9 hI17 ih17 ls H locs hl hP hD hS
  obtain ⟨bits, side, nx, fu, b1, yi1, bs1, fb1, qa0, qa1, qa2, qa3, qa4, qa5, qa6⟩ := a9
  have hI17 : SUBn side n ∧ nx = nxk zr n w vv c0 AA bits 12 ∧ ukn bits 12 < fu ∧ lkk zr n w lst vv c0 AA MM fu bits side b1 = lkk zr n w lst vv c0 AA MM 13 0 0 b ∧ BSF yi1 bs1 fb1 b1 ((100 * ZB) * (100 * ZB) * 20000) ∧ YKP yi yi1 := hI17
  obtain ⟨iS, ix, iu, iv, iB, iy⟩ := hI17
  have hl : lv_has ls 10 [(0, .ref y), (1, .long AA), (3, .long MM), (5, .int (nI c0)), (6, .int bits), (7, .long side), (9, .int nx)] := hl
  have hP : va_P D vwCl [(yr 36, .inl (cT 0, 302, .inl fb1)), (yr 32, .inl (cT 0, 302, .inl qa3)), (yr 35, .inl (cT 0, 302, .inl qa4)), (yr 31, .inl (cT 0, 302, .inl qa5)), (yr 39, .inl (cT 0, 302, .inl qa6)), (y, .inr (11, MO yr yi1 ysb bs1)), (yr 45, .inl (cT 0, 6336, .inl fr)), (yr 5, .inl (cT 0, 288, .inl vv)), (yr 30, .inl (cT 0, 302, .inl qa0)), (yr 33, .inl (cT 0, 302, .inl qa1)), (yr 34, .inl (cT 0, 302, .inl qa2))] _ := hP
  have hD : va_D A [(yr 36, .inl (cT 0, 302, .inl fb1)), (yr 32, .inl (cT 0, 302, .inl qa3)), (yr 35, .inl (cT 0, 302, .inl qa4)), (yr 31, .inl (cT 0, 302, .inl qa5)), (yr 39, .inl (cT 0, 302, .inl qa6)), (y, .inr (11, MO yr yi1 ysb bs1)), (yr 45, .inl (cT 0, 6336, .inl fr)), (yr 5, .inl (cT 0, 288, .inl vv)), (yr 30, .inl (cT 0, 302, .inl qa0)), (yr 33, .inl (cT 0, 302, .inl qa1)), (yr 34, .inl (cT 0, 302, .inl qa2))] := hD
  refine lv_iload hx hb dM_lookAtKinds_17 (lv_at hl 6 rfl) ?_
  refine lv_if_lt (tgt := 76) hx hb dM_lookAtKinds_19 rfl (fun h2 => ?_) (fun h2 => ?_)
  · subst ix
    have hP9 := hP.sub (ws' := [(y, .inr (11, MO yr yi1 ysb bs1)), (yr 45, .inl (cT 0, 6336, .inl fr)), (yr 5, .inl (cT 0, 288, .inl vv)), (yr 36, .inl (cT 0, 302, .inl fb1)), (yr 30, .inl (cT 0, 302, .inl qa0)), (yr 33, .inl (cT 0, 302, .inl qa1)), (yr 34, .inl (cT 0, 302, .inl qa2)), (yr 32, .inl (cT 0, 302, .inl qa3)), (yr 35, .inl (cT 0, 302, .inl qa4)), (yr 31, .inl (cT 0, 302, .inl qa5)), (yr 39, .inl (cT 0, 302, .inl qa6))]) [5, 6, 7, 0, 8, 9, 10, 1, 2, 3, 4] rfl
    have hD9 := hD.sub (ws' := [(y, .inr (11, MO yr yi1 ysb bs1)), (yr 45, .inl (cT 0, 6336, .inl fr)), (yr 5, .inl (cT 0, 288, .inl vv)), (yr 36, .inl (cT 0, 302, .inl fb1)), (yr 30, .inl (cT 0, 302, .inl qa0)), (yr 33, .inl (cT 0, 302, .inl qa1)), (yr 34, .inl (cT 0, 302, .inl qa2)), (yr 32, .inl (cT 0, 302, .inl qa3)), (yr 35, .inl (cT 0, 302, .inl qa4)), (yr 31, .inl (cT 0, 302, .inl qa5)), (yr 39, .inl (cT 0, 302, .inl qa6))]) [5, 6, 7, 0, 8, 9, 10, 1, 2, 3, 4] (by decide) rfl
    refine W.widen (k := 0) (n := 0) (Nat.le_of_ble_eq_true rfl) (Nat.le_of_ble_eq_true rfl) ?_
    exact W.vret hx hb hr (fun t9 ht9 hW9 => ⟨⟨(b1, yi1, bs1, fb1, qa0, qa1, qa2, qa3, qa4, qa5, qa6), rfl, (show b1 = lkk zr n w lst vv c0 AA MM 13 0 0 b ∧ BSF yi1 bs1 fb1 b1 ((100 * ZB) * (100 * ZB) * 20000) ∧ YKP yi yi1 from ⟨by rw [← iv, lkk_0 h2], iB, iy⟩), by rw [ht9]; exact hP9, hD9⟩, hS.F ht9⟩) hS.2.2 dM_lookAtKinds_76
  · obtain ⟨fv, rfl⟩ : ∃ q9 : Nat, fu = q9 + 1 := ⟨fu - 1, by omega⟩
    subst ix
    have hl : lv_has ls 10 [(0, .ref y), (1, .long AA), (3, .long MM), (5, .int (nI c0)), (6, .int bits), (7, .long side), (9, .int (nxk zr n w vv c0 AA bits 12))] := hl
    have hP : va_P D vwCl [(yr 36, .inl (cT 0, 302, .inl fb1)), (yr 32, .inl (cT 0, 302, .inl qa3)), (yr 35, .inl (cT 0, 302, .inl qa4)), (yr 31, .inl (cT 0, 302, .inl qa5)), (yr 39, .inl (cT 0, 302, .inl qa6)), (y, .inr (11, MO yr yi1 ysb bs1)), (yr 45, .inl (cT 0, 6336, .inl fr)), (yr 5, .inl (cT 0, 288, .inl vv)), (yr 30, .inl (cT 0, 302, .inl qa0)), (yr 33, .inl (cT 0, 302, .inl qa1)), (yr 34, .inl (cT 0, 302, .inl qa2))] _ := hP
    have hD : va_D A [(yr 36, .inl (cT 0, 302, .inl fb1)), (yr 32, .inl (cT 0, 302, .inl qa3)), (yr 35, .inl (cT 0, 302, .inl qa4)), (yr 31, .inl (cT 0, 302, .inl qa5)), (yr 39, .inl (cT 0, 302, .inl qa6)), (y, .inr (11, MO yr yi1 ysb bs1)), (yr 45, .inl (cT 0, 6336, .inl fr)), (yr 5, .inl (cT 0, 288, .inl vv)), (yr 30, .inl (cT 0, 302, .inl qa0)), (yr 33, .inl (cT 0, 302, .inl qa1)), (yr 34, .inl (cT 0, 302, .inl qa2))] := hD
    have hnx : ¬ nxk zr n w vv c0 AA bits 12 < 0 := h2
    obtain ⟨j, hj, hjx, hjb, hjr⟩ : ∃ j, j < 12 ∧ nxk zr n w vv c0 AA bits 12 = nI j ∧ (bits >>> (nI j &&& 31)) &&& 1 = 0 ∧ ¬ (rwk vv c0 (nI j) n &&& AA) = 0 := by
      rcases nxk_ok (zr := zr) (n := n) (w := w) (vv := vv) (c := c0) (A := AA) (bits := bits) 12 (by omega) with q | ⟨j, h1, h2, h3, h4⟩
      · exact absurd q hnx
      · exact ⟨j, h1, h2, h3, h4⟩
    obtain ⟨bits2, hb2⟩ : ∃ q9 : Int32, q9 = bits ||| ((1 : Int32) <<< (nxk zr n w vv c0 AA bits 12 &&& 31)) := ⟨_, rfl⟩
    obtain ⟨side2, hs2⟩ : ∃ q9 : Int64, q9 = side ||| (rwk vv c0 (nxk zr n w vv c0 AA bits 12) n &&& AA) := ⟨_, rfl⟩
    have hu2 : ukn bits2 12 + 1 = ukn bits 12 := by have q0 := ukn_or bits (show j < 32 by omega) ((tk_0 bits (by omega)).mp hjb) 12 (Nat.le_refl _); rw [if_pos hj, ← hjx, ← hb2] at q0; exact q0
    have hsub : SUBn side2 n := by rw [hs2]; exact sub_or iS (sub_and (sub_rwk hn2))
    refine lv_iload hx hb dM_lookAtKinds_22 (lv_at hl 4 rfl) ?_
    refine lv_iconst (v := 1) hx hb dM_lookAtKinds_24 (by decide) ?_
    refine lv_iload hx hb dM_lookAtKinds_25 (lv_at hl 6 rfl) ?_
    refine lv_ishl hx hb dM_lookAtKinds_27 ?_
    refine lv_ior hx hb dM_lookAtKinds_28 ?_
    refine lv_topi (fun y9 e9 => ?_)
    cases (show y9 = bits2 from e9.trans hb2.symm)
    refine lv_istore hx hb dM_lookAtKinds_29 hl (by decide) rfl (fun ls hl => ?_)
    have hl : lv_has ls 10 [(6, .int bits2), (0, .ref y), (1, .long AA), (3, .long MM), (5, .int (nI c0)), (7, .long side), (9, .int (nxk zr n w vv c0 AA bits 12))] := hl
    refine lv_lload hx hb dM_lookAtKinds_31 (lv_at hl 5 rfl) ?_
    refine lv_aload_n hx hb dM_lookAtKinds_33 rfl (lv_at hl 1 rfl) ?_
    refine lv_lload_n hx hb dM_lookAtKinds_34 rfl (lv_at hl 2 rfl) ?_
    refine lv_iload hx hb dM_lookAtKinds_35 (lv_at hl 4 rfl) ?_
    refine lv_iload hx hb dM_lookAtKinds_37 (lv_at hl 6 rfl) ?_
    refine ro_l (va_Run.run (va_runV (As := [.long AA, .int (nI c0), .int (nxk zr n w vv c0 AA bits 12)]) (rest := [.long side]) ⟨hx, hb, hml, hown, hT⟩ (m_rows l D cT y yr yi1 ysb bs1 vv n AA c0 (nxk zr n w vv c0 AA bits 12) ((iy 3 (by decide) (by decide) (by decide) (by decide)).trans hn) hn2 hc0) ⟨callB_of 3 hT (tb_gd w1480) rfl rfl rfl (hT _ w13) (hT _ w1477) hM_rowsOf ⟨Nat.le_of_ble_eq_true rfl, Nat.le_of_ble_eq_true rfl⟩, (hT _ w1479), (hT _ wp49)⟩ (RO.preV (ci := 11) (q0 := 0) hZ hS (hP.sub (ws' := [(y, .inr (11, MO yr yi1 ysb bs1)), (yr 5, .inl (cT 0, 288, .inl vv))]) [5, 7] rfl) hK rfl rfl) rfl rfl hl.1 rfl (lv_room (Nat.le_of_ble_eq_true rfl)) dM_lookAtKinds_39 ⟨Nat.le_of_ble_eq_true rfl, Nat.le_of_ble_eq_true rfl⟩)) ?_
    refine lv_lor hx hb dM_lookAtKinds_42 ?_
    refine lv_topl (fun y9 e9 => ?_)
    cases (show y9 = side2 from e9.trans hs2.symm)
    refine lv_lstore hx hb dM_lookAtKinds_43 hl (by decide) rfl (fun ls hl => ?_)
    have hl : lv_has ls 10 [(7, .long side2), (6, .int bits2), (0, .ref y), (1, .long AA), (3, .long MM), (5, .int (nI c0)), (9, .int (nxk zr n w vv c0 AA bits 12))] := hl
    refine lv_aload_n hx hb dM_lookAtKinds_45 rfl (lv_at hl 2 rfl) ?_
    refine lv_lload_n hx hb dM_lookAtKinds_46 rfl (lv_at hl 3 rfl) ?_
    refine lv_iload hx hb dM_lookAtKinds_47 (lv_at hl 5 rfl) ?_
    refine lv_iload hx hb dM_lookAtKinds_49 (lv_at hl 1 rfl) ?_
    refine rw_i (wc := [(y, .inr (11, MO yr yi1 ysb bs1)), (yr 45, .inl (cT 0, 6336, .inl fr)), (yr 5, .inl (cT 0, 288, .inl vv)), (yr 30, .inl (cT 0, 302, .inl qa0)), (yr 33, .inl (cT 0, 302, .inl qa1)), (yr 34, .inl (cT 0, 302, .inl qa2))]) (wr := [(yr 36, .inl (cT 0, 302, .inl fb1)), (yr 32, .inl (cT 0, 302, .inl qa3)), (yr 35, .inl (cT 0, 302, .inl qa4)), (yr 31, .inl (cT 0, 302, .inl qa5)), (yr 39, .inl (cT 0, 302, .inl qa6))]) hP hD hS hA [5, 6, 7, 8, 9, 10] [0, 1, 2, 3, 4] rfl rfl (by decide) (by decide) (va_runV (As := [.long AA, .int (nI c0), .int bits2]) (rest := []) ⟨hx, hb, hml, hown, hT⟩ (m_next l D cT y yr yi1 ysb bs1 n w zr ZB fr AA vv qa0 qa1 qa2 c0 bits2 ((iy 3 (by decide) (by decide) (by decide) (by decide)).trans hn) hn2 ((iy 12 (by decide) (by decide) (by decide) (by decide)).trans hw9) hw20 hM hZB hzf hfit hc0 _) ⟨callB_of 3 hT (tb_gd w1476) rfl rfl rfl (hT _ w13) (hT _ w1473) hM_nextKind ⟨Nat.le_of_ble_eq_true rfl, Nat.le_of_ble_eq_true rfl⟩, (hT _ w1475), (hT _ wp48)⟩ (RW.preV (ci := 11) (q0 := 0) hZ hS (va_free (wc := [(y, .inr (11, MO yr yi1 ysb bs1)), (yr 45, .inl (cT 0, 6336, .inl fr)), (yr 5, .inl (cT 0, 288, .inl vv)), (yr 30, .inl (cT 0, 302, .inl qa0)), (yr 33, .inl (cT 0, 302, .inl qa1)), (yr 34, .inl (cT 0, 302, .inl qa2))]) hD hS hA [5, 6, 7, 8, 9, 10] rfl) (hP.sub (ws' := [(y, .inr (11, MO yr yi1 ysb bs1)), (yr 45, .inl (cT 0, 6336, .inl fr)), (yr 5, .inl (cT 0, 288, .inl vv)), (yr 30, .inl (cT 0, 302, .inl qa0)), (yr 33, .inl (cT 0, 302, .inl qa1)), (yr 34, .inl (cT 0, 302, .inl qa2))]) [5, 6, 7, 8, 9, 10] rfl) hK (hD.sub (ws' := [(y, .inr (11, MO yr yi1 ysb bs1)), (yr 45, .inl (cT 0, 6336, .inl fr)), (yr 5, .inl (cT 0, 288, .inl vv)), (yr 30, .inl (cT 0, 302, .inl qa0)), (yr 33, .inl (cT 0, 302, .inl qa1)), (yr 34, .inl (cT 0, 302, .inl qa2))]) [5, 6, 7, 8, 9, 10] (by decide) rfl) rfl rfl) rfl rfl hl.1 rfl (lv_room (Nat.le_of_ble_eq_true rfl)) dM_lookAtKinds_51 ⟨Nat.le_of_ble_eq_true rfl, Nat.le_of_ble_eq_true rfl⟩) (fun ru3 u9 H locs hpu3 hP hD hS => ?_)
    obtain ⟨t0u3, t1u3, t2u3⟩ := u9
    have hpu3 : ru3 = nxk zr n w vv c0 AA bits2 12 := hpu3
    have hP : va_P D vwCl [(yr 36, .inl (cT 0, 302, .inl fb1)), (yr 32, .inl (cT 0, 302, .inl qa3)), (yr 35, .inl (cT 0, 302, .inl qa4)), (yr 31, .inl (cT 0, 302, .inl qa5)), (yr 39, .inl (cT 0, 302, .inl qa6)), (y, .inr (11, MO yr yi1 ysb bs1)), (yr 45, .inl (cT 0, 6336, .inl fr)), (yr 5, .inl (cT 0, 288, .inl vv)), (yr 30, .inl (cT 0, 302, .inl t0u3)), (yr 33, .inl (cT 0, 302, .inl t1u3)), (yr 34, .inl (cT 0, 302, .inl t2u3))] _ := hP
    have hD : va_D A [(yr 36, .inl (cT 0, 302, .inl fb1)), (yr 32, .inl (cT 0, 302, .inl qa3)), (yr 35, .inl (cT 0, 302, .inl qa4)), (yr 31, .inl (cT 0, 302, .inl qa5)), (yr 39, .inl (cT 0, 302, .inl qa6)), (y, .inr (11, MO yr yi1 ysb bs1)), (yr 45, .inl (cT 0, 6336, .inl fr)), (yr 5, .inl (cT 0, 288, .inl vv)), (yr 30, .inl (cT 0, 302, .inl t0u3)), (yr 33, .inl (cT 0, 302, .inl t1u3)), (yr 34, .inl (cT 0, 302, .inl t2u3))] := hD
    have hx51 := hpu3
    refine lv_istore hx hb dM_lookAtKinds_54 hl (by decide) rfl (fun ls hl => ?_)
    have hl : lv_has ls 10 [(9, .int ru3), (7, .long side2), (6, .int bits2), (0, .ref y), (1, .long AA), (3, .long MM), (5, .int (nI c0))] := hl
    refine lv_iload hx hb dM_lookAtKinds_56 (lv_at hl 0 rfl) ?_
    refine lv_if_lt (tgt := 17) hx hb dM_lookAtKinds_58 rfl (fun h4 => ?_) (fun h4 => ?_)
    · exact ih17 (bits2, side2, ru3, fv, b1, yi1, bs1, fb1, t0u3, t1u3, t2u3, qa3, qa4, qa5, qa6) (show SUBn side2 n ∧ ru3 = nxk zr n w vv c0 AA bits2 12 ∧ ukn bits2 12 < fv ∧ lkk zr n w lst vv c0 AA MM fv bits2 side2 b1 = lkk zr n w lst vv c0 AA MM 13 0 0 b ∧ BSF yi1 bs1 fb1 b1 ((100 * ZB) * (100 * ZB) * 20000) ∧ YKP yi yi1 from ⟨hsub, hx51, by omega, by rw [← iv, lkk_s hnx hb2 hs2, if_pos (by rw [← hx51]; exact h4)], iB, iy⟩) (show ukn bits2 12 < ukn bits 12 from (by omega)) ls H locs (lv_sub hl [3, 4, 5, 6, 2, 1, 0] rfl) hP hD hS
    · refine lv_aload_n hx hb dM_lookAtKinds_61 rfl (lv_at hl 3 rfl) ?_
      refine lv_lload_n hx hb dM_lookAtKinds_62 rfl (lv_at hl 4 rfl) ?_
      refine lv_lload_n hx hb dM_lookAtKinds_63 rfl (lv_at hl 5 rfl) ?_
      refine lv_lload hx hb dM_lookAtKinds_64 (lv_at hl 1 rfl) ?_
      refine lv_iload hx hb dM_lookAtKinds_66 (lv_at hl 6 rfl) ?_
      refine lv_iload hx hb dM_lookAtKinds_68 (lv_at hl 2 rfl) ?_
      refine rw_v (wc := [(y, .inr (11, MO yr yi1 ysb bs1)), (yr 45, .inl (cT 0, 6336, .inl fr)), (yr 36, .inl (cT 0, 302, .inl fb1)), (yr 30, .inl (cT 0, 302, .inl t0u3)), (yr 33, .inl (cT 0, 302, .inl t1u3)), (yr 34, .inl (cT 0, 302, .inl t2u3)), (yr 32, .inl (cT 0, 302, .inl qa3)), (yr 35, .inl (cT 0, 302, .inl qa4)), (yr 31, .inl (cT 0, 302, .inl qa5)), (yr 39, .inl (cT 0, 302, .inl qa6))]) (wr := [(yr 5, .inl (cT 0, 288, .inl vv))]) hP hD hS hA [5, 6, 0, 8, 9, 10, 1, 2, 3, 4] [7] rfl rfl (by decide) (by decide) (va_runV (As := [.long AA, .long MM, .long side2, .int (nI c0), .int bits2]) (rest := []) ⟨hx, hb, hml, hown, hT⟩ (m_side l D cT y yr yi1 ysb bs1 n w lst zr ZB fr AA fb1 t0u3 t1u3 t2u3 qa3 qa4 qa5 qa6 b1 MM side2 (nI c0) bits2 ((iy 3 (by decide) (by decide) (by decide) (by decide)).trans hn) hn2 ((iy 12 (by decide) (by decide) (by decide) (by decide)).trans hw9) hw20 ((iy 11 (by decide) (by decide) (by decide) (by decide)).trans hls) hls2 hM hZB hzf hfit iB hA9 hM9 hsub _) ⟨callB_of 5 hT (tb_gd w1495) rfl rfl rfl (hT _ w13) (hT _ w1492) hM_lookAtSide ⟨Nat.le_of_ble_eq_true rfl, Nat.le_of_ble_eq_true rfl⟩, (hT _ w1494), (hT _ wp52)⟩ (RW.preV (ci := 11) (q0 := 0) hZ hS (va_free (wc := [(y, .inr (11, MO yr yi1 ysb bs1)), (yr 45, .inl (cT 0, 6336, .inl fr)), (yr 36, .inl (cT 0, 302, .inl fb1)), (yr 30, .inl (cT 0, 302, .inl t0u3)), (yr 33, .inl (cT 0, 302, .inl t1u3)), (yr 34, .inl (cT 0, 302, .inl t2u3)), (yr 32, .inl (cT 0, 302, .inl qa3)), (yr 35, .inl (cT 0, 302, .inl qa4)), (yr 31, .inl (cT 0, 302, .inl qa5)), (yr 39, .inl (cT 0, 302, .inl qa6))]) hD hS hA [5, 6, 0, 8, 9, 10, 1, 2, 3, 4] rfl) (hP.sub (ws' := [(y, .inr (11, MO yr yi1 ysb bs1)), (yr 45, .inl (cT 0, 6336, .inl fr)), (yr 36, .inl (cT 0, 302, .inl fb1)), (yr 30, .inl (cT 0, 302, .inl t0u3)), (yr 33, .inl (cT 0, 302, .inl t1u3)), (yr 34, .inl (cT 0, 302, .inl t2u3)), (yr 32, .inl (cT 0, 302, .inl qa3)), (yr 35, .inl (cT 0, 302, .inl qa4)), (yr 31, .inl (cT 0, 302, .inl qa5)), (yr 39, .inl (cT 0, 302, .inl qa6))]) [5, 6, 0, 8, 9, 10, 1, 2, 3, 4] rfl) hK (hD.sub (ws' := [(y, .inr (11, MO yr yi1 ysb bs1)), (yr 45, .inl (cT 0, 6336, .inl fr)), (yr 36, .inl (cT 0, 302, .inl fb1)), (yr 30, .inl (cT 0, 302, .inl t0u3)), (yr 33, .inl (cT 0, 302, .inl t1u3)), (yr 34, .inl (cT 0, 302, .inl t2u3)), (yr 32, .inl (cT 0, 302, .inl qa3)), (yr 35, .inl (cT 0, 302, .inl qa4)), (yr 31, .inl (cT 0, 302, .inl qa5)), (yr 39, .inl (cT 0, 302, .inl qa6))]) [5, 6, 0, 8, 9, 10, 1, 2, 3, 4] (by decide) rfl) rfl rfl) rfl rfl hl.1 rfl (lv_room (Nat.le_of_ble_eq_true rfl)) dM_lookAtKinds_70 ⟨Nat.le_of_ble_eq_true rfl, Nat.le_of_ble_eq_true rfl⟩) (fun u9 H locs hpu5 hP hD hS => ?_)
      obtain ⟨bwu5, yi7u5, bs7u5, fb7u5, j0u5, j1u5, j2u5, j3u5, j4u5, j5u5, j6u5⟩ := u9
      have hpu5 : bwu5 = lks zr n w lst AA MM b1 side2 (nI c0) bits2 ∧ BSF yi7u5 bs7u5 fb7u5 bwu5 ((100 * ZB) * (100 * ZB) * 20000) ∧ YKP yi1 yi7u5 := hpu5
      have hP : va_P D vwCl [(yr 5, .inl (cT 0, 288, .inl vv)), (y, .inr (11, MO yr yi7u5 ysb bs7u5)), (yr 45, .inl (cT 0, 6336, .inl fr)), (yr 36, .inl (cT 0, 302, .inl fb7u5)), (yr 30, .inl (cT 0, 302, .inl j0u5)), (yr 33, .inl (cT 0, 302, .inl j1u5)), (yr 34, .inl (cT 0, 302, .inl j2u5)), (yr 32, .inl (cT 0, 302, .inl j3u5)), (yr 35, .inl (cT 0, 302, .inl j4u5)), (yr 31, .inl (cT 0, 302, .inl j5u5)), (yr 39, .inl (cT 0, 302, .inl j6u5))] _ := hP
      have hD : va_D A [(yr 5, .inl (cT 0, 288, .inl vv)), (y, .inr (11, MO yr yi7u5 ysb bs7u5)), (yr 45, .inl (cT 0, 6336, .inl fr)), (yr 36, .inl (cT 0, 302, .inl fb7u5)), (yr 30, .inl (cT 0, 302, .inl j0u5)), (yr 33, .inl (cT 0, 302, .inl j1u5)), (yr 34, .inl (cT 0, 302, .inl j2u5)), (yr 32, .inl (cT 0, 302, .inl j3u5)), (yr 35, .inl (cT 0, 302, .inl j4u5)), (yr 31, .inl (cT 0, 302, .inl j5u5)), (yr 39, .inl (cT 0, 302, .inl j6u5))] := hD
      obtain ⟨v1, v2, v3⟩ := hpu5
      refine lv_goto (tgt := 17) hx hb dM_lookAtKinds_73 rfl ?_
      exact ih17 (bits2, side2, ru3, fv, bwu5, yi7u5, bs7u5, fb7u5, j0u5, j1u5, j2u5, j3u5, j4u5, j5u5, j6u5) (show SUBn side2 n ∧ ru3 = nxk zr n w vv c0 AA bits2 12 ∧ ukn bits2 12 < fv ∧ lkk zr n w lst vv c0 AA MM fv bits2 side2 bwu5 = lkk zr n w lst vv c0 AA MM 13 0 0 b ∧ BSF yi7u5 bs7u5 fb7u5 bwu5 ((100 * ZB) * (100 * ZB) * 20000) ∧ YKP yi yi7u5 from ⟨hsub, hx51, by omega, by rw [← iv, lkk_s hnx hb2 hs2, if_neg (by rw [← hx51]; exact h4)]; rw [← v1], v2, ykp_t iy v3⟩) (show ukn bits2 12 < ukn bits 12 from (by omega)) ls H locs (lv_sub hl [3, 4, 5, 6, 2, 1, 0] rfl) (hP.sub (ws' := [(yr 36, .inl (cT 0, 302, .inl fb7u5)), (yr 32, .inl (cT 0, 302, .inl j3u5)), (yr 35, .inl (cT 0, 302, .inl j4u5)), (yr 31, .inl (cT 0, 302, .inl j5u5)), (yr 39, .inl (cT 0, 302, .inl j6u5)), (y, .inr (11, MO yr yi7u5 ysb bs7u5)), (yr 45, .inl (cT 0, 6336, .inl fr)), (yr 5, .inl (cT 0, 288, .inl vv)), (yr 30, .inl (cT 0, 302, .inl j0u5)), (yr 33, .inl (cT 0, 302, .inl j1u5)), (yr 34, .inl (cT 0, 302, .inl j2u5))]) [3, 7, 8, 9, 10, 1, 2, 0, 4, 5, 6] rfl) (hD.sub (ws' := [(yr 36, .inl (cT 0, 302, .inl fb7u5)), (yr 32, .inl (cT 0, 302, .inl j3u5)), (yr 35, .inl (cT 0, 302, .inl j4u5)), (yr 31, .inl (cT 0, 302, .inl j5u5)), (yr 39, .inl (cT 0, 302, .inl j6u5)), (y, .inr (11, MO yr yi7u5 ysb bs7u5)), (yr 45, .inl (cT 0, 6336, .inl fr)), (yr 5, .inl (cT 0, 288, .inl vv)), (yr 30, .inl (cT 0, 302, .inl j0u5)), (yr 33, .inl (cT 0, 302, .inl j1u5)), (yr 34, .inl (cT 0, 302, .inl j2u5))]) [3, 7, 8, 9, 10, 1, 2, 0, 4, 5, 6] (by decide) rfl) hS
