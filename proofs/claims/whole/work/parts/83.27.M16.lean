set_option maxHeartbeats 4000000 in
set_option maxRecDepth 100000 in
theorem m_next (l : Launch) (D : va_G) (cT : Nat → ClassId) (y : Nat) (yr : Nat → Nat) (yi : Nat → Int32) (ysb : Int64) (ybs : Int64) (n : Nat) (w : Nat) (zr : Nat → Int) (ZB : Nat) (fr : Nat → Int32) (AA : Int64) (vv : Nat → Int32) (k0 : Nat → Int32) (k1 : Nat → Int32) (k2 : Nat → Int32) (c0 : Nat) (bits : Int32) (hn : yi 3 = nI n) (hn2 : n ≤ 48) (hw9 : yi 12 = nI w) (hw20 : w ≤ 20) (hM : ∀ k, k < n → MR fr (132 * k) (zr k)) (hZB : ∀ k, k < n → (zr k).natAbs ≤ ZB) (hzf : 100 * ZB < 268435456 ^ 250) (hfit : (100 * ZB) * (100 * ZB) * 1000000000000 < 268435456 ^ 130) (hc0 : c0 < 6) (sz : Nat) : Met l yM_nextKind WM_nextKind ({ frames := 5, cells := 0, slots := 0, locals := 125 } : Room) (RW D vwCl [.ref y, .long AA, .int (nI c0), .int bits] [(y, .inr (11, MO yr yi ysb ybs)), (yr 45, .inl (cT 0, 6336, .inl fr)), (yr 5, .inl (cT 0, 288, .inl vv)), (yr 30, .inl (cT 0, 302, .inl k0)), (yr 33, .inl (cT 0, 302, .inl k1)), (yr 34, .inl (cT 0, 302, .inl k2))] (TY cT) sz) (va_Qi (fun (r9 : Int32) (u9 : (Nat → Int32) × (Nat → Int32) × (Nat → Int32)) => r9 = nxk zr n w vv c0 AA bits 12) (BW D vwCl (va_A [(y, .inr (11, MO yr yi ysb ybs)), (yr 45, .inl (cT 0, 6336, .inl fr)), (yr 5, .inl (cT 0, 288, .inl vv)), (yr 30, .inl (cT 0, 302, .inl k0)), (yr 33, .inl (cT 0, 302, .inl k1)), (yr 34, .inl (cT 0, 302, .inl k2))] sz) (fun u9 : (Nat → Int32) × (Nat → Int32) × (Nat → Int32) => [(y, .inr (11, MO yr yi ysb ybs)), (yr 45, .inl (cT 0, 6336, .inl fr)), (yr 5, .inl (cT 0, 288, .inl vv)), (yr 30, .inl (cT 0, 302, .inl u9.1)), (yr 33, .inl (cT 0, 302, .inl u9.2.1)), (yr 34, .inl (cT 0, 302, .inl u9.2.2))])) (va_A [(y, .inr (11, MO yr yi ysb ybs)), (yr 45, .inl (cT 0, 6336, .inl fr)), (yr 5, .inl (cT 0, 288, .inl vv)), (yr 30, .inl (cT 0, 302, .inl k0)), (yr 33, .inl (cT 0, 302, .inl k1)), (yr 34, .inl (cT 0, 302, .inl k2))] sz)) 0 0 (va_A [(y, .inr (11, MO yr yi ysb ybs)), (yr 45, .inl (cT 0, 6336, .inl fr)), (yr 5, .inl (cT 0, 288, .inl vv)), (yr 30, .inl (cT 0, 302, .inl k0)), (yr 33, .inl (cT 0, 302, .inl k1)), (yr 34, .inl (cT 0, 302, .inl k2))] sz) := by
  refine Met.ofW (cc := cM_nextKind) (maxL := 9) (ret := (some .int)) (by decide) rfl ?_
  intro p e s m args below meth c s₁ B hml hv
  obtain ⟨rfl, hsz, hZ, hP, hK, hD0⟩ := hv
  have hx := B.exec
  have hb := B.bytes
  have hr := B.returns
  have hts := atoms_spec (ws := WM_nextKind) B.pre
  have hT : ∀ w ∈ TB, w.before _ s = true := fun w h => hts w (List.mem_cons_of_mem _ h)
  have hown : s.vm.findClass R_M = some m.cls := findClass_of_methodNamed B.named
  have hlocks := B.notSynchronized
  subst hsz
  have hD := hD0.self (sz := s.heap.size)
  generalize hAe : va_A [(y, .inr (11, MO yr yi ysb ybs)), (yr 45, .inl (cT 0, 6336, .inl fr)), (yr 5, .inl (cT 0, 288, .inl vv)), (yr 30, .inl (cT 0, 302, .inl k0)), (yr 33, .inl (cT 0, 302, .inl k1)), (yr 34, .inl (cT 0, 302, .inl k2))] s.heap.size = A at hD hZ ⊢
  have hA : ∀ q : Nat, s.heap.size ≤ q → A q := fun q h => by rw [← hAe]; exact Or.inr h
  have hS : va_S A s.heap s.heap [] := va_S.rf
  have hl := lv_entry ([.ref y, .long AA, .int (nI c0), .int bits]) (n := 9) (Nat.le_of_ble_eq_true rfl)
  rw [lg_entry_eq]
  generalize (lg_sl ([.ref y, .long AA, .int (nI c0), .int bits]) ++ List.replicate (9 - (lg_sl ([.ref y, .long AA, .int (nI c0), .int bits])).length) Slot.unset).toArray = ls at hl ⊢
  have hl : lv_has ls 9 [(0, .ref y), (1, .long AA), (3, .int (nI c0)), (4, .int bits)] := hl
  refine lv_iconst (v := (-1)) hx hb dM_nextKind_0 (by decide) ?_
  refine lv_istore hx hb dM_nextKind_1 hl (by decide) rfl (fun ls hl => ?_)
  have hl : lv_has ls 9 [(5, .int (-1)), (0, .ref y), (1, .long AA), (3, .int (nI c0)), (4, .int bits)] := hl
  refine lv_iconst (v := 0) hx hb dM_nextKind_3 (by decide) ?_
  refine lv_istore hx hb dM_nextKind_4 hl (by decide) rfl (fun ls hl => ?_)
  have hl : lv_has ls 9 [(6, .int 0), (5, .int (-1)), (0, .ref y), (1, .long AA), (3, .int (nI c0)), (4, .int bits)] := hl
  refine lp_w (α := Nat × (Nat → Int32) × (Nat → Int32) × (Nat → Int32)) (fun a9 => a9.1 ≤ 12) (fun a9 => 12 - a9.1) (fun a9 => [(0, .ref y), (1, .long AA), (3, .int (nI c0)), (4, .int bits), (5, .int (nxk zr n w vv c0 AA bits a9.1)), (6, .int (nI a9.1))]) (fun a9 => [(y, .inr (11, MO yr yi ysb ybs)), (yr 45, .inl (cT 0, 6336, .inl fr)), (yr 5, .inl (cT 0, 288, .inl vv)), (yr 30, .inl (cT 0, 302, .inl a9.2.1)), (yr 33, .inl (cT 0, 302, .inl a9.2.2.1)), (yr 34, .inl (cT 0, 302, .inl a9.2.2.2))]) 6 ?_ (0, k0, k1, k2) (show 0 ≤ 12 from by omega) (lv_sub hl [2, 3, 4, 5, 1, 0] rfl) hP hD hS
  intro a9 hI6 ih6 ls H locs hl hP hD hS
  obtain ⟨k, q0, q1, q2⟩ := a9
  have hI6 : k ≤ 12 := hI6
  have hl : lv_has ls 9 [(0, .ref y), (1, .long AA), (3, .int (nI c0)), (4, .int bits), (5, .int (nxk zr n w vv c0 AA bits k)), (6, .int (nI k))] := hl
  have hP : va_P D vwCl [(y, .inr (11, MO yr yi ysb ybs)), (yr 45, .inl (cT 0, 6336, .inl fr)), (yr 5, .inl (cT 0, 288, .inl vv)), (yr 30, .inl (cT 0, 302, .inl q0)), (yr 33, .inl (cT 0, 302, .inl q1)), (yr 34, .inl (cT 0, 302, .inl q2))] _ := hP
  have hD : va_D A [(y, .inr (11, MO yr yi ysb ybs)), (yr 45, .inl (cT 0, 6336, .inl fr)), (yr 5, .inl (cT 0, 288, .inl vv)), (yr 30, .inl (cT 0, 302, .inl q0)), (yr 33, .inl (cT 0, 302, .inl q1)), (yr 34, .inl (cT 0, 302, .inl q2))] := hD
  refine lv_iload hx hb dM_nextKind_6 (lv_at hl 5 rfl) ?_
  refine lv_bipush (v := 12) hx hb dM_nextKind_8 (by decide) ?_
  refine lv_icmp_ge (tgt := 81) hx hb dM_nextKind_10 rfl (fun h1 => ?_) (fun h1 => ?_)
  · have gh1 : 12 ≤ k := (nI_leI (a := 12) (b := k) (by omega) (by omega)).mp h1
    have ek : k = 12 := by omega
    subst ek
    have hl : lv_has ls 9 [(0, .ref y), (1, .long AA), (3, .int (nI c0)), (4, .int bits), (5, .int (nxk zr n w vv c0 AA bits 12)), (6, .int (nI 12))] := hl
    have hP : va_P D vwCl [(y, .inr (11, MO yr yi ysb ybs)), (yr 45, .inl (cT 0, 6336, .inl fr)), (yr 5, .inl (cT 0, 288, .inl vv)), (yr 30, .inl (cT 0, 302, .inl q0)), (yr 33, .inl (cT 0, 302, .inl q1)), (yr 34, .inl (cT 0, 302, .inl q2))] _ := hP
    have hD : va_D A [(y, .inr (11, MO yr yi ysb ybs)), (yr 45, .inl (cT 0, 6336, .inl fr)), (yr 5, .inl (cT 0, 288, .inl vv)), (yr 30, .inl (cT 0, 302, .inl q0)), (yr 33, .inl (cT 0, 302, .inl q1)), (yr 34, .inl (cT 0, 302, .inl q2))] := hD
    refine lv_iload hx hb dM_nextKind_81 (lv_at hl 4 rfl) ?_
    have hP9 := hP.sub (ws' := [(y, .inr (11, MO yr yi ysb ybs)), (yr 45, .inl (cT 0, 6336, .inl fr)), (yr 5, .inl (cT 0, 288, .inl vv)), (yr 30, .inl (cT 0, 302, .inl q0)), (yr 33, .inl (cT 0, 302, .inl q1)), (yr 34, .inl (cT 0, 302, .inl q2))]) [0, 1, 2, 3, 4, 5] rfl
    have hD9 := hD.sub (ws' := [(y, .inr (11, MO yr yi ysb ybs)), (yr 45, .inl (cT 0, 6336, .inl fr)), (yr 5, .inl (cT 0, 288, .inl vv)), (yr 30, .inl (cT 0, 302, .inl q0)), (yr 33, .inl (cT 0, 302, .inl q1)), (yr 34, .inl (cT 0, 302, .inl q2))]) [0, 1, 2, 3, 4, 5] (by decide) rfl
    refine W.widen (k := 0) (n := 0) (Nat.le_of_ble_eq_true rfl) (Nat.le_of_ble_eq_true rfl) ?_
    exact W.iret (v := nxk zr n w vv c0 AA bits 12) hx hb hr (fun t9 ht9 hW9 => ⟨⟨nxk zr n w vv c0 AA bits 12, (q0, q1, q2), rfl, (show (nxk zr n w vv c0 AA bits 12) = nxk zr n w vv c0 AA bits 12 from rfl), by rw [ht9]; exact hP9, hD9⟩, hS.F ht9⟩) hS.2.2 dM_nextKind_83
  · have gh1 : k < 12 := Nat.not_le.mp (fun q => h1 ((nI_leI (a := 12) (b := k) (by omega) (by omega)).mpr q))
    refine lv_aload_n hx hb dM_nextKind_13 rfl (lv_at hl 0 rfl) ?_
    refine lv_lload_n hx hb dM_nextKind_14 rfl (lv_at hl 1 rfl) ?_
    refine lv_iload_n hx hb dM_nextKind_15 rfl (lv_at hl 2 rfl) ?_
    refine lv_iload hx hb dM_nextKind_16 (lv_at hl 5 rfl) ?_
    refine ro_l (va_Run.run (va_runV (As := [.long AA, .int (nI c0), .int (nI k)]) (rest := []) ⟨hx, hb, hml, hown, hT⟩ (m_rows l D cT y yr yi ysb ybs vv n AA c0 (nI k) hn hn2 hc0) ⟨callB_of 3 hT (tb_gd w1480) rfl rfl rfl (hT _ w13) (hT _ w1477) hM_rowsOf ⟨Nat.le_of_ble_eq_true rfl, Nat.le_of_ble_eq_true rfl⟩, (hT _ w1479), (hT _ wp49)⟩ (RO.preV (ci := 11) (q0 := 0) hZ hS (hP.sub (ws' := [(y, .inr (11, MO yr yi ysb ybs)), (yr 5, .inl (cT 0, 288, .inl vv))]) [0, 2] rfl) hK rfl rfl) rfl rfl hl.1 rfl (lv_room (Nat.le_of_ble_eq_true rfl)) dM_nextKind_18 ⟨Nat.le_of_ble_eq_true rfl, Nat.le_of_ble_eq_true rfl⟩)) ?_
    refine lv_lstore hx hb dM_nextKind_21 hl (by decide) rfl (fun ls hl => ?_)
    have hl : lv_has ls 9 [(7, .long ((rwk vv c0 (nI k) n) &&& AA)), (0, .ref y), (1, .long AA), (3, .int (nI c0)), (4, .int bits), (5, .int (nxk zr n w vv c0 AA bits k)), (6, .int (nI k))] := hl
    refine lv_iload hx hb dM_nextKind_23 (lv_at hl 4 rfl) ?_
    refine lv_iload hx hb dM_nextKind_25 (lv_at hl 6 rfl) ?_
    refine lv_ishr hx hb dM_nextKind_27 ?_
    refine lv_iconst (v := 1) hx hb dM_nextKind_28 (by decide) ?_
    refine lv_iand hx hb dM_nextKind_29 ?_
    refine lv_if_ne (tgt := 75) hx hb dM_nextKind_30 rfl (fun h2 => ?_) (fun h2 => ?_)
    · have hl : lv_has ls 9 [(7, .long ((rwk vv c0 (nI k) n) &&& AA)), (0, .ref y), (1, .long AA), (3, .int (nI c0)), (4, .int bits), (5, .int (nxk zr n w vv c0 AA bits (k + 1))), (6, .int (nI k))] := by
        rw [nxk_f (fun q => h2 q.1)]; exact hl
      refine lv_iinc (k := 6) (v := nI (k + 1)) hx hb dM_nextKind_75 hl rfl (nI_1 k) (by decide) rfl (fun ls hl => ?_)
      have hl : lv_has ls 9 [(6, .int (nI (k + 1))), (7, .long ((rwk vv c0 (nI k) n) &&& AA)), (0, .ref y), (1, .long AA), (3, .int (nI c0)), (4, .int bits), (5, .int (nxk zr n w vv c0 AA bits (k + 1)))] := hl
      refine lv_goto (tgt := 6) hx hb dM_nextKind_78 rfl ?_
      exact ih6 (k + 1, q0, q1, q2) (show (k + 1) ≤ 12 from by omega) (show 12 - (k + 1) < 12 - k from (by omega)) ls H locs (lv_sub hl [2, 3, 4, 5, 6, 0] rfl) hP hD hS
    · refine lv_lload hx hb dM_nextKind_33 (lv_at hl 0 rfl) ?_
      refine lv_lconst (v := 0) hx hb dM_nextKind_35 (by decide) ?_
      refine W.lcmp hx hb dM_nextKind_36 ?_
      refine lv_if_eq (tgt := 75) hx hb dM_nextKind_37 rfl (fun h3 => ?_) (fun h3 => ?_)
      · have hl : lv_has ls 9 [(7, .long ((rwk vv c0 (nI k) n) &&& AA)), (0, .ref y), (1, .long AA), (3, .int (nI c0)), (4, .int bits), (5, .int (nxk zr n w vv c0 AA bits (k + 1))), (6, .int (nI k))] := by
          rw [nxk_f (fun q => q.2.1 ((lg_cmp_eq _ _).mp h3))]; exact hl
        refine lv_iinc (k := 6) (v := nI (k + 1)) hx hb dM_nextKind_75 hl rfl (nI_1 k) (by decide) rfl (fun ls hl => ?_)
        have hl : lv_has ls 9 [(6, .int (nI (k + 1))), (7, .long ((rwk vv c0 (nI k) n) &&& AA)), (0, .ref y), (1, .long AA), (3, .int (nI c0)), (4, .int bits), (5, .int (nxk zr n w vv c0 AA bits (k + 1)))] := hl
        refine lv_goto (tgt := 6) hx hb dM_nextKind_78 rfl ?_
        exact ih6 (k + 1, q0, q1, q2) (show (k + 1) ≤ 12 from by omega) (show 12 - (k + 1) < 12 - k from (by omega)) ls H locs (lv_sub hl [2, 3, 4, 5, 6, 0] rfl) hP hD hS
      · have hwn : ¬ (rwk vv c0 (nI k) n &&& AA) = 0 := fun q => h3 ((lg_cmp_eq _ _).mpr q)
        refine lv_iload hx hb dM_nextKind_40 (lv_at hl 5 rfl) ?_
        refine lv_if_lt (tgt := 66) hx hb dM_nextKind_42 rfl (fun h4 => ?_) (fun h4 => ?_)
        · refine lv_iload hx hb dM_nextKind_66 (lv_at hl 6 rfl) ?_
          refine lv_goto (tgt := 73) hx hb dM_nextKind_68 rfl ?_
          refine lv_topi (fun y9 e9 => ?_)
          cases (show y9 = nxk zr n w vv c0 AA bits (k + 1) from e9.trans ((nxk_t h2 hwn (Or.inl h4)).symm))
          refine lv_istore hx hb dM_nextKind_73 hl (by decide) rfl (fun ls hl => ?_)
          have hl : lv_has ls 9 [(5, .int (nxk zr n w vv c0 AA bits (k + 1))), (7, .long ((rwk vv c0 (nI k) n) &&& AA)), (0, .ref y), (1, .long AA), (3, .int (nI c0)), (4, .int bits), (6, .int (nI k))] := hl
          refine lv_iinc (k := 6) (v := nI (k + 1)) hx hb dM_nextKind_75 hl rfl (nI_1 k) (by decide) rfl (fun ls hl => ?_)
          have hl : lv_has ls 9 [(6, .int (nI (k + 1))), (5, .int (nxk zr n w vv c0 AA bits (k + 1))), (7, .long ((rwk vv c0 (nI k) n) &&& AA)), (0, .ref y), (1, .long AA), (3, .int (nI c0)), (4, .int bits)] := hl
          refine lv_goto (tgt := 6) hx hb dM_nextKind_78 rfl ?_
          exact ih6 (k + 1, q0, q1, q2) (show (k + 1) ≤ 12 from by omega) (show 12 - (k + 1) < 12 - k from (by omega)) ls H locs (lv_sub hl [3, 4, 5, 6, 1, 0] rfl) hP hD hS
        · have hfn : ¬ (rwk vv c0 (nxk zr n w vv c0 AA bits k) n &&& AA) = 0 := by
            rcases nxk_ok (zr := zr) (n := n) (w := w) (vv := vv) (c := c0) (A := AA) (bits := bits) k (by omega) with q | ⟨j, _, q1, _, q2⟩
            · exact absurd q h4
            · rw [q1]; exact q2
          refine lv_aload_n hx hb dM_nextKind_45 rfl (lv_at hl 1 rfl) ?_
          refine lv_lload hx hb dM_nextKind_46 (lv_at hl 0 rfl) ?_
          refine lv_iload hx hb dM_nextKind_48 (lv_at hl 6 rfl) ?_
          refine lv_aload_n hx hb dM_nextKind_50 rfl (lv_at hl 1 rfl) ?_
          refine lv_lload_n hx hb dM_nextKind_51 rfl (lv_at hl 2 rfl) ?_
          refine lv_iload_n hx hb dM_nextKind_52 rfl (lv_at hl 3 rfl) ?_
          refine lv_iload hx hb dM_nextKind_53 (lv_at hl 5 rfl) ?_
          refine ro_l (va_Run.run (va_runV (As := [.long AA, .int (nI c0), .int (nxk zr n w vv c0 AA bits k)]) (rest := [.int (nI k), .long ((rwk vv c0 (nI k) n) &&& AA), .ref y]) ⟨hx, hb, hml, hown, hT⟩ (m_rows l D cT y yr yi ysb ybs vv n AA c0 (nxk zr n w vv c0 AA bits k) hn hn2 hc0) ⟨callB_of 3 hT (tb_gd w1480) rfl rfl rfl (hT _ w13) (hT _ w1477) hM_rowsOf ⟨Nat.le_of_ble_eq_true rfl, Nat.le_of_ble_eq_true rfl⟩, (hT _ w1479), (hT _ wp49)⟩ (RO.preV (ci := 11) (q0 := 0) hZ hS (hP.sub (ws' := [(y, .inr (11, MO yr yi ysb ybs)), (yr 5, .inl (cT 0, 288, .inl vv))]) [0, 2] rfl) hK rfl rfl) rfl rfl hl.1 rfl (lv_room (Nat.le_of_ble_eq_true rfl)) dM_nextKind_55 ⟨Nat.le_of_ble_eq_true rfl, Nat.le_of_ble_eq_true rfl⟩)) ?_
          refine lv_iload hx hb dM_nextKind_58 (lv_at hl 5 rfl) ?_
          refine rw_i (wc := [(y, .inr (11, MO yr yi ysb ybs)), (yr 45, .inl (cT 0, 6336, .inl fr)), (yr 30, .inl (cT 0, 302, .inl q0)), (yr 33, .inl (cT 0, 302, .inl q1)), (yr 34, .inl (cT 0, 302, .inl q2))]) (wr := [(yr 5, .inl (cT 0, 288, .inl vv))]) hP hD hS hA [0, 1, 3, 4, 5] [2] rfl rfl (by decide) (by decide) (va_runV (As := [.long ((rwk vv c0 (nI k) n) &&& AA), .int (nI k), .long ((rwk vv c0 (nxk zr n w vv c0 AA bits k) n) &&& AA), .int (nxk zr n w vv c0 AA bits k)]) (rest := []) ⟨hx, hb, hml, hown, hT⟩ (m_before l D cT y yr yi ysb ybs n w zr ZB fr q0 q1 q2 (rwk vv c0 (nI k) n &&& AA) (nI k) (rwk vv c0 (nxk zr n w vv c0 AA bits k) n &&& AA) (nxk zr n w vv c0 AA bits k) hn hn2 hw9 hw20 hM hZB hzf hfit (sub_and (sub_rwk hn2)) (sub_and (sub_rwk hn2)) (cb_pos hwn) (cb_pos hfn) _) ⟨callB_of 4 hT (tb_gd w1484) rfl rfl rfl (hT _ w13) (hT _ w1481) hM_isBefore ⟨Nat.le_of_ble_eq_true rfl, Nat.le_of_ble_eq_true rfl⟩, (hT _ w1483), (hT _ wp50)⟩ (RW.preV (ci := 11) (q0 := 0) hZ hS (va_free (wc := [(y, .inr (11, MO yr yi ysb ybs)), (yr 45, .inl (cT 0, 6336, .inl fr)), (yr 30, .inl (cT 0, 302, .inl q0)), (yr 33, .inl (cT 0, 302, .inl q1)), (yr 34, .inl (cT 0, 302, .inl q2))]) hD hS hA [0, 1, 3, 4, 5] rfl) (hP.sub (ws' := [(y, .inr (11, MO yr yi ysb ybs)), (yr 45, .inl (cT 0, 6336, .inl fr)), (yr 30, .inl (cT 0, 302, .inl q0)), (yr 33, .inl (cT 0, 302, .inl q1)), (yr 34, .inl (cT 0, 302, .inl q2))]) [0, 1, 3, 4, 5] rfl) hK (hD.sub (ws' := [(y, .inr (11, MO yr yi ysb ybs)), (yr 45, .inl (cT 0, 6336, .inl fr)), (yr 30, .inl (cT 0, 302, .inl q0)), (yr 33, .inl (cT 0, 302, .inl q1)), (yr 34, .inl (cT 0, 302, .inl q2))]) [0, 1, 3, 4, 5] (by decide) rfl) rfl rfl) rfl rfl hl.1 rfl (lv_room (Nat.le_of_ble_eq_true rfl)) dM_nextKind_60 ⟨Nat.le_of_ble_eq_true rfl, Nat.le_of_ble_eq_true rfl⟩) (fun ru5 u9 H locs hpu5 hP hD hS => ?_)
          obtain ⟨t0u5, t1u5, t2u5⟩ := u9
          have hpu5 : ru5 = bn (bef zr n w (rwk vv c0 (nI k) n &&& AA) (nI k) (rwk vv c0 (nxk zr n w vv c0 AA bits k) n &&& AA) (nxk zr n w vv c0 AA bits k)) := hpu5
          have hP : va_P D vwCl [(yr 5, .inl (cT 0, 288, .inl vv)), (y, .inr (11, MO yr yi ysb ybs)), (yr 45, .inl (cT 0, 6336, .inl fr)), (yr 30, .inl (cT 0, 302, .inl t0u5)), (yr 33, .inl (cT 0, 302, .inl t1u5)), (yr 34, .inl (cT 0, 302, .inl t2u5))] _ := hP
          have hD : va_D A [(yr 5, .inl (cT 0, 288, .inl vv)), (y, .inr (11, MO yr yi ysb ybs)), (yr 45, .inl (cT 0, 6336, .inl fr)), (yr 30, .inl (cT 0, 302, .inl t0u5)), (yr 33, .inl (cT 0, 302, .inl t1u5)), (yr 34, .inl (cT 0, 302, .inl t2u5))] := hD
          refine lv_if_eq (tgt := 71) hx hb dM_nextKind_63 rfl (fun h6 => ?_) (fun h6 => ?_)
          · refine lv_iload hx hb dM_nextKind_71 (lv_at hl 5 rfl) ?_
            refine lv_topi (fun y9 e9 => ?_)
            cases (show y9 = nxk zr n w vv c0 AA bits (k + 1) from e9.trans ((nxk_f (fun q => q.2.2.elim h4 (fun r => by have q1 := bn_0.mp (hpu5.symm.trans h6); rw [r] at q1; exact absurd q1 (by decide)))).symm))
            refine lv_istore hx hb dM_nextKind_73 hl (by decide) rfl (fun ls hl => ?_)
            have hl : lv_has ls 9 [(5, .int (nxk zr n w vv c0 AA bits (k + 1))), (7, .long ((rwk vv c0 (nI k) n) &&& AA)), (0, .ref y), (1, .long AA), (3, .int (nI c0)), (4, .int bits), (6, .int (nI k))] := hl
            refine lv_iinc (k := 6) (v := nI (k + 1)) hx hb dM_nextKind_75 hl rfl (nI_1 k) (by decide) rfl (fun ls hl => ?_)
            have hl : lv_has ls 9 [(6, .int (nI (k + 1))), (5, .int (nxk zr n w vv c0 AA bits (k + 1))), (7, .long ((rwk vv c0 (nI k) n) &&& AA)), (0, .ref y), (1, .long AA), (3, .int (nI c0)), (4, .int bits)] := hl
            refine lv_goto (tgt := 6) hx hb dM_nextKind_78 rfl ?_
            exact ih6 (k + 1, t0u5, t1u5, t2u5) (show (k + 1) ≤ 12 from by omega) (show 12 - (k + 1) < 12 - k from (by omega)) ls H locs (lv_sub hl [3, 4, 5, 6, 1, 0] rfl) (hP.sub (ws' := [(y, .inr (11, MO yr yi ysb ybs)), (yr 45, .inl (cT 0, 6336, .inl fr)), (yr 5, .inl (cT 0, 288, .inl vv)), (yr 30, .inl (cT 0, 302, .inl t0u5)), (yr 33, .inl (cT 0, 302, .inl t1u5)), (yr 34, .inl (cT 0, 302, .inl t2u5))]) [1, 2, 0, 3, 4, 5] rfl) (hD.sub (ws' := [(y, .inr (11, MO yr yi ysb ybs)), (yr 45, .inl (cT 0, 6336, .inl fr)), (yr 5, .inl (cT 0, 288, .inl vv)), (yr 30, .inl (cT 0, 302, .inl t0u5)), (yr 33, .inl (cT 0, 302, .inl t1u5)), (yr 34, .inl (cT 0, 302, .inl t2u5))]) [1, 2, 0, 3, 4, 5] (by decide) rfl) hS
          · refine lv_iload hx hb dM_nextKind_66 (lv_at hl 6 rfl) ?_
            refine lv_goto (tgt := 73) hx hb dM_nextKind_68 rfl ?_
            refine lv_topi (fun y9 e9 => ?_)
            cases (show y9 = nxk zr n w vv c0 AA bits (k + 1) from e9.trans ((nxk_t h2 hwn (Or.inr (bt_nf (fun q => h6 (by rw [hpu5]; exact bn_0.mpr q))))).symm))
            refine lv_istore hx hb dM_nextKind_73 hl (by decide) rfl (fun ls hl => ?_)
            have hl : lv_has ls 9 [(5, .int (nxk zr n w vv c0 AA bits (k + 1))), (7, .long ((rwk vv c0 (nI k) n) &&& AA)), (0, .ref y), (1, .long AA), (3, .int (nI c0)), (4, .int bits), (6, .int (nI k))] := hl
            refine lv_iinc (k := 6) (v := nI (k + 1)) hx hb dM_nextKind_75 hl rfl (nI_1 k) (by decide) rfl (fun ls hl => ?_)
            have hl : lv_has ls 9 [(6, .int (nI (k + 1))), (5, .int (nxk zr n w vv c0 AA bits (k + 1))), (7, .long ((rwk vv c0 (nI k) n) &&& AA)), (0, .ref y), (1, .long AA), (3, .int (nI c0)), (4, .int bits)] := hl
            refine lv_goto (tgt := 6) hx hb dM_nextKind_78 rfl ?_
            exact ih6 (k + 1, t0u5, t1u5, t2u5) (show (k + 1) ≤ 12 from by omega) (show 12 - (k + 1) < 12 - k from (by omega)) ls H locs (lv_sub hl [3, 4, 5, 6, 1, 0] rfl) (hP.sub (ws' := [(y, .inr (11, MO yr yi ysb ybs)), (yr 45, .inl (cT 0, 6336, .inl fr)), (yr 5, .inl (cT 0, 288, .inl vv)), (yr 30, .inl (cT 0, 302, .inl t0u5)), (yr 33, .inl (cT 0, 302, .inl t1u5)), (yr 34, .inl (cT 0, 302, .inl t2u5))]) [1, 2, 0, 3, 4, 5] rfl) (hD.sub (ws' := [(y, .inr (11, MO yr yi ysb ybs)), (yr 45, .inl (cT 0, 6336, .inl fr)), (yr 5, .inl (cT 0, 288, .inl vv)), (yr 30, .inl (cT 0, 302, .inl t0u5)), (yr 33, .inl (cT 0, 302, .inl t1u5)), (yr 34, .inl (cT 0, 302, .inl t2u5))]) [1, 2, 0, 3, 4, 5] (by decide) rfl) hS
