set_option maxHeartbeats 4000000 in
set_option maxRecDepth 100000 in
theorem m_side (l : Launch) (D : va_G) (cT : Nat → ClassId) (y : Nat) (yr : Nat → Nat) (yi : Nat → Int32) (ysb : Int64) (ybs : Int64) (n : Nat) (w : Nat) (lst : Nat) (zr : Nat → Int) (ZB : Nat) (fr : Nat → Int32) (AA : Int64) (fb : Nat → Int32) (k0 : Nat → Int32) (k1 : Nat → Int32) (k2 : Nat → Int32) (k3 : Nat → Int32) (k4 : Nat → Int32) (k5 : Nat → Int32) (k6 : Nat → Int32) (b : BST) (MM : Int64) (S : Int64) (pc1 : Int32) (pe1 : Int32) (hn : yi 3 = nI n) (hn2 : n ≤ 48) (hw9 : yi 12 = nI w) (hw20 : w ≤ 20) (hls : yi 11 = nI lst) (hls2 : 1 ≤ lst ∧ lst ≤ 24) (hM : ∀ k, k < n → MR fr (132 * k) (zr k)) (hZB : ∀ k, k < n → (zr k).natAbs ≤ ZB) (hzf : 100 * ZB < 268435456 ^ 250) (hfit : (100 * ZB) * (100 * ZB) * 1000000000000 < 268435456 ^ 130) (hB : BSF yi ybs fb b ((100 * ZB) * (100 * ZB) * 20000)) (hA9 : SUBn AA n) (hM9 : SUBn MM n) (hS9 : SUBn S n) (sz : Nat) : Met l yM_lookAtSide WM_lookAtSide ({ frames := 5, cells := 0, slots := 0, locals := 130 } : Room) (RW D vwCl [.ref y, .long AA, .long MM, .long S, .int pc1, .int pe1] [(y, .inr (11, MO yr yi ysb ybs)), (yr 45, .inl (cT 0, 6336, .inl fr)), (yr 36, .inl (cT 0, 302, .inl fb)), (yr 30, .inl (cT 0, 302, .inl k0)), (yr 33, .inl (cT 0, 302, .inl k1)), (yr 34, .inl (cT 0, 302, .inl k2)), (yr 32, .inl (cT 0, 302, .inl k3)), (yr 35, .inl (cT 0, 302, .inl k4)), (yr 31, .inl (cT 0, 302, .inl k5)), (yr 39, .inl (cT 0, 302, .inl k6))] (TY cT) sz) (va_Qv (fun u9 : BST × (Nat → Int32) × Int64 × (Nat → Int32) × (Nat → Int32) × (Nat → Int32) × (Nat → Int32) × (Nat → Int32) × (Nat → Int32) × (Nat → Int32) × (Nat → Int32) => u9.1 = lks zr n w lst AA MM b S pc1 pe1 ∧ BSF u9.2.1 u9.2.2.1 u9.2.2.2.1 u9.1 ((100 * ZB) * (100 * ZB) * 20000) ∧ YKP yi u9.2.1) (BW D vwCl (va_A [(y, .inr (11, MO yr yi ysb ybs)), (yr 45, .inl (cT 0, 6336, .inl fr)), (yr 36, .inl (cT 0, 302, .inl fb)), (yr 30, .inl (cT 0, 302, .inl k0)), (yr 33, .inl (cT 0, 302, .inl k1)), (yr 34, .inl (cT 0, 302, .inl k2)), (yr 32, .inl (cT 0, 302, .inl k3)), (yr 35, .inl (cT 0, 302, .inl k4)), (yr 31, .inl (cT 0, 302, .inl k5)), (yr 39, .inl (cT 0, 302, .inl k6))] sz) (fun u9 : BST × (Nat → Int32) × Int64 × (Nat → Int32) × (Nat → Int32) × (Nat → Int32) × (Nat → Int32) × (Nat → Int32) × (Nat → Int32) × (Nat → Int32) × (Nat → Int32) => [(y, .inr (11, MO yr u9.2.1 ysb u9.2.2.1)), (yr 45, .inl (cT 0, 6336, .inl fr)), (yr 36, .inl (cT 0, 302, .inl u9.2.2.2.1)), (yr 30, .inl (cT 0, 302, .inl u9.2.2.2.2.1)), (yr 33, .inl (cT 0, 302, .inl u9.2.2.2.2.2.1)), (yr 34, .inl (cT 0, 302, .inl u9.2.2.2.2.2.2.1)), (yr 32, .inl (cT 0, 302, .inl u9.2.2.2.2.2.2.2.1)), (yr 35, .inl (cT 0, 302, .inl u9.2.2.2.2.2.2.2.2.1)), (yr 31, .inl (cT 0, 302, .inl u9.2.2.2.2.2.2.2.2.2.1)), (yr 39, .inl (cT 0, 302, .inl u9.2.2.2.2.2.2.2.2.2.2))])) (va_A [(y, .inr (11, MO yr yi ysb ybs)), (yr 45, .inl (cT 0, 6336, .inl fr)), (yr 36, .inl (cT 0, 302, .inl fb)), (yr 30, .inl (cT 0, 302, .inl k0)), (yr 33, .inl (cT 0, 302, .inl k1)), (yr 34, .inl (cT 0, 302, .inl k2)), (yr 32, .inl (cT 0, 302, .inl k3)), (yr 35, .inl (cT 0, 302, .inl k4)), (yr 31, .inl (cT 0, 302, .inl k5)), (yr 39, .inl (cT 0, 302, .inl k6))] sz)) 0 0 (va_A [(y, .inr (11, MO yr yi ysb ybs)), (yr 45, .inl (cT 0, 6336, .inl fr)), (yr 36, .inl (cT 0, 302, .inl fb)), (yr 30, .inl (cT 0, 302, .inl k0)), (yr 33, .inl (cT 0, 302, .inl k1)), (yr 34, .inl (cT 0, 302, .inl k2)), (yr 32, .inl (cT 0, 302, .inl k3)), (yr 35, .inl (cT 0, 302, .inl k4)), (yr 31, .inl (cT 0, 302, .inl k5)), (yr 39, .inl (cT 0, 302, .inl k6))] sz) := by
  refine Met.ofW (cc := cM_lookAtSide) (maxL := 9) (ret := none) (by decide) rfl ?_
  intro p e s m args below meth c s₁ B hml hv
  obtain ⟨rfl, hsz, hZ, hP, hK, hD0⟩ := hv
  have hx := B.exec
  have hb := B.bytes
  have hr := B.returns
  have hts := atoms_spec (ws := WM_lookAtSide) B.pre
  have hT : ∀ w ∈ TB, w.before _ s = true := fun w h => hts w (List.mem_cons_of_mem _ h)
  have hown : s.vm.findClass R_M = some m.cls := findClass_of_methodNamed B.named
  have hlocks := B.notSynchronized
  subst hsz
  have hD := hD0.self (sz := s.heap.size)
  generalize hAe : va_A [(y, .inr (11, MO yr yi ysb ybs)), (yr 45, .inl (cT 0, 6336, .inl fr)), (yr 36, .inl (cT 0, 302, .inl fb)), (yr 30, .inl (cT 0, 302, .inl k0)), (yr 33, .inl (cT 0, 302, .inl k1)), (yr 34, .inl (cT 0, 302, .inl k2)), (yr 32, .inl (cT 0, 302, .inl k3)), (yr 35, .inl (cT 0, 302, .inl k4)), (yr 31, .inl (cT 0, 302, .inl k5)), (yr 39, .inl (cT 0, 302, .inl k6))] s.heap.size = A at hD hZ ⊢
  have hA : ∀ q : Nat, s.heap.size ≤ q → A q := fun q h => by rw [← hAe]; exact Or.inr h
  have hS : va_S A s.heap s.heap [] := va_S.rf
  have hl := lv_entry ([.ref y, .long AA, .long MM, .long S, .int pc1, .int pe1]) (n := 9) (Nat.le_of_ble_eq_true rfl)
  rw [lg_entry_eq]
  generalize (lg_sl ([.ref y, .long AA, .long MM, .long S, .int pc1, .int pe1]) ++ List.replicate (9 - (lg_sl ([.ref y, .long AA, .long MM, .long S, .int pc1, .int pe1])).length) Slot.unset).toArray = ls at hl ⊢
  have hl : lv_has ls 9 [(0, .ref y), (1, .long AA), (3, .long MM), (5, .long S), (7, .int pc1), (8, .int pe1)] := hl
  refine lv_aload_n hx hb dM_lookAtSide_0 rfl (lv_at hl 0 rfl) ?_
  refine lv_lload_n hx hb dM_lookAtSide_1 rfl (lv_at hl 1 rfl) ?_
  refine lv_lload hx hb dM_lookAtSide_2 (lv_at hl 3 rfl) ?_
  refine lv_lload_n hx hb dM_lookAtSide_4 rfl (lv_at hl 2 rfl) ?_
  refine lv_lor hx hb dM_lookAtSide_5 ?_
  refine lv_iload hx hb dM_lookAtSide_6 (lv_at hl 4 rfl) ?_
  refine lv_iload hx hb dM_lookAtSide_8 (lv_at hl 5 rfl) ?_
  refine lv_iconst (v := 1) hx hb dM_lookAtSide_10 (by decide) ?_
  refine rw_v (wc := [(y, .inr (11, MO yr yi ysb ybs)), (yr 45, .inl (cT 0, 6336, .inl fr)), (yr 36, .inl (cT 0, 302, .inl fb)), (yr 30, .inl (cT 0, 302, .inl k0)), (yr 33, .inl (cT 0, 302, .inl k1)), (yr 34, .inl (cT 0, 302, .inl k2)), (yr 32, .inl (cT 0, 302, .inl k3)), (yr 35, .inl (cT 0, 302, .inl k4)), (yr 31, .inl (cT 0, 302, .inl k5)), (yr 39, .inl (cT 0, 302, .inl k6))]) (wr := []) hP hD hS hA [0, 1, 2, 3, 4, 5, 6, 7, 8, 9] [] rfl rfl (by decide) (by decide) (va_runV (As := [.long AA, .long (S ||| MM), .int pc1, .int pe1, .int 1]) (rest := []) ⟨hx, hb, hml, hown, hT⟩ (m_weigh l D cT y yr yi ysb ybs n w lst zr ZB fr AA fb k0 k1 k2 k3 k4 k5 k6 b (S ||| MM) pc1 pe1 1 hn hn2 hw9 hw20 hls hls2 hM hZB hzf hfit hB (cb_48 hA9 (sub_or hS9 hM9) hn2) (Or.inr rfl) _) ⟨callB_of 5 hT (tb_gd w1499) rfl rfl rfl (hT _ w13) (hT _ w1496) hM_weigh ⟨Nat.le_of_ble_eq_true rfl, Nat.le_of_ble_eq_true rfl⟩, (hT _ w1498), (hT _ wp53)⟩ (RW.preV (ci := 11) (q0 := 0) hZ hS (va_free (wc := [(y, .inr (11, MO yr yi ysb ybs)), (yr 45, .inl (cT 0, 6336, .inl fr)), (yr 36, .inl (cT 0, 302, .inl fb)), (yr 30, .inl (cT 0, 302, .inl k0)), (yr 33, .inl (cT 0, 302, .inl k1)), (yr 34, .inl (cT 0, 302, .inl k2)), (yr 32, .inl (cT 0, 302, .inl k3)), (yr 35, .inl (cT 0, 302, .inl k4)), (yr 31, .inl (cT 0, 302, .inl k5)), (yr 39, .inl (cT 0, 302, .inl k6))]) hD hS hA [0, 1, 2, 3, 4, 5, 6, 7, 8, 9] rfl) (hP.sub (ws' := [(y, .inr (11, MO yr yi ysb ybs)), (yr 45, .inl (cT 0, 6336, .inl fr)), (yr 36, .inl (cT 0, 302, .inl fb)), (yr 30, .inl (cT 0, 302, .inl k0)), (yr 33, .inl (cT 0, 302, .inl k1)), (yr 34, .inl (cT 0, 302, .inl k2)), (yr 32, .inl (cT 0, 302, .inl k3)), (yr 35, .inl (cT 0, 302, .inl k4)), (yr 31, .inl (cT 0, 302, .inl k5)), (yr 39, .inl (cT 0, 302, .inl k6))]) [0, 1, 2, 3, 4, 5, 6, 7, 8, 9] rfl) hK (hD.sub (ws' := [(y, .inr (11, MO yr yi ysb ybs)), (yr 45, .inl (cT 0, 6336, .inl fr)), (yr 36, .inl (cT 0, 302, .inl fb)), (yr 30, .inl (cT 0, 302, .inl k0)), (yr 33, .inl (cT 0, 302, .inl k1)), (yr 34, .inl (cT 0, 302, .inl k2)), (yr 32, .inl (cT 0, 302, .inl k3)), (yr 35, .inl (cT 0, 302, .inl k4)), (yr 31, .inl (cT 0, 302, .inl k5)), (yr 39, .inl (cT 0, 302, .inl k6))]) [0, 1, 2, 3, 4, 5, 6, 7, 8, 9] (by decide) rfl) rfl rfl) rfl rfl hl.1 rfl (lv_room (Nat.le_of_ble_eq_true rfl)) dM_lookAtSide_11 ⟨Nat.le_of_ble_eq_true rfl, Nat.le_of_ble_eq_true rfl⟩) (fun u9 H locs hpu1 hP hD hS => ?_)
  obtain ⟨bwu1, yi7u1, bs7u1, fb7u1, j0u1, j1u1, j2u1, j3u1, j4u1, j5u1, j6u1⟩ := u9
  have hpu1 : bwu1 = wgh zr n w lst AA b (S ||| MM) pc1 pe1 1 ∧ BSF yi7u1 bs7u1 fb7u1 bwu1 ((100 * ZB) * (100 * ZB) * 20000) ∧ YKP yi yi7u1 := hpu1
  have hP : va_P D vwCl [(y, .inr (11, MO yr yi7u1 ysb bs7u1)), (yr 45, .inl (cT 0, 6336, .inl fr)), (yr 36, .inl (cT 0, 302, .inl fb7u1)), (yr 30, .inl (cT 0, 302, .inl j0u1)), (yr 33, .inl (cT 0, 302, .inl j1u1)), (yr 34, .inl (cT 0, 302, .inl j2u1)), (yr 32, .inl (cT 0, 302, .inl j3u1)), (yr 35, .inl (cT 0, 302, .inl j4u1)), (yr 31, .inl (cT 0, 302, .inl j5u1)), (yr 39, .inl (cT 0, 302, .inl j6u1))] _ := hP
  have hD : va_D A [(y, .inr (11, MO yr yi7u1 ysb bs7u1)), (yr 45, .inl (cT 0, 6336, .inl fr)), (yr 36, .inl (cT 0, 302, .inl fb7u1)), (yr 30, .inl (cT 0, 302, .inl j0u1)), (yr 33, .inl (cT 0, 302, .inl j1u1)), (yr 34, .inl (cT 0, 302, .inl j2u1)), (yr 32, .inl (cT 0, 302, .inl j3u1)), (yr 35, .inl (cT 0, 302, .inl j4u1)), (yr 31, .inl (cT 0, 302, .inl j5u1)), (yr 39, .inl (cT 0, 302, .inl j6u1))] := hD
  obtain ⟨v1, v2, v3⟩ := hpu1
  refine lv_lload_n hx hb dM_lookAtSide_14 rfl (lv_at hl 2 rfl) ?_
  refine lv_lconst (v := 0) hx hb dM_lookAtSide_15 (by decide) ?_
  refine W.lcmp hx hb dM_lookAtSide_16 ?_
  refine lv_if_eq (tgt := 32) hx hb dM_lookAtSide_17 rfl (fun h2 => ?_) (fun h2 => ?_)
  · have hP9 := hP.sub (ws' := [(y, .inr (11, MO yr yi7u1 ysb bs7u1)), (yr 45, .inl (cT 0, 6336, .inl fr)), (yr 36, .inl (cT 0, 302, .inl fb7u1)), (yr 30, .inl (cT 0, 302, .inl j0u1)), (yr 33, .inl (cT 0, 302, .inl j1u1)), (yr 34, .inl (cT 0, 302, .inl j2u1)), (yr 32, .inl (cT 0, 302, .inl j3u1)), (yr 35, .inl (cT 0, 302, .inl j4u1)), (yr 31, .inl (cT 0, 302, .inl j5u1)), (yr 39, .inl (cT 0, 302, .inl j6u1))]) [0, 1, 2, 3, 4, 5, 6, 7, 8, 9] rfl
    have hD9 := hD.sub (ws' := [(y, .inr (11, MO yr yi7u1 ysb bs7u1)), (yr 45, .inl (cT 0, 6336, .inl fr)), (yr 36, .inl (cT 0, 302, .inl fb7u1)), (yr 30, .inl (cT 0, 302, .inl j0u1)), (yr 33, .inl (cT 0, 302, .inl j1u1)), (yr 34, .inl (cT 0, 302, .inl j2u1)), (yr 32, .inl (cT 0, 302, .inl j3u1)), (yr 35, .inl (cT 0, 302, .inl j4u1)), (yr 31, .inl (cT 0, 302, .inl j5u1)), (yr 39, .inl (cT 0, 302, .inl j6u1))]) [0, 1, 2, 3, 4, 5, 6, 7, 8, 9] (by decide) rfl
    refine W.widen (k := 0) (n := 0) (Nat.le_of_ble_eq_true rfl) (Nat.le_of_ble_eq_true rfl) ?_
    exact W.vret hx hb hr (fun t9 ht9 hW9 => ⟨⟨(bwu1, yi7u1, bs7u1, fb7u1, j0u1, j1u1, j2u1, j3u1, j4u1, j5u1, j6u1), rfl, (show bwu1 = lks zr n w lst AA MM b S pc1 pe1 ∧ BSF yi7u1 bs7u1 fb7u1 bwu1 ((100 * ZB) * (100 * ZB) * 20000) ∧ YKP yi yi7u1 from ⟨by unfold lks; rw [if_pos ((lg_cmp_eq _ _).mp h2)]; exact v1, v2, v3⟩), by rw [ht9]; exact hP9, hD9⟩, hS.F ht9⟩) hS.2.2 dM_lookAtSide_32
  · refine lv_aload_n hx hb dM_lookAtSide_20 rfl (lv_at hl 0 rfl) ?_
    refine lv_lload_n hx hb dM_lookAtSide_21 rfl (lv_at hl 1 rfl) ?_
    refine lv_lload hx hb dM_lookAtSide_22 (lv_at hl 3 rfl) ?_
    refine lv_iload hx hb dM_lookAtSide_24 (lv_at hl 4 rfl) ?_
    refine lv_iload hx hb dM_lookAtSide_26 (lv_at hl 5 rfl) ?_
    refine lv_iconst (v := 0) hx hb dM_lookAtSide_28 (by decide) ?_
    refine rw_v (wc := [(y, .inr (11, MO yr yi7u1 ysb bs7u1)), (yr 45, .inl (cT 0, 6336, .inl fr)), (yr 36, .inl (cT 0, 302, .inl fb7u1)), (yr 30, .inl (cT 0, 302, .inl j0u1)), (yr 33, .inl (cT 0, 302, .inl j1u1)), (yr 34, .inl (cT 0, 302, .inl j2u1)), (yr 32, .inl (cT 0, 302, .inl j3u1)), (yr 35, .inl (cT 0, 302, .inl j4u1)), (yr 31, .inl (cT 0, 302, .inl j5u1)), (yr 39, .inl (cT 0, 302, .inl j6u1))]) (wr := []) hP hD hS hA [0, 1, 2, 3, 4, 5, 6, 7, 8, 9] [] rfl rfl (by decide) (by decide) (va_runV (As := [.long AA, .long S, .int pc1, .int pe1, .int 0]) (rest := []) ⟨hx, hb, hml, hown, hT⟩ (m_weigh l D cT y yr yi7u1 ysb bs7u1 n w lst zr ZB fr AA fb7u1 j0u1 j1u1 j2u1 j3u1 j4u1 j5u1 j6u1 bwu1 S pc1 pe1 0 ((v3 3 (by decide) (by decide) (by decide) (by decide)).trans hn) hn2 ((v3 12 (by decide) (by decide) (by decide) (by decide)).trans hw9) hw20 ((v3 11 (by decide) (by decide) (by decide) (by decide)).trans hls) hls2 hM hZB hzf hfit v2 (cb_48 hA9 hS9 hn2) (Or.inl rfl) _) ⟨callB_of 5 hT (tb_gd w1499) rfl rfl rfl (hT _ w13) (hT _ w1496) hM_weigh ⟨Nat.le_of_ble_eq_true rfl, Nat.le_of_ble_eq_true rfl⟩, (hT _ w1498), (hT _ wp53)⟩ (RW.preV (ci := 11) (q0 := 0) hZ hS (va_free (wc := [(y, .inr (11, MO yr yi7u1 ysb bs7u1)), (yr 45, .inl (cT 0, 6336, .inl fr)), (yr 36, .inl (cT 0, 302, .inl fb7u1)), (yr 30, .inl (cT 0, 302, .inl j0u1)), (yr 33, .inl (cT 0, 302, .inl j1u1)), (yr 34, .inl (cT 0, 302, .inl j2u1)), (yr 32, .inl (cT 0, 302, .inl j3u1)), (yr 35, .inl (cT 0, 302, .inl j4u1)), (yr 31, .inl (cT 0, 302, .inl j5u1)), (yr 39, .inl (cT 0, 302, .inl j6u1))]) hD hS hA [0, 1, 2, 3, 4, 5, 6, 7, 8, 9] rfl) (hP.sub (ws' := [(y, .inr (11, MO yr yi7u1 ysb bs7u1)), (yr 45, .inl (cT 0, 6336, .inl fr)), (yr 36, .inl (cT 0, 302, .inl fb7u1)), (yr 30, .inl (cT 0, 302, .inl j0u1)), (yr 33, .inl (cT 0, 302, .inl j1u1)), (yr 34, .inl (cT 0, 302, .inl j2u1)), (yr 32, .inl (cT 0, 302, .inl j3u1)), (yr 35, .inl (cT 0, 302, .inl j4u1)), (yr 31, .inl (cT 0, 302, .inl j5u1)), (yr 39, .inl (cT 0, 302, .inl j6u1))]) [0, 1, 2, 3, 4, 5, 6, 7, 8, 9] rfl) hK (hD.sub (ws' := [(y, .inr (11, MO yr yi7u1 ysb bs7u1)), (yr 45, .inl (cT 0, 6336, .inl fr)), (yr 36, .inl (cT 0, 302, .inl fb7u1)), (yr 30, .inl (cT 0, 302, .inl j0u1)), (yr 33, .inl (cT 0, 302, .inl j1u1)), (yr 34, .inl (cT 0, 302, .inl j2u1)), (yr 32, .inl (cT 0, 302, .inl j3u1)), (yr 35, .inl (cT 0, 302, .inl j4u1)), (yr 31, .inl (cT 0, 302, .inl j5u1)), (yr 39, .inl (cT 0, 302, .inl j6u1))]) [0, 1, 2, 3, 4, 5, 6, 7, 8, 9] (by decide) rfl) rfl rfl) rfl rfl hl.1 rfl (lv_room (Nat.le_of_ble_eq_true rfl)) dM_lookAtSide_29 ⟨Nat.le_of_ble_eq_true rfl, Nat.le_of_ble_eq_true rfl⟩) (fun u9 H locs hpu3 hP hD hS => ?_)
    obtain ⟨bwu3, yi7u3, bs7u3, fb7u3, j0u3, j1u3, j2u3, j3u3, j4u3, j5u3, j6u3⟩ := u9
    have hpu3 : bwu3 = wgh zr n w lst AA bwu1 S pc1 pe1 0 ∧ BSF yi7u3 bs7u3 fb7u3 bwu3 ((100 * ZB) * (100 * ZB) * 20000) ∧ YKP yi7u1 yi7u3 := hpu3
    have hP : va_P D vwCl [(y, .inr (11, MO yr yi7u3 ysb bs7u3)), (yr 45, .inl (cT 0, 6336, .inl fr)), (yr 36, .inl (cT 0, 302, .inl fb7u3)), (yr 30, .inl (cT 0, 302, .inl j0u3)), (yr 33, .inl (cT 0, 302, .inl j1u3)), (yr 34, .inl (cT 0, 302, .inl j2u3)), (yr 32, .inl (cT 0, 302, .inl j3u3)), (yr 35, .inl (cT 0, 302, .inl j4u3)), (yr 31, .inl (cT 0, 302, .inl j5u3)), (yr 39, .inl (cT 0, 302, .inl j6u3))] _ := hP
    have hD : va_D A [(y, .inr (11, MO yr yi7u3 ysb bs7u3)), (yr 45, .inl (cT 0, 6336, .inl fr)), (yr 36, .inl (cT 0, 302, .inl fb7u3)), (yr 30, .inl (cT 0, 302, .inl j0u3)), (yr 33, .inl (cT 0, 302, .inl j1u3)), (yr 34, .inl (cT 0, 302, .inl j2u3)), (yr 32, .inl (cT 0, 302, .inl j3u3)), (yr 35, .inl (cT 0, 302, .inl j4u3)), (yr 31, .inl (cT 0, 302, .inl j5u3)), (yr 39, .inl (cT 0, 302, .inl j6u3))] := hD
    have hP9 := hP.sub (ws' := [(y, .inr (11, MO yr yi7u3 ysb bs7u3)), (yr 45, .inl (cT 0, 6336, .inl fr)), (yr 36, .inl (cT 0, 302, .inl fb7u3)), (yr 30, .inl (cT 0, 302, .inl j0u3)), (yr 33, .inl (cT 0, 302, .inl j1u3)), (yr 34, .inl (cT 0, 302, .inl j2u3)), (yr 32, .inl (cT 0, 302, .inl j3u3)), (yr 35, .inl (cT 0, 302, .inl j4u3)), (yr 31, .inl (cT 0, 302, .inl j5u3)), (yr 39, .inl (cT 0, 302, .inl j6u3))]) [0, 1, 2, 3, 4, 5, 6, 7, 8, 9] rfl
    have hD9 := hD.sub (ws' := [(y, .inr (11, MO yr yi7u3 ysb bs7u3)), (yr 45, .inl (cT 0, 6336, .inl fr)), (yr 36, .inl (cT 0, 302, .inl fb7u3)), (yr 30, .inl (cT 0, 302, .inl j0u3)), (yr 33, .inl (cT 0, 302, .inl j1u3)), (yr 34, .inl (cT 0, 302, .inl j2u3)), (yr 32, .inl (cT 0, 302, .inl j3u3)), (yr 35, .inl (cT 0, 302, .inl j4u3)), (yr 31, .inl (cT 0, 302, .inl j5u3)), (yr 39, .inl (cT 0, 302, .inl j6u3))]) [0, 1, 2, 3, 4, 5, 6, 7, 8, 9] (by decide) rfl
    refine W.widen (k := 0) (n := 0) (Nat.le_of_ble_eq_true rfl) (Nat.le_of_ble_eq_true rfl) ?_
    exact W.vret hx hb hr (fun t9 ht9 hW9 => ⟨⟨(bwu3, yi7u3, bs7u3, fb7u3, j0u3, j1u3, j2u3, j3u3, j4u3, j5u3, j6u3), rfl, (show bwu3 = lks zr n w lst AA MM b S pc1 pe1 ∧ BSF yi7u3 bs7u3 fb7u3 bwu3 ((100 * ZB) * (100 * ZB) * 20000) ∧ YKP yi yi7u3 from ⟨by unfold lks; rw [if_neg (fun q => h2 ((lg_cmp_eq _ _).mpr q)), ← v1]; exact hpu3.1, hpu3.2.1, ykp_t v3 hpu3.2.2⟩), by rw [ht9]; exact hP9, hD9⟩, hS.F ht9⟩) hS.2.2 dM_lookAtSide_32
set_option maxHeartbeats 4000000 in
set_option maxRecDepth 100000 in
theorem m_rows (l : Launch) (D : va_G) (cT : Nat → ClassId) (y : Nat) (yr : Nat → Nat) (yi : Nat → Int32) (ysb : Int64) (ybs : Int64) (vv : Nat → Int32) (n : Nat) (x : Int64) (c0 : Nat) (kd0 : Int32) (hn : yi 3 = nI n) (hn2 : n ≤ 48) (hc0 : c0 < 6) : Met l yM_rowsOf WM_rowsOf ({ frames := 0, cells := 0, slots := 0, locals := 0 } : Room) (RO D vwCl [.ref y, .long x, .int (nI c0), .int kd0] [(y, .inr (11, MO yr yi ysb ybs)), (yr 5, .inl (cT 0, 288, .inl vv))] (TY cT)) (QcReadL ((rwk vv c0 kd0 n) &&& x)) 0 0 (fun _ => False) := by
  refine Met.ofW (cc := cM_rowsOf) (maxL := 8) (ret := (some .long)) (by decide) rfl ?_
  intro p e s m args below meth c s₁ B hml hv
  obtain ⟨rfl, hZ, hP, hK⟩ := hv
  have hx := B.exec
  have hb := B.bytes
  have hr := B.returns
  have hts := atoms_spec (ws := WM_rowsOf) B.pre
  have hT : ∀ w ∈ TB, w.before _ s = true := fun w h => hts w (List.mem_cons_of_mem _ h)
  have hown : s.vm.findClass R_M = some m.cls := findClass_of_methodNamed B.named
  have hlocks := B.notSynchronized
  have hS : va_S (fun _ => False) s.heap s.heap [] := va_S.rf
  have hl := lv_entry ([.ref y, .long x, .int (nI c0), .int kd0]) (n := 8) (Nat.le_of_ble_eq_true rfl)
  rw [lg_entry_eq]
  generalize (lg_sl ([.ref y, .long x, .int (nI c0), .int kd0]) ++ List.replicate (8 - (lg_sl ([.ref y, .long x, .int (nI c0), .int kd0])).length) Slot.unset).toArray = ls at hl ⊢
  have hl : lv_has ls 8 [(0, .ref y), (1, .long x), (3, .int (nI c0)), (4, .int kd0)] := hl
  refine lv_lconst (v := 0) hx hb dM_rowsOf_0 (by decide) ?_
  refine lv_lstore hx hb dM_rowsOf_1 hl (by decide) rfl (fun ls hl => ?_)
  have hl : lv_has ls 8 [(5, .long 0), (0, .ref y), (1, .long x), (3, .int (nI c0)), (4, .int kd0)] := hl
  refine lv_iconst (v := 0) hx hb dM_rowsOf_3 (by decide) ?_
  refine lv_istore hx hb dM_rowsOf_4 hl (by decide) rfl (fun ls hl => ?_)
  have hl : lv_has ls 8 [(7, .int 0), (5, .long 0), (0, .ref y), (1, .long x), (3, .int (nI c0)), (4, .int kd0)] := hl
  refine lp_r (α := Nat) (fun a9 => a9 ≤ n) (fun a9 => n - a9) (fun a9 => [(0, .ref y), (1, .long x), (3, .int (nI c0)), (4, .int kd0), (5, .long (rwk vv c0 kd0 a9)), (7, .int (nI a9))]) 6 ?_ 0 (show 0 ≤ n from by omega) (lv_sub hl [2, 3, 4, 5, 1, 0] rfl)
  intro a9 hI6 ih6 ls hl
  obtain ⟨k, rfl⟩ : ∃ q9, q9 = a9 := ⟨_, rfl⟩
  have hI6 : k ≤ n := hI6
  have hl : lv_has ls 8 [(0, .ref y), (1, .long x), (3, .int (nI c0)), (4, .int kd0), (5, .long (rwk vv c0 kd0 k)), (7, .int (nI k))] := hl
  refine lv_iload hx hb dM_rowsOf_6 (lv_at hl 5 rfl) ?_
  refine lv_aload_n hx hb dM_rowsOf_8 rfl (lv_at hl 0 rfl) ?_
  refine va_get (D := D) (ci := 11) (v := .int (yi 3)) (C := R_M) (T := T_M) (N := 60) hx hb hT in_M hown hK hP 0 rfl rfl 3 (by decide) (hT _ w1107) (fun _ h9 => h9) rfl dM_rowsOf_9 ?_
  refine lv_topi (fun y9 e9 => ?_)
  cases (show y9 = nI n from e9.trans hn)
  refine lv_icmp_ge (tgt := 52) hx hb dM_rowsOf_12 rfl (fun h1 => ?_) (fun h1 => ?_)
  · have gh1 : n ≤ k := (nI_leI (a := n) (b := k) (by omega) (by omega)).mp h1
    have ek : k = n := by omega
    subst ek
    have hl : lv_has ls 8 [(0, .ref y), (1, .long x), (3, .int (nI c0)), (4, .int kd0), (5, .long (rwk vv c0 kd0 k)), (7, .int (nI k))] := hl
    refine lv_lload hx hb dM_rowsOf_52 (lv_at hl 4 rfl) ?_
    refine lv_lload_n hx hb dM_rowsOf_54 rfl (lv_at hl 1 rfl) ?_
    refine lv_land hx hb dM_rowsOf_55 ?_
    exact W.lret (v := (rwk vv c0 kd0 k) &&& x) hx hb hr (fun t9 ht9 hW9 => ⟨rfl, ht9⟩) (fun q h => nomatch h) dM_rowsOf_56
  · have gh1 : k < n := Nat.not_le.mp (fun q => h1 ((nI_leI (a := n) (b := k) (by omega) (by omega)).mpr q))
    refine lp_cut (fun x9 : Int64 => x9 = rwk vv c0 kd0 (k + 1)) (fun x9 => [.long x9]) 44 ls (fun x9 e9 => ?_) (fun hct2 => ?_)
    · cases (show x9 = rwk vv c0 kd0 (k + 1) from e9)
      refine lv_lstore hx hb dM_rowsOf_44 hl (by decide) rfl (fun ls hl => ?_)
      have hl : lv_has ls 8 [(5, .long (rwk vv c0 kd0 (k + 1))), (0, .ref y), (1, .long x), (3, .int (nI c0)), (4, .int kd0), (7, .int (nI k))] := hl
      refine lv_iinc (k := 5) (v := nI (k + 1)) hx hb dM_rowsOf_46 hl rfl (nI_1 k) (by decide) rfl (fun ls hl => ?_)
      have hl : lv_has ls 8 [(7, .int (nI (k + 1))), (5, .long (rwk vv c0 kd0 (k + 1))), (0, .ref y), (1, .long x), (3, .int (nI c0)), (4, .int kd0)] := hl
      refine lv_goto (tgt := 6) hx hb dM_rowsOf_49 rfl ?_
      exact ih6 (k + 1) (show (k + 1) ≤ n from by omega) (show n - (k + 1) < n - k from (by omega)) ls (lv_sub hl [2, 3, 4, 5, 1, 0] rfl)
    · refine lv_aload_n hx hb dM_rowsOf_15 rfl (lv_at hl 0 rfl) ?_
      refine va_get (D := D) (ci := 11) (v := .ref (yr 5)) (C := R_M) (T := T_M) (N := 60) hx hb hT in_M hown hK hP 0 rfl rfl 5 (by decide) (hT _ w1109) (fun _ h9 => h9) rfl dM_rowsOf_16 ?_
      refine lv_bipush (v := 6) hx hb dM_rowsOf_19 (by decide) ?_
      refine lv_iload hx hb dM_rowsOf_21 (lv_at hl 5 rfl) ?_
      refine lv_imul hx hb dM_rowsOf_23 ?_
      refine lv_topi (fun y9 e9 => ?_)
      cases (show y9 = nI (6 * k) from e9.trans (pk_mul 6 k))
      refine lv_iload_n hx hb dM_rowsOf_24 rfl (lv_at hl 2 rfl) ?_
      refine lv_iadd hx hb dM_rowsOf_25 ?_
      refine lv_topi (fun y9 e9 => ?_)
      cases (show y9 = nI ((6 * k) + c0) from e9.trans (nI_add (6 * k) c0))
      refine lq_iald (j := (6 * k) + c0) hx hb hK hP 1 0 rfl rfl rfl (by omega) (by omega) dM_rowsOf_26 ?_
      refine lv_iload hx hb dM_rowsOf_27 (lv_at hl 3 rfl) ?_
      refine lv_icmp_ne (tgt := 42) hx hb dM_rowsOf_29 rfl (fun h3 => ?_) (fun h3 => ?_)
      · refine lv_lload hx hb dM_rowsOf_42 (lv_at hl 4 rfl) ?_
        exact hct2 _ (by show _ = (if _ then _ else _); rw [if_neg h3])
      · refine lv_lload hx hb dM_rowsOf_32 (lv_at hl 4 rfl) ?_
        refine lv_lconst (v := 1) hx hb dM_rowsOf_34 (by decide) ?_
        refine lv_iload hx hb dM_rowsOf_35 (lv_at hl 5 rfl) ?_
        refine lv_lshl hx hb dM_rowsOf_37 rfl ?_
        refine lv_lor hx hb dM_rowsOf_38 ?_
        refine lv_goto (tgt := 44) hx hb dM_rowsOf_39 rfl ?_
        exact hct2 _ (by show _ = (if _ then _ else _); rw [if_pos h3])
set_option maxHeartbeats 4000000 in
set_option maxRecDepth 100000 in
theorem m_before (l : Launch) (D : va_G) (cT : Nat → ClassId) (y : Nat) (yr : Nat → Nat) (yi : Nat → Int32) (ysb : Int64) (ybs : Int64) (n : Nat) (w : Nat) (zr : Nat → Int) (ZB : Nat) (fr : Nat → Int32) (q0 : Nat → Int32) (q1 : Nat → Int32) (q2 : Nat → Int32) (x : Int64) (k1 : Int32) (x2 : Int64) (k2 : Int32) (hn : yi 3 = nI n) (hn2 : n ≤ 48) (hw9 : yi 12 = nI w) (hw20 : w ≤ 20) (hM : ∀ k, k < n → MR fr (132 * k) (zr k)) (hZB : ∀ k, k < n → (zr k).natAbs ≤ ZB) (hzf : 100 * ZB < 268435456 ^ 250) (hfit : (100 * ZB) * (100 * ZB) * 1000000000000 < 268435456 ^ 130) (hx9 : SUBn x n) (hy9 : SUBn x2 n) (hx0 : 0 < cb x) (hy0 : 0 < cb x2) (sz : Nat) : Met l yM_isBefore WM_isBefore ({ frames := 4, cells := 0, slots := 0, locals := 98 } : Room) (RW D vwCl [.ref y, .long x, .int k1, .long x2, .int k2] [(y, .inr (11, MO yr yi ysb ybs)), (yr 45, .inl (cT 0, 6336, .inl fr)), (yr 30, .inl (cT 0, 302, .inl q0)), (yr 33, .inl (cT 0, 302, .inl q1)), (yr 34, .inl (cT 0, 302, .inl q2))] (TY cT) sz) (va_Qi (fun (r9 : Int32) (u9 : (Nat → Int32) × (Nat → Int32) × (Nat → Int32)) => r9 = bn (bef zr n w x k1 x2 k2)) (BW D vwCl (va_A [(y, .inr (11, MO yr yi ysb ybs)), (yr 45, .inl (cT 0, 6336, .inl fr)), (yr 30, .inl (cT 0, 302, .inl q0)), (yr 33, .inl (cT 0, 302, .inl q1)), (yr 34, .inl (cT 0, 302, .inl q2))] sz) (fun u9 : (Nat → Int32) × (Nat → Int32) × (Nat → Int32) => [(y, .inr (11, MO yr yi ysb ybs)), (yr 45, .inl (cT 0, 6336, .inl fr)), (yr 30, .inl (cT 0, 302, .inl u9.1)), (yr 33, .inl (cT 0, 302, .inl u9.2.1)), (yr 34, .inl (cT 0, 302, .inl u9.2.2))])) (va_A [(y, .inr (11, MO yr yi ysb ybs)), (yr 45, .inl (cT 0, 6336, .inl fr)), (yr 30, .inl (cT 0, 302, .inl q0)), (yr 33, .inl (cT 0, 302, .inl q1)), (yr 34, .inl (cT 0, 302, .inl q2))] sz)) 0 0 (va_A [(y, .inr (11, MO yr yi ysb ybs)), (yr 45, .inl (cT 0, 6336, .inl fr)), (yr 30, .inl (cT 0, 302, .inl q0)), (yr 33, .inl (cT 0, 302, .inl q1)), (yr 34, .inl (cT 0, 302, .inl q2))] sz) := by
  refine Met.ofW (cc := cM_isBefore) (maxL := 8) (ret := (some .boolean)) (by decide) rfl ?_
  intro p e s m args below meth c s₁ B hml hv
  obtain ⟨rfl, hsz, hZ, hP, hK, hD0⟩ := hv
  have hx := B.exec
  have hb := B.bytes
  have hr := B.returns
  have hts := atoms_spec (ws := WM_isBefore) B.pre
  have hT : ∀ w ∈ TB, w.before _ s = true := fun w h => hts w (List.mem_cons_of_mem _ h)
  have hown : s.vm.findClass R_M = some m.cls := findClass_of_methodNamed B.named
  have hlocks := B.notSynchronized
  subst hsz
  have hD := hD0.self (sz := s.heap.size)
  generalize hAe : va_A [(y, .inr (11, MO yr yi ysb ybs)), (yr 45, .inl (cT 0, 6336, .inl fr)), (yr 30, .inl (cT 0, 302, .inl q0)), (yr 33, .inl (cT 0, 302, .inl q1)), (yr 34, .inl (cT 0, 302, .inl q2))] s.heap.size = A at hD hZ ⊢
  have hA : ∀ q : Nat, s.heap.size ≤ q → A q := fun q h => by rw [← hAe]; exact Or.inr h
  have hS : va_S A s.heap s.heap [] := va_S.rf
  have hl := lv_entry ([.ref y, .long x, .int k1, .long x2, .int k2]) (n := 8) (Nat.le_of_ble_eq_true rfl)
  rw [lg_entry_eq]
  generalize (lg_sl ([.ref y, .long x, .int k1, .long x2, .int k2]) ++ List.replicate (8 - (lg_sl ([.ref y, .long x, .int k1, .long x2, .int k2])).length) Slot.unset).toArray = ls at hl ⊢
  have hl : lv_has ls 8 [(0, .ref y), (1, .long x), (3, .int k1), (4, .long x2), (6, .int k2)] := hl
  have hx48 := cb_n hx9 hn2
  have hy48 := cb_n hy9 hn2
  have zl := zb_lin hfit
  have bsx := smv_le (x := x) hZB n (Nat.le_refl _)
  have bsy := smv_le (x := x2) hZB n (Nat.le_refl _)
  have hnz : n * ZB ≤ 48 * ZB := Nat.mul_le_mul_right _ hn2
  have hz9 : 49 * ZB < 268435456 ^ 250 := by omega
  refine lv_aload_n hx hb dM_isBefore_0 rfl (lv_at hl 0 rfl) ?_
  refine lv_lload_n hx hb dM_isBefore_1 rfl (lv_at hl 1 rfl) ?_
  refine lv_aload_n hx hb dM_isBefore_2 rfl (lv_at hl 0 rfl) ?_
  refine va_get (D := D) (ci := 11) (v := .ref (yr 33)) (C := R_M) (T := T_M) (N := 60) hx hb hT in_M hown hK hP 0 rfl rfl 33 (by decide) (hT _ w1137) (fun _ h9 => h9) rfl dM_isBefore_3 ?_
  refine rw_v (wc := [(y, .inr (11, MO yr yi ysb ybs)), (yr 45, .inl (cT 0, 6336, .inl fr)), (yr 30, .inl (cT 0, 302, .inl q0)), (yr 33, .inl (cT 0, 302, .inl q1))]) (wr := [(yr 34, .inl (cT 0, 302, .inl q2))]) hP hD hS hA [0, 1, 2, 3] [4] rfl rfl (by decide) (by decide) (va_runV (As := [.long x, .ref (yr 33)]) (rest := []) ⟨hx, hb, hml, hown, hT⟩ (m_sum l D cT y yr yi ysb ybs n x zr ZB fr q0 (yr 33) q1 hn hn2 hM hZB hz9 _) ⟨callB_of 2 hT (tb_gd w1488) rfl rfl rfl (hT _ w13) (hT _ w1485) hM_sum ⟨Nat.le_of_ble_eq_true rfl, Nat.le_of_ble_eq_true rfl⟩, (hT _ w1487), (hT _ wp51)⟩ (RW.preV (ci := 11) (q0 := 0) hZ hS (va_free (wc := [(y, .inr (11, MO yr yi ysb ybs)), (yr 45, .inl (cT 0, 6336, .inl fr)), (yr 30, .inl (cT 0, 302, .inl q0)), (yr 33, .inl (cT 0, 302, .inl q1))]) hD hS hA [0, 1, 2, 3] rfl) (hP.sub (ws' := [(y, .inr (11, MO yr yi ysb ybs)), (yr 45, .inl (cT 0, 6336, .inl fr)), (yr 30, .inl (cT 0, 302, .inl q0)), (yr 33, .inl (cT 0, 302, .inl q1))]) [0, 1, 2, 3] rfl) hK (hD.sub (ws' := [(y, .inr (11, MO yr yi ysb ybs)), (yr 45, .inl (cT 0, 6336, .inl fr)), (yr 30, .inl (cT 0, 302, .inl q0)), (yr 33, .inl (cT 0, 302, .inl q1))]) [0, 1, 2, 3] (by decide) rfl) rfl rfl) rfl rfl hl.1 rfl (lv_room (Nat.le_of_ble_eq_true rfl)) dM_isBefore_6 ⟨Nat.le_of_ble_eq_true rfl, Nat.le_of_ble_eq_true rfl⟩) (fun u9 H locs hpu1 hP hD hS => ?_)
  obtain ⟨f1u1, f9u1⟩ := u9
  have hpu1 : MN f1u1 (smv zr x n) := hpu1
  have hP : va_P D vwCl [(yr 34, .inl (cT 0, 302, .inl q2)), (y, .inr (11, MO yr yi ysb ybs)), (yr 45, .inl (cT 0, 6336, .inl fr)), (yr 30, .inl (cT 0, 302, .inl f9u1)), (yr 33, .inl (cT 0, 302, .inl f1u1))] _ := hP
  have hD : va_D A [(yr 34, .inl (cT 0, 302, .inl q2)), (y, .inr (11, MO yr yi ysb ybs)), (yr 45, .inl (cT 0, 6336, .inl fr)), (yr 30, .inl (cT 0, 302, .inl f9u1)), (yr 33, .inl (cT 0, 302, .inl f1u1))] := hD
  have mL := hpu1
  refine lv_aload_n hx hb dM_isBefore_9 rfl (lv_at hl 0 rfl) ?_
  refine lv_lload hx hb dM_isBefore_10 (lv_at hl 3 rfl) ?_
  refine lv_aload_n hx hb dM_isBefore_12 rfl (lv_at hl 0 rfl) ?_
  refine va_get (D := D) (ci := 11) (v := .ref (yr 34)) (C := R_M) (T := T_M) (N := 60) hx hb hT in_M hown hK hP 1 rfl rfl 34 (by decide) (hT _ w1138) (fun _ h9 => h9) rfl dM_isBefore_13 ?_
  refine rw_v (wc := [(y, .inr (11, MO yr yi ysb ybs)), (yr 45, .inl (cT 0, 6336, .inl fr)), (yr 30, .inl (cT 0, 302, .inl f9u1)), (yr 34, .inl (cT 0, 302, .inl q2))]) (wr := [(yr 33, .inl (cT 0, 302, .inl f1u1))]) hP hD hS hA [1, 2, 3, 0] [4] rfl rfl (by decide) (by decide) (va_runV (As := [.long x2, .ref (yr 34)]) (rest := []) ⟨hx, hb, hml, hown, hT⟩ (m_sum l D cT y yr yi ysb ybs n x2 zr ZB fr f9u1 (yr 34) q2 hn hn2 hM hZB hz9 _) ⟨callB_of 2 hT (tb_gd w1488) rfl rfl rfl (hT _ w13) (hT _ w1485) hM_sum ⟨Nat.le_of_ble_eq_true rfl, Nat.le_of_ble_eq_true rfl⟩, (hT _ w1487), (hT _ wp51)⟩ (RW.preV (ci := 11) (q0 := 0) hZ hS (va_free (wc := [(y, .inr (11, MO yr yi ysb ybs)), (yr 45, .inl (cT 0, 6336, .inl fr)), (yr 30, .inl (cT 0, 302, .inl f9u1)), (yr 34, .inl (cT 0, 302, .inl q2))]) hD hS hA [1, 2, 3, 0] rfl) (hP.sub (ws' := [(y, .inr (11, MO yr yi ysb ybs)), (yr 45, .inl (cT 0, 6336, .inl fr)), (yr 30, .inl (cT 0, 302, .inl f9u1)), (yr 34, .inl (cT 0, 302, .inl q2))]) [1, 2, 3, 0] rfl) hK (hD.sub (ws' := [(y, .inr (11, MO yr yi ysb ybs)), (yr 45, .inl (cT 0, 6336, .inl fr)), (yr 30, .inl (cT 0, 302, .inl f9u1)), (yr 34, .inl (cT 0, 302, .inl q2))]) [1, 2, 3, 0] (by decide) rfl) rfl rfl) rfl rfl hl.1 rfl (lv_room (Nat.le_of_ble_eq_true rfl)) dM_isBefore_16 ⟨Nat.le_of_ble_eq_true rfl, Nat.le_of_ble_eq_true rfl⟩) (fun u9 H locs hpu2 hP hD hS => ?_)
  obtain ⟨f1u2, f9u2⟩ := u9
  have hpu2 : MN f1u2 (smv zr x2 n) := hpu2
  have hP : va_P D vwCl [(yr 33, .inl (cT 0, 302, .inl f1u1)), (y, .inr (11, MO yr yi ysb ybs)), (yr 45, .inl (cT 0, 6336, .inl fr)), (yr 30, .inl (cT 0, 302, .inl f9u2)), (yr 34, .inl (cT 0, 302, .inl f1u2))] _ := hP
  have hD : va_D A [(yr 33, .inl (cT 0, 302, .inl f1u1)), (y, .inr (11, MO yr yi ysb ybs)), (yr 45, .inl (cT 0, 6336, .inl fr)), (yr 30, .inl (cT 0, 302, .inl f9u2)), (yr 34, .inl (cT 0, 302, .inl f1u2))] := hD
  have mR := hpu2
  refine lv_aload_n hx hb dM_isBefore_19 rfl (lv_at hl 0 rfl) ?_
  refine va_get (D := D) (ci := 11) (v := .ref (yr 33)) (C := R_M) (T := T_M) (N := 60) hx hb hT in_M hown hK hP 1 rfl rfl 33 (by decide) (hT _ w1137) (fun _ h9 => h9) rfl dM_isBefore_20 ?_
  refine lv_lload hx hb dM_isBefore_23 (lv_at hl 3 rfl) ?_
  refine ro_i (va_Run.run (va_runS (As := [.long x2]) (rest := [.ref (yr 33)]) ⟨hx, hb, hml, hown, hT⟩ (m_count l D cT x2) ⟨callB_of 1 hT (tb_gd w1369) rfl rfl rfl (hT _ w13) (hT _ w1367) hM_count ⟨Nat.le_of_ble_eq_true rfl, Nat.le_of_ble_eq_true rfl⟩, (hT _ w1368)⟩ (RO.preS hZ hS ((show va_P D vwCl [] _ from fun _ _ h => nomatch h)) hK) rfl rfl hl.1 rfl (lv_room (Nat.le_of_ble_eq_true rfl)) dM_isBefore_25 ⟨Nat.le_of_ble_eq_true rfl, Nat.le_of_ble_eq_true rfl⟩)) ?_
  refine lv_aload_n hx hb dM_isBefore_28 rfl (lv_at hl 0 rfl) ?_
  refine va_get (D := D) (ci := 11) (v := .int (yi 12)) (C := R_M) (T := T_M) (N := 60) hx hb hT in_M hown hK hP 1 rfl rfl 12 (by decide) (hT _ w1116) (fun _ h9 => h9) rfl dM_isBefore_29 ?_
  refine lv_topi (fun y9 e9 => ?_)
  cases (show y9 = nI w from e9.trans hw9)
  refine lv_iadd hx hb dM_isBefore_32 ?_
  refine lv_topi (fun y9 e9 => ?_)
  cases (show y9 = nI ((cb x2) + w) from e9.trans (nI_add (cb x2) w))
  refine rw_v (wc := [(yr 33, .inl (cT 0, 302, .inl f1u1))]) (wr := [(y, .inr (11, MO yr yi ysb ybs)), (yr 45, .inl (cT 0, 6336, .inl fr)), (yr 30, .inl (cT 0, 302, .inl f9u2)), (yr 34, .inl (cT 0, 302, .inl f1u2))]) hP hD hS hA [0] [1, 2, 3, 4] rfl rfl (by decide) (by decide) (va_runS (As := [.ref (yr 33), .int (nI ((cb x2) + w))]) (rest := []) ⟨hx, hb, hml, hown, hT⟩ (m_times l D cT (yr 33) f1u1 (smv zr x n) (cb x2 + w) mL (by omega) (by omega) (Nat.lt_of_le_of_lt (Nat.mul_le_mul bsx (show cb x2 + w ≤ 68 by omega)) (by omega)) _) ⟨callB_of 2 hT (tb_gd w1417) rfl rfl rfl (hT _ w13) (hT _ w1415) hM_times ⟨Nat.le_of_ble_eq_true rfl, Nat.le_of_ble_eq_true rfl⟩, (hT _ w1416)⟩ (RW.preS hZ hS (va_free (wc := [(yr 33, .inl (cT 0, 302, .inl f1u1))]) hD hS hA [0] rfl) (hP.sub (ws' := [(yr 33, .inl (cT 0, 302, .inl f1u1))]) [0] rfl) hK (hD.sub (ws' := [(yr 33, .inl (cT 0, 302, .inl f1u1))]) [0] (by decide) rfl)) rfl rfl hl.1 rfl (lv_room (Nat.le_of_ble_eq_true rfl)) dM_isBefore_33 ⟨Nat.le_of_ble_eq_true rfl, Nat.le_of_ble_eq_true rfl⟩) (fun u9 H locs hpu3 hP hD hS => ?_)
  obtain ⟨f1u3, rfl⟩ : ∃ q9, q9 = u9 := ⟨_, rfl⟩
  have hpu3 : MN f1u3 ((smv zr x n) * (cb x2 + w)) := hpu3
  have hP : va_P D vwCl [(y, .inr (11, MO yr yi ysb ybs)), (yr 45, .inl (cT 0, 6336, .inl fr)), (yr 30, .inl (cT 0, 302, .inl f9u2)), (yr 34, .inl (cT 0, 302, .inl f1u2)), (yr 33, .inl (cT 0, 302, .inl f1u3))] _ := hP
  have hD : va_D A [(y, .inr (11, MO yr yi ysb ybs)), (yr 45, .inl (cT 0, 6336, .inl fr)), (yr 30, .inl (cT 0, 302, .inl f9u2)), (yr 34, .inl (cT 0, 302, .inl f1u2)), (yr 33, .inl (cT 0, 302, .inl f1u3))] := hD
  have mL2 := hpu3
  refine lv_aload_n hx hb dM_isBefore_36 rfl (lv_at hl 0 rfl) ?_
  refine va_get (D := D) (ci := 11) (v := .ref (yr 34)) (C := R_M) (T := T_M) (N := 60) hx hb hT in_M hown hK hP 0 rfl rfl 34 (by decide) (hT _ w1138) (fun _ h9 => h9) rfl dM_isBefore_37 ?_
  refine lv_lload_n hx hb dM_isBefore_40 rfl (lv_at hl 1 rfl) ?_
  refine ro_i (va_Run.run (va_runS (As := [.long x]) (rest := [.ref (yr 34)]) ⟨hx, hb, hml, hown, hT⟩ (m_count l D cT x) ⟨callB_of 1 hT (tb_gd w1369) rfl rfl rfl (hT _ w13) (hT _ w1367) hM_count ⟨Nat.le_of_ble_eq_true rfl, Nat.le_of_ble_eq_true rfl⟩, (hT _ w1368)⟩ (RO.preS hZ hS ((show va_P D vwCl [] _ from fun _ _ h => nomatch h)) hK) rfl rfl hl.1 rfl (lv_room (Nat.le_of_ble_eq_true rfl)) dM_isBefore_41 ⟨Nat.le_of_ble_eq_true rfl, Nat.le_of_ble_eq_true rfl⟩)) ?_
  refine lv_aload_n hx hb dM_isBefore_44 rfl (lv_at hl 0 rfl) ?_
  refine va_get (D := D) (ci := 11) (v := .int (yi 12)) (C := R_M) (T := T_M) (N := 60) hx hb hT in_M hown hK hP 0 rfl rfl 12 (by decide) (hT _ w1116) (fun _ h9 => h9) rfl dM_isBefore_45 ?_
  refine lv_topi (fun y9 e9 => ?_)
  cases (show y9 = nI w from e9.trans hw9)
  refine lv_iadd hx hb dM_isBefore_48 ?_
  refine lv_topi (fun y9 e9 => ?_)
  cases (show y9 = nI ((cb x) + w) from e9.trans (nI_add (cb x) w))
  refine rw_v (wc := [(yr 34, .inl (cT 0, 302, .inl f1u2))]) (wr := [(y, .inr (11, MO yr yi ysb ybs)), (yr 45, .inl (cT 0, 6336, .inl fr)), (yr 30, .inl (cT 0, 302, .inl f9u2)), (yr 33, .inl (cT 0, 302, .inl f1u3))]) hP hD hS hA [3] [0, 1, 2, 4] rfl rfl (by decide) (by decide) (va_runS (As := [.ref (yr 34), .int (nI ((cb x) + w))]) (rest := []) ⟨hx, hb, hml, hown, hT⟩ (m_times l D cT (yr 34) f1u2 (smv zr x2 n) (cb x + w) mR (by omega) (by omega) (Nat.lt_of_le_of_lt (Nat.mul_le_mul bsy (show cb x + w ≤ 68 by omega)) (by omega)) _) ⟨callB_of 2 hT (tb_gd w1417) rfl rfl rfl (hT _ w13) (hT _ w1415) hM_times ⟨Nat.le_of_ble_eq_true rfl, Nat.le_of_ble_eq_true rfl⟩, (hT _ w1416)⟩ (RW.preS hZ hS (va_free (wc := [(yr 34, .inl (cT 0, 302, .inl f1u2))]) hD hS hA [3] rfl) (hP.sub (ws' := [(yr 34, .inl (cT 0, 302, .inl f1u2))]) [3] rfl) hK (hD.sub (ws' := [(yr 34, .inl (cT 0, 302, .inl f1u2))]) [3] (by decide) rfl)) rfl rfl hl.1 rfl (lv_room (Nat.le_of_ble_eq_true rfl)) dM_isBefore_49 ⟨Nat.le_of_ble_eq_true rfl, Nat.le_of_ble_eq_true rfl⟩) (fun u9 H locs hpu4 hP hD hS => ?_)
  obtain ⟨f1u4, rfl⟩ : ∃ q9, q9 = u9 := ⟨_, rfl⟩
  have hpu4 : MN f1u4 ((smv zr x2 n) * (cb x + w)) := hpu4
  have hP : va_P D vwCl [(y, .inr (11, MO yr yi ysb ybs)), (yr 45, .inl (cT 0, 6336, .inl fr)), (yr 30, .inl (cT 0, 302, .inl f9u2)), (yr 33, .inl (cT 0, 302, .inl f1u3)), (yr 34, .inl (cT 0, 302, .inl f1u4))] _ := hP
  have hD : va_D A [(y, .inr (11, MO yr yi ysb ybs)), (yr 45, .inl (cT 0, 6336, .inl fr)), (yr 30, .inl (cT 0, 302, .inl f9u2)), (yr 33, .inl (cT 0, 302, .inl f1u3)), (yr 34, .inl (cT 0, 302, .inl f1u4))] := hD
  have mR2 := hpu4
  refine lv_aload_n hx hb dM_isBefore_52 rfl (lv_at hl 0 rfl) ?_
  refine va_get (D := D) (ci := 11) (v := .ref (yr 33)) (C := R_M) (T := T_M) (N := 60) hx hb hT in_M hown hK hP 0 rfl rfl 33 (by decide) (hT _ w1137) (fun _ h9 => h9) rfl dM_isBefore_53 ?_
  refine lv_aload_n hx hb dM_isBefore_56 rfl (lv_at hl 0 rfl) ?_
  refine va_get (D := D) (ci := 11) (v := .ref (yr 34)) (C := R_M) (T := T_M) (N := 60) hx hb hT in_M hown hK hP 0 rfl rfl 34 (by decide) (hT _ w1138) (fun _ h9 => h9) rfl dM_isBefore_57 ?_
  refine ro_i (va_Run.run (va_runS (As := [.ref (yr 33), .ref (yr 34)]) (rest := []) ⟨hx, hb, hml, hown, hT⟩ (m_cmp l D cT (yr 33) f1u3 (smv zr x n * ((cb x2 + w : Nat) : Int)) (yr 34) f1u4 (smv zr x2 n * ((cb x + w : Nat) : Int)) mL2 mR2) ⟨callB_of 2 hT (tb_gd w1491) rfl rfl rfl (hT _ w13) (hT _ w1489) hM_compare ⟨Nat.le_of_ble_eq_true rfl, Nat.le_of_ble_eq_true rfl⟩, (hT _ w1490)⟩ (RO.preS hZ hS (hP.sub (ws' := [(yr 33, .inl (cT 0, 302, .inl f1u3)), (yr 34, .inl (cT 0, 302, .inl f1u4))]) [3, 4] rfl) hK) rfl rfl hl.1 rfl (lv_room (Nat.le_of_ble_eq_true rfl)) dM_isBefore_60 ⟨Nat.le_of_ble_eq_true rfl, Nat.le_of_ble_eq_true rfl⟩)) ?_
  refine lv_istore hx hb dM_isBefore_63 hl (by decide) rfl (fun ls hl => ?_)
  have hl : lv_has ls 8 [(7, .int (cz (smv zr x n * ((cb x2 + w : Nat) : Int)) (smv zr x2 n * ((cb x + w : Nat) : Int)))), (0, .ref y), (1, .long x), (3, .int k1), (4, .long x2), (6, .int k2)] := hl
  refine lv_iload hx hb dM_isBefore_65 (lv_at hl 0 rfl) ?_
  refine lv_if_lt (tgt := 81) hx hb dM_isBefore_67 rfl (fun h5 => ?_) (fun h5 => ?_)
  · refine lv_iconst (v := 1) hx hb dM_isBefore_81 (by decide) ?_
    refine lv_goto (tgt := 86) hx hb dM_isBefore_82 rfl ?_
    have hP9 := hP.sub (ws' := [(y, .inr (11, MO yr yi ysb ybs)), (yr 45, .inl (cT 0, 6336, .inl fr)), (yr 30, .inl (cT 0, 302, .inl f9u2)), (yr 33, .inl (cT 0, 302, .inl f1u3)), (yr 34, .inl (cT 0, 302, .inl f1u4))]) [0, 1, 2, 3, 4] rfl
    have hD9 := hD.sub (ws' := [(y, .inr (11, MO yr yi ysb ybs)), (yr 45, .inl (cT 0, 6336, .inl fr)), (yr 30, .inl (cT 0, 302, .inl f9u2)), (yr 33, .inl (cT 0, 302, .inl f1u3)), (yr 34, .inl (cT 0, 302, .inl f1u4))]) [0, 1, 2, 3, 4] (by decide) rfl
    refine W.widen (k := 0) (n := 0) (Nat.le_of_ble_eq_true rfl) (Nat.le_of_ble_eq_true rfl) ?_
    exact W.zret (v := 1) hx hb hr rfl (fun t9 ht9 hW9 => ⟨⟨1, (f9u2, f1u3, f1u4), rfl, (show 1 = bn (bef zr n w x k1 x2 k2) from (by rw [bef_lt h5]; rfl)), by rw [ht9]; exact hP9, hD9⟩, hS.F ht9⟩) hS.2.2 dM_isBefore_86
  · refine lv_iload hx hb dM_isBefore_70 (lv_at hl 0 rfl) ?_
    refine lv_if_ne (tgt := 85) hx hb dM_isBefore_72 rfl (fun h6 => ?_) (fun h6 => ?_)
    · refine lv_iconst (v := 0) hx hb dM_isBefore_85 (by decide) ?_
      have hP9 := hP.sub (ws' := [(y, .inr (11, MO yr yi ysb ybs)), (yr 45, .inl (cT 0, 6336, .inl fr)), (yr 30, .inl (cT 0, 302, .inl f9u2)), (yr 33, .inl (cT 0, 302, .inl f1u3)), (yr 34, .inl (cT 0, 302, .inl f1u4))]) [0, 1, 2, 3, 4] rfl
      have hD9 := hD.sub (ws' := [(y, .inr (11, MO yr yi ysb ybs)), (yr 45, .inl (cT 0, 6336, .inl fr)), (yr 30, .inl (cT 0, 302, .inl f9u2)), (yr 33, .inl (cT 0, 302, .inl f1u3)), (yr 34, .inl (cT 0, 302, .inl f1u4))]) [0, 1, 2, 3, 4] (by decide) rfl
      refine W.widen (k := 0) (n := 0) (Nat.le_of_ble_eq_true rfl) (Nat.le_of_ble_eq_true rfl) ?_
      exact W.zret (v := 0) hx hb hr rfl (fun t9 ht9 hW9 => ⟨⟨0, (f9u2, f1u3, f1u4), rfl, (show 0 = bn (bef zr n w x k1 x2 k2) from (by rw [bef_no h5 (fun q => h6 q.1)]; rfl)), by rw [ht9]; exact hP9, hD9⟩, hS.F ht9⟩) hS.2.2 dM_isBefore_86
    · refine lv_iload_n hx hb dM_isBefore_75 rfl (lv_at hl 3 rfl) ?_
      refine lv_iload hx hb dM_isBefore_76 (lv_at hl 5 rfl) ?_
      refine lv_icmp_ge (tgt := 85) hx hb dM_isBefore_78 rfl (fun h7 => ?_) (fun h7 => ?_)
      · refine lv_iconst (v := 0) hx hb dM_isBefore_85 (by decide) ?_
        have hP9 := hP.sub (ws' := [(y, .inr (11, MO yr yi ysb ybs)), (yr 45, .inl (cT 0, 6336, .inl fr)), (yr 30, .inl (cT 0, 302, .inl f9u2)), (yr 33, .inl (cT 0, 302, .inl f1u3)), (yr 34, .inl (cT 0, 302, .inl f1u4))]) [0, 1, 2, 3, 4] rfl
        have hD9 := hD.sub (ws' := [(y, .inr (11, MO yr yi ysb ybs)), (yr 45, .inl (cT 0, 6336, .inl fr)), (yr 30, .inl (cT 0, 302, .inl f9u2)), (yr 33, .inl (cT 0, 302, .inl f1u3)), (yr 34, .inl (cT 0, 302, .inl f1u4))]) [0, 1, 2, 3, 4] (by decide) rfl
        refine W.widen (k := 0) (n := 0) (Nat.le_of_ble_eq_true rfl) (Nat.le_of_ble_eq_true rfl) ?_
        exact W.zret (v := 0) hx hb hr rfl (fun t9 ht9 hW9 => ⟨⟨0, (f9u2, f1u3, f1u4), rfl, (show 0 = bn (bef zr n w x k1 x2 k2) from (by rw [bef_no h5 (fun q => absurd q.2 (Int32.not_lt.mpr h7))]; rfl)), by rw [ht9]; exact hP9, hD9⟩, hS.F ht9⟩) hS.2.2 dM_isBefore_86
      · refine lv_iconst (v := 1) hx hb dM_isBefore_81 (by decide) ?_
        refine lv_goto (tgt := 86) hx hb dM_isBefore_82 rfl ?_
        have hP9 := hP.sub (ws' := [(y, .inr (11, MO yr yi ysb ybs)), (yr 45, .inl (cT 0, 6336, .inl fr)), (yr 30, .inl (cT 0, 302, .inl f9u2)), (yr 33, .inl (cT 0, 302, .inl f1u3)), (yr 34, .inl (cT 0, 302, .inl f1u4))]) [0, 1, 2, 3, 4] rfl
        have hD9 := hD.sub (ws' := [(y, .inr (11, MO yr yi ysb ybs)), (yr 45, .inl (cT 0, 6336, .inl fr)), (yr 30, .inl (cT 0, 302, .inl f9u2)), (yr 33, .inl (cT 0, 302, .inl f1u3)), (yr 34, .inl (cT 0, 302, .inl f1u4))]) [0, 1, 2, 3, 4] (by decide) rfl
        refine W.widen (k := 0) (n := 0) (Nat.le_of_ble_eq_true rfl) (Nat.le_of_ble_eq_true rfl) ?_
        exact W.zret (v := 1) hx hb hr rfl (fun t9 ht9 hW9 => ⟨⟨1, (f9u2, f1u3, f1u4), rfl, (show 1 = bn (bef zr n w x k1 x2 k2) from (by rw [bef_eq h6 (Int32.not_le.mp h7)]; rfl)), by rw [ht9]; exact hP9, hD9⟩, hS.F ht9⟩) hS.2.2 dM_isBefore_86
