set_option maxHeartbeats 4000000 in
set_option maxRecDepth 100000 in
theorem k_divides1 (l : Launch) (D : va_G) (cT : Nat → ClassId) (ua : Nat) (uq : Nat → Option Nat) (upw : Nat) (upww : Nat) (upwn : Int32) (upwb : Int32) (upwf : Nat → Int32) (lwr : Nat) (lwrw : Nat) (lwrn : Int32) (lwrb : Int32) (lwrf : Nat → Int32) (zu : Int) (zl : Int) (pp : Nat) (hq0 : uq 0 = some upw) (hNu : WN 48 upwn upwb upwf (zu)) (hNl : WN 48 lwrn lwrb lwrf (zl)) (hp0 : 0 < pp) (hp1 : pp < 2 ^ 31) : Met l yR_divides WR_divides ({ frames := 1, cells := 0, slots := 0, locals := 24 } : Room) (RO D vwCl [.int (nI pp), .ref ua, .int 1, .ref lwr] [(ua, .inl (cT 4, 1, .inr (.inr (.inr (.inr uq))))), (upw, .inr (4, [.ref upww, .int upwn, .int upwb])), (upww, .inl (cT 0, 48, .inl upwf)), (lwr, .inr (4, [.ref lwrw, .int lwrn, .int lwrb])), (lwrw, .inl (cT 0, 48, .inl lwrf))] (TY cT)) (QcRead (bn (decide (zl.natAbs % pp = 0 ∧ zu.natAbs % pp = 0)))) 0 0 (fun _ => False) := by
  refine Met.ofW (cc := cR_divides) (maxL := 6) (ret := (some .boolean)) (by decide) rfl ?_
  intro p e s m args below meth c s₁ B hml hv
  obtain ⟨rfl, hZ, hP, hK⟩ := hv
  have hx := B.exec
  have hb := B.bytes
  have hr := B.returns
  have hts := atoms_spec (ws := WR_divides) B.pre
  have hT : ∀ w ∈ TB, w.before _ s = true := fun w h => hts w (List.mem_cons_of_mem _ h)
  have hown : s.vm.findClass R_R = some m.cls := findClass_of_methodNamed B.named
  have hlocks := B.notSynchronized
  have hS : va_S (fun _ => False) s.heap s.heap [] := va_S.rf
  have hl := lv_entry ([.int (nI pp), .ref ua, .int 1, .ref lwr]) (n := 6) (Nat.le_of_ble_eq_true rfl)
  rw [lg_entry_eq]
  generalize (lg_sl ([.int (nI pp), .ref ua, .int 1, .ref lwr]) ++ List.replicate (6 - (lg_sl ([.int (nI pp), .ref ua, .int 1, .ref lwr])).length) Slot.unset).toArray = ls at hl ⊢
  have hl : lv_has ls 6 [(0, .int (nI pp)), (1, .ref ua), (2, .int 1), (3, .ref lwr)] := hl
  have m1 := Nat.mod_lt zl.natAbs hp0
  have m2 := Nat.mod_lt zu.natAbs hp0
  refine lv_aload_n hx hb dR_divides_0 rfl (lv_at hl 3 rfl) ?_
  refine lv_iload_n hx hb dR_divides_1 rfl (lv_at hl 0 rfl) ?_
  refine ro_i (va_Run.run (va_runV (As := [.int (nI pp)]) (rest := []) ⟨hx, hb, hml, hown, hT⟩ (k_rest l D cT lwr lwrw 48 lwrn lwrb lwrf zl pp (by decide) hNl hp0 hp1) ⟨callB_of 1 hT (tb_gd w958) rfl rfl rfl (hT _ w5) (hT _ w979) hW_rest ⟨Nat.le_of_ble_eq_true rfl, Nat.le_of_ble_eq_true rfl⟩, (hT _ w956), (hT _ w957)⟩ (RO.preV (ci := 4) (q0 := 0) hZ hS (hP.sub (ws' := [(lwr, .inr (4, [.ref lwrw, .int lwrn, .int lwrb])), (lwrw, .inl (cT 0, 48, .inl lwrf))]) [3, 4] rfl) hK rfl rfl) rfl rfl hl.1 rfl (lv_room (Nat.le_of_ble_eq_true rfl)) dR_divides_2 ⟨Nat.le_of_ble_eq_true rfl, Nat.le_of_ble_eq_true rfl⟩)) ?_
  refine lv_if_ne (tgt := 12) hx hb dR_divides_5 rfl (fun h1 => ?_) (fun h1 => ?_)
  · have gh1 : ¬ (zl.natAbs % pp = 0) := fun q => h1 (congrArg nI q)
    refine lv_iconst (v := 0) hx hb dR_divides_12 (by decide) ?_
    refine lv_istore hx hb dR_divides_13 hl (by decide) rfl (fun ls hl => ?_)
    have hl : lv_has ls 6 [(4, .int 0), (0, .int (nI pp)), (1, .ref ua), (2, .int 1), (3, .ref lwr)] := hl
    refine lv_iconst (v := 0) hx hb dR_divides_15 (by decide) ?_
    refine lv_istore hx hb dR_divides_16 hl (by decide) rfl (fun ls hl => ?_)
    have hl : lv_has ls 6 [(5, .int 0), (4, .int 0), (0, .int (nI pp)), (1, .ref ua), (2, .int 1), (3, .ref lwr)] := hl
    refine lv_iload hx hb dR_divides_18 (lv_at hl 0 rfl) ?_
    refine lv_iload_n hx hb dR_divides_20 rfl (lv_at hl 4 rfl) ?_
    refine lv_icmp_ge (tgt := 53) hx hb dR_divides_21 rfl (fun h2 => absurd h2 (by decide)) (fun _ => ?_)
    refine lv_iload hx hb dR_divides_24 (lv_at hl 1 rfl) ?_
    refine lv_if_eq (tgt := 53) hx hb dR_divides_26 rfl (fun _ => ?_) (fun h3 => absurd (by decide) h3)
    refine lv_iload hx hb dR_divides_53 (lv_at hl 1 rfl) ?_
    exact W.zret (v := 0) hx hb hr rfl (fun t9 ht9 hW9 => ⟨by rw [← dv_b0 (a := zl.natAbs % pp = 0) (b := zu.natAbs % pp = 0) (by omega)], ht9⟩) (fun q h => nomatch h) dR_divides_55
  · have gh1 : zl.natAbs % pp = 0 := (nI_eq (a := zl.natAbs % pp) (b := 0) (by omega) (by omega)).mp h1
    refine lv_iconst (v := 1) hx hb dR_divides_8 (by decide) ?_
    refine lv_goto (tgt := 13) hx hb dR_divides_9 rfl ?_
    refine lv_istore hx hb dR_divides_13 hl (by decide) rfl (fun ls hl => ?_)
    have hl : lv_has ls 6 [(4, .int 1), (0, .int (nI pp)), (1, .ref ua), (2, .int 1), (3, .ref lwr)] := hl
    refine lv_iconst (v := 0) hx hb dR_divides_15 (by decide) ?_
    refine lv_istore hx hb dR_divides_16 hl (by decide) rfl (fun ls hl => ?_)
    have hl : lv_has ls 6 [(5, .int 0), (4, .int 1), (0, .int (nI pp)), (1, .ref ua), (2, .int 1), (3, .ref lwr)] := hl
    refine lv_iload hx hb dR_divides_18 (lv_at hl 0 rfl) ?_
    refine lv_iload_n hx hb dR_divides_20 rfl (lv_at hl 4 rfl) ?_
    refine lv_icmp_ge (tgt := 53) hx hb dR_divides_21 rfl (fun h4 => absurd h4 (by decide)) (fun _ => ?_)
    refine lv_iload hx hb dR_divides_24 (lv_at hl 1 rfl) ?_
    refine lv_if_eq (tgt := 53) hx hb dR_divides_26 rfl (fun h5 => absurd h5 (by decide)) (fun _ => ?_)
    refine lv_aload_n hx hb dR_divides_29 rfl (lv_at hl 3 rfl) ?_
    refine lv_iload hx hb dR_divides_30 (lv_at hl 0 rfl) ?_
    refine al_q (q := upw) hx hb hK hP 0 4 rfl rfl (by unfold vp_in; decide) hq0 dR_divides_32 ?_
    refine lv_iload_n hx hb dR_divides_33 rfl (lv_at hl 2 rfl) ?_
    refine ro_i (va_Run.run (va_runV (As := [.int (nI pp)]) (rest := []) ⟨hx, hb, hml, hown, hT⟩ (k_rest l D cT upw upww 48 upwn upwb upwf zu pp (by decide) hNu hp0 hp1) ⟨callB_of 1 hT (tb_gd w958) rfl rfl rfl (hT _ w5) (hT _ w979) hW_rest ⟨Nat.le_of_ble_eq_true rfl, Nat.le_of_ble_eq_true rfl⟩, (hT _ w956), (hT _ w957)⟩ (RO.preV (ci := 4) (q0 := 0) hZ hS (hP.sub (ws' := [(upw, .inr (4, [.ref upww, .int upwn, .int upwb])), (upww, .inl (cT 0, 48, .inl upwf))]) [1, 2] rfl) hK rfl rfl) rfl rfl hl.1 rfl (lv_room (Nat.le_of_ble_eq_true rfl)) dR_divides_34 ⟨Nat.le_of_ble_eq_true rfl, Nat.le_of_ble_eq_true rfl⟩)) ?_
    refine lv_if_ne (tgt := 44) hx hb dR_divides_37 rfl (fun h6 => ?_) (fun h6 => ?_)
    · have gh6 : ¬ (zu.natAbs % pp = 0) := fun q => h6 (congrArg nI q)
      refine lv_iconst (v := 0) hx hb dR_divides_44 (by decide) ?_
      refine lv_istore hx hb dR_divides_45 hl (by decide) rfl (fun ls hl => ?_)
      have hl : lv_has ls 6 [(4, .int 0), (5, .int 0), (0, .int (nI pp)), (1, .ref ua), (2, .int 1), (3, .ref lwr)] := hl
      refine lv_iinc (k := 1) (v := 1) hx hb dR_divides_47 hl rfl (by decide) (by decide) rfl (fun ls hl => ?_)
      have hl : lv_has ls 6 [(5, .int 1), (4, .int 0), (0, .int (nI pp)), (1, .ref ua), (2, .int 1), (3, .ref lwr)] := hl
      refine lv_goto (tgt := 18) hx hb dR_divides_50 rfl ?_
      refine lv_iload hx hb dR_divides_18 (lv_at hl 0 rfl) ?_
      refine lv_iload_n hx hb dR_divides_20 rfl (lv_at hl 4 rfl) ?_
      refine lv_icmp_ge (tgt := 53) hx hb dR_divides_21 rfl (fun _ => ?_) (fun h7 => absurd (by decide) h7)
      refine lv_iload hx hb dR_divides_53 (lv_at hl 1 rfl) ?_
      exact W.zret (v := 0) hx hb hr rfl (fun t9 ht9 hW9 => ⟨by rw [← dv_b0 (a := zl.natAbs % pp = 0) (b := zu.natAbs % pp = 0) (by omega)], ht9⟩) (fun q h => nomatch h) dR_divides_55
    · have gh6 : zu.natAbs % pp = 0 := (nI_eq (a := zu.natAbs % pp) (b := 0) (by omega) (by omega)).mp h6
      refine lv_iconst (v := 1) hx hb dR_divides_40 (by decide) ?_
      refine lv_goto (tgt := 45) hx hb dR_divides_41 rfl ?_
      refine lv_istore hx hb dR_divides_45 hl (by decide) rfl (fun ls hl => ?_)
      have hl : lv_has ls 6 [(4, .int 1), (5, .int 0), (0, .int (nI pp)), (1, .ref ua), (2, .int 1), (3, .ref lwr)] := hl
      refine lv_iinc (k := 1) (v := 1) hx hb dR_divides_47 hl rfl (by decide) (by decide) rfl (fun ls hl => ?_)
      have hl : lv_has ls 6 [(5, .int 1), (4, .int 1), (0, .int (nI pp)), (1, .ref ua), (2, .int 1), (3, .ref lwr)] := hl
      refine lv_goto (tgt := 18) hx hb dR_divides_50 rfl ?_
      refine lv_iload hx hb dR_divides_18 (lv_at hl 0 rfl) ?_
      refine lv_iload_n hx hb dR_divides_20 rfl (lv_at hl 4 rfl) ?_
      refine lv_icmp_ge (tgt := 53) hx hb dR_divides_21 rfl (fun _ => ?_) (fun h8 => absurd (by decide) h8)
      refine lv_iload hx hb dR_divides_53 (lv_at hl 1 rfl) ?_
      exact W.zret (v := 1) hx hb hr rfl (fun t9 ht9 hW9 => ⟨by rw [← dv_bn (a := zl.natAbs % pp = 0) (b := zu.natAbs % pp = 0) (by omega) (by omega)], ht9⟩) (fun q h => nomatch h) dR_divides_55
set_option maxHeartbeats 4000000 in
set_option maxRecDepth 100000 in
theorem k_reduce1 (l : Launch) (D : va_G) (cT : Nat → ClassId) (ua : Nat) (uq : Nat → Option Nat) (upw : Nat) (upww : Nat) (upwn : Int32) (upwb : Int32) (upwf : Nat → Int32) (lwr : Nat) (lwrw : Nat) (lwrn : Int32) (lwrb : Int32) (lwrf : Nat → Int32) (zu : Int) (DD : Nat) (hq0 : uq 0 = some upw) (hNu : WN 48 upwn upwb upwf (zu)) (hNl : WN 48 lwrn lwrb lwrf ((DD : Int))) (hSM : SMO DD) (hDD : DD < 1000000000 ^ 48) (sz : Nat) : Met l yR_reduce WR_reduce ({ frames := 2, cells := 0, slots := 0, locals := 49 } : Room) (RW D vwCl [.ref ua, .int 1, .ref lwr] [(ua, .inl (cT 4, 1, .inr (.inr (.inr (.inr uq))))), (upw, .inr (4, [.ref upww, .int upwn, .int upwb])), (upww, .inl (cT 0, 48, .inl upwf)), (lwr, .inr (4, [.ref lwrw, .int lwrn, .int lwrb])), (lwrw, .inl (cT 0, 48, .inl lwrf))] (TY cT) sz) (va_Qv (fun u9 : Int × Nat × Int32 × Int32 × (Nat → Int32) × Int32 × Int32 × (Nat → Int32) => WN 48 u9.2.2.1 u9.2.2.2.1 u9.2.2.2.2.1 (u9.1) ∧ WN 48 u9.2.2.2.2.2.1 u9.2.2.2.2.2.2.1 u9.2.2.2.2.2.2.2 ((u9.2.1 : Int)) ∧ SMO u9.2.1 ∧ RDC zu DD u9.1 u9.2.1) (BW D vwCl (va_A [(ua, .inl (cT 4, 1, .inr (.inr (.inr (.inr uq))))), (upw, .inr (4, [.ref upww, .int upwn, .int upwb])), (upww, .inl (cT 0, 48, .inl upwf)), (lwr, .inr (4, [.ref lwrw, .int lwrn, .int lwrb])), (lwrw, .inl (cT 0, 48, .inl lwrf))] sz) (fun u9 : Int × Nat × Int32 × Int32 × (Nat → Int32) × Int32 × Int32 × (Nat → Int32) => [(ua, .inl (cT 4, 1, .inr (.inr (.inr (.inr uq))))), (upw, .inr (4, [.ref upww, .int u9.2.2.1, .int u9.2.2.2.1])), (upww, .inl (cT 0, 48, .inl u9.2.2.2.2.1)), (lwr, .inr (4, [.ref lwrw, .int u9.2.2.2.2.2.1, .int u9.2.2.2.2.2.2.1])), (lwrw, .inl (cT 0, 48, .inl u9.2.2.2.2.2.2.2))])) (va_A [(ua, .inl (cT 4, 1, .inr (.inr (.inr (.inr uq))))), (upw, .inr (4, [.ref upww, .int upwn, .int upwb])), (upww, .inl (cT 0, 48, .inl upwf)), (lwr, .inr (4, [.ref lwrw, .int lwrn, .int lwrb])), (lwrw, .inl (cT 0, 48, .inl lwrf))] sz)) 0 0 (va_A [(ua, .inl (cT 4, 1, .inr (.inr (.inr (.inr uq))))), (upw, .inr (4, [.ref upww, .int upwn, .int upwb])), (upww, .inl (cT 0, 48, .inl upwf)), (lwr, .inr (4, [.ref lwrw, .int lwrn, .int lwrb])), (lwrw, .inl (cT 0, 48, .inl lwrf))] sz) := by
  refine Met.ofW (cc := cR_reduce) (maxL := 9) (ret := none) (by decide) rfl ?_
  intro p e s m args below meth c s₁ B hml hv
  obtain ⟨rfl, hsz, hZ, hP, hK, hD0⟩ := hv
  have hx := B.exec
  have hb := B.bytes
  have hr := B.returns
  have hts := atoms_spec (ws := WR_reduce) B.pre
  have hT : ∀ w ∈ TB, w.before _ s = true := fun w h => hts w (List.mem_cons_of_mem _ h)
  have hown : s.vm.findClass R_R = some m.cls := findClass_of_methodNamed B.named
  have hlocks := B.notSynchronized
  subst hsz
  have hD := hD0.self (sz := s.heap.size)
  generalize hAe : va_A [(ua, .inl (cT 4, 1, .inr (.inr (.inr (.inr uq))))), (upw, .inr (4, [.ref upww, .int upwn, .int upwb])), (upww, .inl (cT 0, 48, .inl upwf)), (lwr, .inr (4, [.ref lwrw, .int lwrn, .int lwrb])), (lwrw, .inl (cT 0, 48, .inl lwrf))] s.heap.size = A at hD hZ ⊢
  have hA : ∀ q : Nat, s.heap.size ≤ q → A q := fun q h => by rw [← hAe]; exact Or.inr h
  have hS : va_S A s.heap s.heap [] := va_S.rf
  have hl := lv_entry ([.ref ua, .int 1, .ref lwr]) (n := 9) (Nat.le_of_ble_eq_true rfl)
  rw [lg_entry_eq]
  generalize (lg_sl ([.ref ua, .int 1, .ref lwr]) ++ List.replicate (9 - (lg_sl ([.ref ua, .int 1, .ref lwr])).length) Slot.unset).toArray = ls at hl ⊢
  have hl : lv_has ls 9 [(0, .ref ua), (1, .int 1), (2, .ref lwr)] := hl
  obtain ⟨tQ, hQ1, hQ2⟩ := hZ.2.2.2.1
  refine va_gets hx hb hQ1 hS hown (hT _ w970) (fun _ h => h) dR_reduce_0 ?_
  refine lv_astore_n hx hb dR_reduce_3 rfl hl (by decide) rfl (fun ls hl => ?_)
  have hl : lv_has ls 9 [(3, .ref tQ), (0, .ref ua), (1, .int 1), (2, .ref lwr)] := hl
  refine lv_aload_n hx hb dR_reduce_4 rfl (lv_at hl 0 rfl) ?_
  refine va_tlen (v := 19) hx hb hQ2 hS rfl dR_reduce_5 ?_
  refine lv_istore hx hb dR_reduce_6 hl (by decide) rfl (fun ls hl => ?_)
  have hl : lv_has ls 9 [(4, .int 19), (3, .ref tQ), (0, .ref ua), (1, .int 1), (2, .ref lwr)] := hl
  refine lv_iconst (v := 0) hx hb dR_reduce_8 (by decide) ?_
  refine lv_istore hx hb dR_reduce_9 hl (by decide) rfl (fun ls hl => ?_)
  have hl : lv_has ls 9 [(5, .int 0), (4, .int 19), (3, .ref tQ), (0, .ref ua), (1, .int 1), (2, .ref lwr)] := hl
  refine lp_w (α := Nat × Int × Nat × Int32 × Int32 × (Nat → Int32) × Int32 × Int32 × (Nat → Int32)) (fun a9 => a9.1 ≤ 19 ∧ WN 48 a9.2.2.2.1 a9.2.2.2.2.1 a9.2.2.2.2.2.1 a9.2.1 ∧ WN 48 a9.2.2.2.2.2.2.1 a9.2.2.2.2.2.2.2.1 a9.2.2.2.2.2.2.2.2 (a9.2.2.1 : Int) ∧ SMO a9.2.2.1 ∧ a9.2.2.1 ≤ DD ∧ a9.2.1 * (DD : Int) = zu * (a9.2.2.1 : Int) ∧ ∀ q, q < a9.1 → ¬ (a9.2.2.1 % pr q = 0 ∧ a9.2.1.natAbs % pr q = 0)) (fun a9 => 19 - a9.1) (fun a9 => [(0, .ref ua), (1, .int 1), (2, .ref lwr), (3, .ref tQ), (4, .int 19), (5, .int (nI a9.1))]) (fun a9 => [(ua, .inl (cT 4, 1, .inr (.inr (.inr (.inr uq))))), (upw, .inr (4, [.ref upww, .int a9.2.2.2.1, .int a9.2.2.2.2.1])), (upww, .inl (cT 0, 48, .inl a9.2.2.2.2.2.1)), (lwr, .inr (4, [.ref lwrw, .int a9.2.2.2.2.2.2.1, .int a9.2.2.2.2.2.2.2.1])), (lwrw, .inl (cT 0, 48, .inl a9.2.2.2.2.2.2.2.2))]) 11 ?_ (0, zu, DD, upwn, upwb, upwf, lwrn, lwrb, lwrf) (show 0 ≤ 19 ∧ WN 48 upwn upwb upwf zu ∧ WN 48 lwrn lwrb lwrf (DD : Int) ∧ SMO DD ∧ DD ≤ DD ∧ zu * (DD : Int) = zu * (DD : Int) ∧ ∀ q, q < 0 → ¬ (DD % pr q = 0 ∧ zu.natAbs % pr q = 0) from ⟨by omega, hNu, hNl, hSM, Nat.le_refl _, rfl, fun q h => absurd h (by omega)⟩) (lv_sub hl [3, 4, 5, 2, 1, 0] rfl) hP hD hS
  intro a9 hI11 ih11 ls H locs hl hP hD hS
  obtain ⟨i, z1, d1, un, ub, uf, ln, lb, lf⟩ := a9
  have hI11 : i ≤ 19 ∧ WN 48 un ub uf z1 ∧ WN 48 ln lb lf (d1 : Int) ∧ SMO d1 ∧ d1 ≤ DD ∧ z1 * (DD : Int) = zu * (d1 : Int) ∧ ∀ q, q < i → ¬ (d1 % pr q = 0 ∧ z1.natAbs % pr q = 0) := hI11
  obtain ⟨ii, iU, iL, iS, iD, iv, iR⟩ := hI11
  have hl : lv_has ls 9 [(0, .ref ua), (1, .int 1), (2, .ref lwr), (3, .ref tQ), (4, .int 19), (5, .int (nI i))] := hl
  have hP : va_P D vwCl [(ua, .inl (cT 4, 1, .inr (.inr (.inr (.inr uq))))), (upw, .inr (4, [.ref upww, .int un, .int ub])), (upww, .inl (cT 0, 48, .inl uf)), (lwr, .inr (4, [.ref lwrw, .int ln, .int lb])), (lwrw, .inl (cT 0, 48, .inl lf))] _ := hP
  have hD : va_D A [(ua, .inl (cT 4, 1, .inr (.inr (.inr (.inr uq))))), (upw, .inr (4, [.ref upww, .int un, .int ub])), (upww, .inl (cT 0, 48, .inl uf)), (lwr, .inr (4, [.ref lwrw, .int ln, .int lb])), (lwrw, .inl (cT 0, 48, .inl lf))] := hD
  refine lv_iload hx hb dR_reduce_11 (lv_at hl 5 rfl) ?_
  refine lv_iload hx hb dR_reduce_13 (lv_at hl 4 rfl) ?_
  refine lv_icmp_ge (tgt := 89) hx hb dR_reduce_15 rfl (fun h1 => ?_) (fun h1 => ?_)
  · have gh1 : 19 ≤ i := (nI_leI (a := 19) (b := i) (by omega) (by omega)).mp h1
    have hP9 := hP.sub (ws' := [(ua, .inl (cT 4, 1, .inr (.inr (.inr (.inr uq))))), (upw, .inr (4, [.ref upww, .int un, .int ub])), (upww, .inl (cT 0, 48, .inl uf)), (lwr, .inr (4, [.ref lwrw, .int ln, .int lb])), (lwrw, .inl (cT 0, 48, .inl lf))]) [0, 1, 2, 3, 4] rfl
    have hD9 := hD.sub (ws' := [(ua, .inl (cT 4, 1, .inr (.inr (.inr (.inr uq))))), (upw, .inr (4, [.ref upww, .int un, .int ub])), (upww, .inl (cT 0, 48, .inl uf)), (lwr, .inr (4, [.ref lwrw, .int ln, .int lb])), (lwrw, .inl (cT 0, 48, .inl lf))]) [0, 1, 2, 3, 4] (by decide) rfl
    refine W.widen (k := 0) (n := 0) (Nat.le_of_ble_eq_true rfl) (Nat.le_of_ble_eq_true rfl) ?_
    exact W.vret hx hb hr (fun t9 ht9 hW9 => ⟨⟨(z1, d1, un, ub, uf, ln, lb, lf), rfl, (show WN 48 un ub uf (z1) ∧ WN 48 ln lb lf ((d1 : Int)) ∧ SMO d1 ∧ RDC zu DD z1 d1 from ⟨iU, iL, iS, rdc_mk iS (fun q hq => iR q (by omega)) iv⟩), by rw [ht9]; exact hP9, hD9⟩, hS.F ht9⟩) hS.2.2 dR_reduce_89
  · have gh1 : i < 19 := Nat.not_le.mp (fun q => h1 ((nI_leI (a := 19) (b := i) (by omega) (by omega)).mpr q))
    refine lv_aload_n hx hb dR_reduce_18 rfl (lv_at hl 3 rfl) ?_
    refine lv_iload hx hb dR_reduce_19 (lv_at hl 5 rfl) ?_
    have hpb := pr_b i (by omega)
    refine va_ti (v := .int (nI (pr i))) hx hb hQ2 hS (vp_in_nI (by omega) (by decide)) (congrArg Value.int (zp_pr i (by omega))) dR_reduce_21 ?_
    refine lv_istore hx hb dR_reduce_22 hl (by decide) rfl (fun ls hl => ?_)
    have hl : lv_has ls 9 [(6, .int (nI (pr i))), (0, .ref ua), (1, .int 1), (2, .ref lwr), (3, .ref tQ), (4, .int 19), (5, .int (nI i))] := hl
    refine lv_iconst (v := 0) hx hb dR_reduce_24 (by decide) ?_
    refine lv_istore hx hb dR_reduce_25 hl (by decide) rfl (fun ls hl => ?_)
    have hl : lv_has ls 9 [(7, .int 0), (6, .int (nI (pr i))), (0, .ref ua), (1, .int 1), (2, .ref lwr), (3, .ref tQ), (4, .int 19), (5, .int (nI i))] := hl
    refine lp_w (α := Nat × Int × Nat × Int32 × Int32 × (Nat → Int32) × Int32 × Int32 × (Nat → Int32)) (fun a9 => WN 48 a9.2.2.2.1 a9.2.2.2.2.1 a9.2.2.2.2.2.1 a9.2.1 ∧ WN 48 a9.2.2.2.2.2.2.1 a9.2.2.2.2.2.2.2.1 a9.2.2.2.2.2.2.2.2 (a9.2.2.1 : Int) ∧ SMO a9.2.2.1 ∧ a9.2.2.1 ≤ DD ∧ a9.2.1 * (DD : Int) = zu * (a9.2.2.1 : Int) ∧ (∀ q, q < i → ¬ (a9.2.2.1 % pr q = 0 ∧ a9.2.1.natAbs % pr q = 0)) ∧ a9.2.2.1 * 2 ^ a9.1 ≤ DD) (fun a9 => a9.2.2.1) (fun a9 => [(0, .ref ua), (1, .int 1), (2, .ref lwr), (3, .ref tQ), (4, .int 19), (5, .int (nI i)), (6, .int (nI (pr i))), (7, .int (nI a9.1))]) (fun a9 => [(ua, .inl (cT 4, 1, .inr (.inr (.inr (.inr uq))))), (upw, .inr (4, [.ref upww, .int a9.2.2.2.1, .int a9.2.2.2.2.1])), (upww, .inl (cT 0, 48, .inl a9.2.2.2.2.2.1)), (lwr, .inr (4, [.ref lwrw, .int a9.2.2.2.2.2.2.1, .int a9.2.2.2.2.2.2.2.1])), (lwrw, .inl (cT 0, 48, .inl a9.2.2.2.2.2.2.2.2))]) 27 ?_ (0, z1, d1, un, ub, uf, ln, lb, lf) (show WN 48 un ub uf z1 ∧ WN 48 ln lb lf (d1 : Int) ∧ SMO d1 ∧ d1 ≤ DD ∧ z1 * (DD : Int) = zu * (d1 : Int) ∧ (∀ q, q < i → ¬ (d1 % pr q = 0 ∧ z1.natAbs % pr q = 0)) ∧ d1 * 2 ^ 0 ≤ DD from ⟨iU, iL, iS, iD, iv, iR, by rw [Nat.pow_zero, Nat.mul_one]; exact iD⟩) (lv_sub hl [2, 3, 4, 5, 6, 7, 1, 0] rfl) hP hD hS
    intro a9 hI27 ih27 ls H locs hl hP hD hS
    obtain ⟨jj, z2, d2, unx, ubx, ufx, lnx, lbx, lfx⟩ := a9
    have hI27 : WN 48 unx ubx ufx z2 ∧ WN 48 lnx lbx lfx (d2 : Int) ∧ SMO d2 ∧ d2 ≤ DD ∧ z2 * (DD : Int) = zu * (d2 : Int) ∧ (∀ q, q < i → ¬ (d2 % pr q = 0 ∧ z2.natAbs % pr q = 0)) ∧ d2 * 2 ^ jj ≤ DD := hI27
    obtain ⟨jU, jL, jS, jD, jv, jR, jb⟩ := hI27
    have hl : lv_has ls 9 [(0, .ref ua), (1, .int 1), (2, .ref lwr), (3, .ref tQ), (4, .int 19), (5, .int (nI i)), (6, .int (nI (pr i))), (7, .int (nI jj))] := hl
    have hP : va_P D vwCl [(ua, .inl (cT 4, 1, .inr (.inr (.inr (.inr uq))))), (upw, .inr (4, [.ref upww, .int unx, .int ubx])), (upww, .inl (cT 0, 48, .inl ufx)), (lwr, .inr (4, [.ref lwrw, .int lnx, .int lbx])), (lwrw, .inl (cT 0, 48, .inl lfx))] _ := hP
    have hD : va_D A [(ua, .inl (cT 4, 1, .inr (.inr (.inr (.inr uq))))), (upw, .inr (4, [.ref upww, .int unx, .int ubx])), (upww, .inl (cT 0, 48, .inl ufx)), (lwr, .inr (4, [.ref lwrw, .int lnx, .int lbx])), (lwrw, .inl (cT 0, 48, .inl lfx))] := hD
    have hd2 := smo_pos jS
    have hj14 : jj < 1440 := rd_j hd2 jb hDD
    refine lv_iload hx hb dR_reduce_27 (lv_at hl 7 rfl) ?_
    refine lv_aload_n hx hb dR_reduce_29 rfl (lv_at hl 2 rfl) ?_
    refine ro_i (va_Run.run (va_runV (As := []) (rest := [.int (nI jj)]) ⟨hx, hb, hml, hown, hT⟩ (k_mostBits l D cT lwr lwrw 48 lnx lbx lfx) ⟨callB_of 0 hT (tb_gd w975) rfl rfl rfl (hT _ w5) (hT _ w972) hW_mostBits ⟨Nat.le_of_ble_eq_true rfl, Nat.le_of_ble_eq_true rfl⟩, (hT _ w973), (hT _ w974)⟩ (RO.preV (ci := 4) (q0 := 0) hZ hS (hP.sub (ws' := [(lwr, .inr (4, [.ref lwrw, .int lnx, .int lbx])), (lwrw, .inl (cT 0, 48, .inl lfx))]) [3, 4] rfl) hK rfl rfl) rfl rfl hl.1 rfl (lv_room (Nat.le_of_ble_eq_true rfl)) dR_reduce_30 ⟨Nat.le_of_ble_eq_true rfl, Nat.le_of_ble_eq_true rfl⟩)) ?_
    refine lv_icmp_ge (tgt := 83) hx hb dR_reduce_33 rfl (fun h2 => absurd h2 (fun q => absurd ((nI_leI (a := 48 * 30) (b := jj) (by decide) (by omega)).mp q) (by omega))) (fun _ => ?_)
    refine lv_iload hx hb dR_reduce_36 (lv_at hl 6 rfl) ?_
    refine lv_aload_n hx hb dR_reduce_38 rfl (lv_at hl 0 rfl) ?_
    refine lv_iload_n hx hb dR_reduce_39 rfl (lv_at hl 1 rfl) ?_
    refine lv_aload_n hx hb dR_reduce_40 rfl (lv_at hl 2 rfl) ?_
    refine ro_i (va_Run.run (va_runS (As := [.int (nI (pr i)), .ref ua, .int 1, .ref lwr]) (rest := []) ⟨hx, hb, hml, hown, hT⟩ (k_divides1 l D cT ua uq upw upww unx ubx ufx lwr lwrw lnx lbx lfx z2 (d2 : Int) (pr i) hq0 jU jL (by omega) (by omega)) ⟨callB_of 4 hT (tb_gd w978) rfl rfl rfl (hT _ w1) (hT _ w976) hR_divides ⟨Nat.le_of_ble_eq_true rfl, Nat.le_of_ble_eq_true rfl⟩, (hT _ w977)⟩ (RO.preS hZ hS (hP.sub (ws' := [(ua, .inl (cT 4, 1, .inr (.inr (.inr (.inr uq))))), (upw, .inr (4, [.ref upww, .int unx, .int ubx])), (upww, .inl (cT 0, 48, .inl ufx)), (lwr, .inr (4, [.ref lwrw, .int lnx, .int lbx])), (lwrw, .inl (cT 0, 48, .inl lfx))]) [0, 1, 2, 3, 4] rfl) hK) rfl rfl hl.1 rfl (lv_room (Nat.le_of_ble_eq_true rfl)) dR_reduce_41 ⟨Nat.le_of_ble_eq_true rfl, Nat.le_of_ble_eq_true rfl⟩)) ?_
    refine lv_if_eq (tgt := 83) hx hb dR_reduce_44 rfl (fun h3 => ?_) (fun h3 => ?_)
    · have hend : ¬ (d2 % pr i = 0 ∧ z2.natAbs % pr i = 0) := fun q => by have q9 := bn_0.mp h3; rw [decide_eq_true (show (d2 : Int).natAbs % pr i = 0 ∧ z2.natAbs % pr i = 0 by rw [Int.natAbs_natCast]; exact q)] at q9; exact absurd q9 (by decide)
      refine lv_iinc (k := 5) (v := nI (i + 1)) hx hb dR_reduce_83 hl rfl (nI_1 i) (by decide) rfl (fun ls hl => ?_)
      have hl : lv_has ls 9 [(5, .int (nI (i + 1))), (0, .ref ua), (1, .int 1), (2, .ref lwr), (3, .ref tQ), (4, .int 19), (6, .int (nI (pr i))), (7, .int (nI jj))] := hl
      refine lv_goto (tgt := 11) hx hb dR_reduce_86 rfl ?_
      exact ih11 (i + 1, z2, d2, unx, ubx, ufx, lnx, lbx, lfx) (show (i + 1) ≤ 19 ∧ WN 48 unx ubx ufx z2 ∧ WN 48 lnx lbx lfx (d2 : Int) ∧ SMO d2 ∧ d2 ≤ DD ∧ z2 * (DD : Int) = zu * (d2 : Int) ∧ ∀ q, q < (i + 1) → ¬ (d2 % pr q = 0 ∧ z2.natAbs % pr q = 0) from ⟨by omega, jU, jL, jS, jD, jv, fun q h => (by by_cases r9 : q = i; (subst r9; exact hend); (exact jR q (by omega)))⟩) (show 19 - (i + 1) < 19 - i from (by omega)) ls H locs (lv_sub hl [1, 2, 3, 4, 5, 0] rfl) hP hD hS
    · have hdv : d2 % pr i = 0 ∧ z2.natAbs % pr i = 0 := by have q9 := bn_dt h3; rw [Int.natAbs_natCast] at q9; exact q9
      refine lv_aload_n hx hb dR_reduce_47 rfl (lv_at hl 2 rfl) ?_
      refine lv_iload hx hb dR_reduce_48 (lv_at hl 6 rfl) ?_
      refine rw_v (wc := [(lwr, .inr (4, [.ref lwrw, .int lnx, .int lbx])), (lwrw, .inl (cT 0, 48, .inl lfx))]) (wr := [(ua, .inl (cT 4, 1, .inr (.inr (.inr (.inr uq))))), (upw, .inr (4, [.ref upww, .int unx, .int ubx])), (upww, .inl (cT 0, 48, .inl ufx))]) hP hD hS hA [3, 4] [0, 1, 2] rfl rfl (by decide) (by decide) (va_runV (As := [.int (nI (pr i))]) (rest := []) ⟨hx, hb, hml, hown, hT⟩ (k_divide l D cT lwr lwrw 48 lnx lbx lfx (d2 : Int) (pr i) (by decide) jL (by omega) (by omega) _) ⟨callB_of 1 hT (tb_gd w457) rfl rfl rfl (hT _ w5) (hT _ w980) hW_divide ⟨Nat.le_of_ble_eq_true rfl, Nat.le_of_ble_eq_true rfl⟩, (hT _ w455), (hT _ w456)⟩ (RW.preV (ci := 4) (q0 := 0) hZ hS (va_free (wc := [(lwr, .inr (4, [.ref lwrw, .int lnx, .int lbx])), (lwrw, .inl (cT 0, 48, .inl lfx))]) hD hS hA [3, 4] rfl) (hP.sub (ws' := [(lwr, .inr (4, [.ref lwrw, .int lnx, .int lbx])), (lwrw, .inl (cT 0, 48, .inl lfx))]) [3, 4] rfl) hK (hD.sub (ws' := [(lwr, .inr (4, [.ref lwrw, .int lnx, .int lbx])), (lwrw, .inl (cT 0, 48, .inl lfx))]) [3, 4] (by decide) rfl) rfl rfl) rfl rfl hl.1 rfl (lv_room (Nat.le_of_ble_eq_true rfl)) dR_reduce_50 ⟨Nat.le_of_ble_eq_true rfl, Nat.le_of_ble_eq_true rfl⟩) (fun u9 H locs hpu4 hP hD hS => ?_)
      obtain ⟨n1u4, f1u4⟩ := u9
      have hpu4 : WN 48 n1u4 lbx f1u4 ((d2 : Int).tdiv (pr i)) := hpu4
      have hP : va_P D vwCl [(ua, .inl (cT 4, 1, .inr (.inr (.inr (.inr uq))))), (upw, .inr (4, [.ref upww, .int unx, .int ubx])), (upww, .inl (cT 0, 48, .inl ufx)), (lwr, .inr (4, [.ref lwrw, .int n1u4, .int lbx])), (lwrw, .inl (cT 0, 48, .inl f1u4))] _ := hP
      have hD : va_D A [(ua, .inl (cT 4, 1, .inr (.inr (.inr (.inr uq))))), (upw, .inr (4, [.ref upww, .int unx, .int ubx])), (upww, .inl (cT 0, 48, .inl ufx)), (lwr, .inr (4, [.ref lwrw, .int n1u4, .int lbx])), (lwrw, .inl (cT 0, 48, .inl f1u4))] := hD
      have lN9 : WN 48 n1u4 lbx f1u4 ((d2 / pr i : Nat) : Int) := by have q9 := hpu4; rw [show (d2 : Int).tdiv ((pr i : Nat) : Int) = ((d2 / pr i : Nat) : Int) from rfl] at q9; exact q9
      refine lv_iconst (v := 0) hx hb dR_reduce_53 (by decide) ?_
      refine lv_istore hx hb dR_reduce_54 hl (by decide) rfl (fun ls hl => ?_)
      have hl : lv_has ls 9 [(8, .int 0), (0, .ref ua), (1, .int 1), (2, .ref lwr), (3, .ref tQ), (4, .int 19), (5, .int (nI i)), (6, .int (nI (pr i))), (7, .int (nI jj))] := hl
      refine lv_iload hx hb dR_reduce_56 (lv_at hl 0 rfl) ?_
      refine lv_iload_n hx hb dR_reduce_58 rfl (lv_at hl 2 rfl) ?_
      refine lv_icmp_ge (tgt := 77) hx hb dR_reduce_59 rfl (fun h5 => absurd h5 (by decide)) (fun _ => ?_)
      refine lv_aload_n hx hb dR_reduce_62 rfl (lv_at hl 1 rfl) ?_
      refine lv_iload hx hb dR_reduce_63 (lv_at hl 0 rfl) ?_
      refine al_q (q := upw) hx hb hK hP 0 4 rfl rfl (by unfold vp_in; decide) hq0 dR_reduce_65 ?_
      refine lv_iload hx hb dR_reduce_66 (lv_at hl 7 rfl) ?_
      refine rw_v (wc := [(upw, .inr (4, [.ref upww, .int unx, .int ubx])), (upww, .inl (cT 0, 48, .inl ufx))]) (wr := [(ua, .inl (cT 4, 1, .inr (.inr (.inr (.inr uq))))), (lwr, .inr (4, [.ref lwrw, .int n1u4, .int lbx])), (lwrw, .inl (cT 0, 48, .inl f1u4))]) hP hD hS hA [1, 2] [0, 3, 4] rfl rfl (by decide) (by decide) (va_runV (As := [.int (nI (pr i))]) (rest := []) ⟨hx, hb, hml, hown, hT⟩ (k_divide l D cT upw upww 48 unx ubx ufx z2 (pr i) (by decide) jU (by omega) (by omega) _) ⟨callB_of 1 hT (tb_gd w457) rfl rfl rfl (hT _ w5) (hT _ w980) hW_divide ⟨Nat.le_of_ble_eq_true rfl, Nat.le_of_ble_eq_true rfl⟩, (hT _ w455), (hT _ w456)⟩ (RW.preV (ci := 4) (q0 := 0) hZ hS (va_free (wc := [(upw, .inr (4, [.ref upww, .int unx, .int ubx])), (upww, .inl (cT 0, 48, .inl ufx))]) hD hS hA [1, 2] rfl) (hP.sub (ws' := [(upw, .inr (4, [.ref upww, .int unx, .int ubx])), (upww, .inl (cT 0, 48, .inl ufx))]) [1, 2] rfl) hK (hD.sub (ws' := [(upw, .inr (4, [.ref upww, .int unx, .int ubx])), (upww, .inl (cT 0, 48, .inl ufx))]) [1, 2] (by decide) rfl) rfl rfl) rfl rfl hl.1 rfl (lv_room (Nat.le_of_ble_eq_true rfl)) dR_reduce_68 ⟨Nat.le_of_ble_eq_true rfl, Nat.le_of_ble_eq_true rfl⟩) (fun u9 H locs hpu6 hP hD hS => ?_)
      obtain ⟨n1u6, f1u6⟩ := u9
      have hpu6 : WN 48 n1u6 ubx f1u6 (z2.tdiv (pr i)) := hpu6
      have hP : va_P D vwCl [(ua, .inl (cT 4, 1, .inr (.inr (.inr (.inr uq))))), (lwr, .inr (4, [.ref lwrw, .int n1u4, .int lbx])), (lwrw, .inl (cT 0, 48, .inl f1u4)), (upw, .inr (4, [.ref upww, .int n1u6, .int ubx])), (upww, .inl (cT 0, 48, .inl f1u6))] _ := hP
      have hD : va_D A [(ua, .inl (cT 4, 1, .inr (.inr (.inr (.inr uq))))), (lwr, .inr (4, [.ref lwrw, .int n1u4, .int lbx])), (lwrw, .inl (cT 0, 48, .inl f1u4)), (upw, .inr (4, [.ref upww, .int n1u6, .int ubx])), (upww, .inl (cT 0, 48, .inl f1u6))] := hD
      have uN := hpu6
      refine lv_iinc (k := 0) (v := 1) hx hb dR_reduce_71 hl rfl (by decide) (by decide) rfl (fun ls hl => ?_)
      have hl : lv_has ls 9 [(8, .int 1), (0, .ref ua), (1, .int 1), (2, .ref lwr), (3, .ref tQ), (4, .int 19), (5, .int (nI i)), (6, .int (nI (pr i))), (7, .int (nI jj))] := hl
      refine lv_goto (tgt := 56) hx hb dR_reduce_74 rfl ?_
      refine lv_iload hx hb dR_reduce_56 (lv_at hl 0 rfl) ?_
      refine lv_iload_n hx hb dR_reduce_58 rfl (lv_at hl 2 rfl) ?_
      refine lv_icmp_ge (tgt := 77) hx hb dR_reduce_59 rfl (fun _ => ?_) (fun h7 => absurd (by decide) h7)
      refine lv_iinc (k := 8) (v := nI (jj + 1)) hx hb dR_reduce_77 hl rfl (nI_1 jj) (by decide) rfl (fun ls hl => ?_)
      have hl : lv_has ls 9 [(7, .int (nI (jj + 1))), (8, .int 1), (0, .ref ua), (1, .int 1), (2, .ref lwr), (3, .ref tQ), (4, .int 19), (5, .int (nI i)), (6, .int (nI (pr i)))] := hl
      refine lv_goto (tgt := 27) hx hb dR_reduce_80 rfl ?_
      exact ih27 (jj + 1, z2.tdiv (pr i : Int), d2 / pr i, n1u6, ubx, f1u6, n1u4, lbx, f1u4) (show WN 48 n1u6 ubx f1u6 (z2.tdiv (pr i : Int)) ∧ WN 48 n1u4 lbx f1u4 ((d2 / pr i) : Int) ∧ SMO (d2 / pr i) ∧ (d2 / pr i) ≤ DD ∧ (z2.tdiv (pr i : Int)) * (DD : Int) = zu * ((d2 / pr i) : Int) ∧ (∀ q, q < i → ¬ ((d2 / pr i) % pr q = 0 ∧ (z2.tdiv (pr i : Int)).natAbs % pr q = 0)) ∧ (d2 / pr i) * 2 ^ (jj + 1) ≤ DD from ⟨uN, lN9, smo_div jS (by omega) hdv.1, Nat.le_trans (Nat.div_le_self _ _) jD, red_dv (by omega) hdv.1 hdv.2 jv, fun q h => (by rw [Int.natAbs_tdiv]; exact rd_pr jR h hdv.1 hdv.2), rd_b hpb.1 hdv.1 jb⟩) (show (d2 / pr i) < d2 from (Nat.div_lt_self hd2 (by omega))) ls H locs (lv_sub hl [2, 3, 4, 5, 6, 7, 8, 0] rfl) (hP.sub (ws' := [(ua, .inl (cT 4, 1, .inr (.inr (.inr (.inr uq))))), (upw, .inr (4, [.ref upww, .int n1u6, .int ubx])), (upww, .inl (cT 0, 48, .inl f1u6)), (lwr, .inr (4, [.ref lwrw, .int n1u4, .int lbx])), (lwrw, .inl (cT 0, 48, .inl f1u4))]) [0, 3, 4, 1, 2] rfl) (hD.sub (ws' := [(ua, .inl (cT 4, 1, .inr (.inr (.inr (.inr uq))))), (upw, .inr (4, [.ref upww, .int n1u6, .int ubx])), (upww, .inl (cT 0, 48, .inl f1u6)), (lwr, .inr (4, [.ref lwrw, .int n1u4, .int lbx])), (lwrw, .inl (cT 0, 48, .inl f1u4))]) [0, 3, 4, 1, 2] (by decide) rfl) hS
