/-! What a best split is like. -/
def BOK (b : BST) (n : Nat) : Prop := (∃ p q r, 0 < p ∧ p < 69 ∧ 0 < q ∧ q < 69 ∧ 0 < r ∧ r < 69 ∧ b.2.1 = p * q * r) ∧ (¬ b.1 = 0 → (∃ c, c < 6 ∧ b.2.2.1 = nI c) ∧ (b.2.2.2.2.1 = 0 ∨ b.2.2.2.2.1 = 1) ∧ SUBn b.2.2.2.2.2 n)
theorem wgh_ok {zr : Nat → Int} {n w lst : Nat} {A S : Int64} {b : BST} {cc ee ml : Int32} (hn : n ≤ 48) (hw : w ≤ 20) (hl : 1 ≤ lst) (hA : SUBn A n) (hS : SUBn S n) (hb : BOK b n) (hc : ∃ c, c < 6 ∧ cc = nI c) (hm : ml = 0 ∨ ml = 1) : BOK (wgh zr n w lst A b S cc ee ml) n := by
  unfold wgh
  split
  · exact hb
  · rename_i h
    split
    · have h48 := cb_48 hA hS hn
      refine ⟨⟨cb S + w, cb (A &&& (S ^^^ (-1))) + w, cb S + cb (A &&& (S ^^^ (-1))) + w, ?_, ?_, ?_, ?_, ?_, ?_, rfl⟩, fun _ => ⟨hc, hm, hS⟩⟩ <;> omega
    · exact hb
theorem lks_ok {zr : Nat → Int} {n w lst : Nat} {A M S : Int64} {b : BST} {cc ee : Int32} (hn : n ≤ 48) (hw : w ≤ 20) (hl : 1 ≤ lst) (hA : SUBn A n) (hM : SUBn M n) (hS : SUBn S n) (hb : BOK b n) (hc : ∃ c, c < 6 ∧ cc = nI c) : BOK (lks zr n w lst A M b S cc ee) n := by
  unfold lks
  have h1 := wgh_ok (zr := zr) (ee := ee) hn hw hl hA (sub_or hS hM) hb hc (Or.inr rfl)
  split
  · exact h1
  · exact wgh_ok hn hw hl hA hS h1 hc (Or.inl rfl)
theorem lkk_ok {zr : Nat → Int} {n w lst : Nat} {vv : Nat → Int32} {c : Nat} {A M : Int64} (hn : n ≤ 48) (hw : w ≤ 20) (hl : 1 ≤ lst) (hA : SUBn A n) (hM : SUBn M n) (hc : c < 6) : ∀ f bits side b, SUBn side n → BOK b n → BOK (lkk zr n w lst vv c A M f bits side b) n
  | 0, _, _, _, _, hb => hb
  | f + 1, bits, side, b, hs, hb => by
    show BOK (if _ then _ else _) n
    split
    · exact hb
    · refine lkk_ok hn hw hl hA hM hc f _ _ _ (sub_or hs (sub_and (sub_rwk hn))) ?_
      split
      · exact hb
      · exact lks_ok hn hw hl hA hM (sub_or hs (sub_and (sub_rwk hn))) hb ⟨c, hc, rfl⟩
theorem lkE_ok {zr : Nat → Int} {n w lst : Nat} {vv eg : Nat → Int32} {c : Nat} {A M : Int64} {b : BST} (hn : n ≤ 48) (hw : w ≤ 20) (hl : 1 ≤ lst) (hA : SUBn A n) (hM : SUBn M n) (hc : c < 6) (hb : BOK b n) : ∀ k, BOK (lkE zr n w lst vv eg c A M b k) n
  | 0 => hb
  | k + 1 => lks_ok hn hw hl hA hM (sub_and (sub_and (sub_rlt hn))) (lkE_ok hn hw hl hA hM hc hb k) ⟨c, hc, rfl⟩
theorem sub_0 {n : Nat} : SUBn 0 n := fun r h => by
  rw [bx_zero] at h
  exact absurd h (by decide)
theorem colF_ok {zr : Nat → Int} {n w lst : Nat} {vv eg ik : Nat → Int32} {ne : Nat → Nat} {chb : Int32} {A : Int64} (hn : n ≤ 48) (hw : w ≤ 20) (hl : 1 ≤ lst) (hA : SUBn A n) : ∀ c, c ≤ 6 → BOK (colF zr n w lst vv eg ik ne chb A c) n
  | 0, _ => ⟨⟨1, 1, 1, by decide, by decide, by decide, by decide, by decide, by decide, rfl⟩, fun h => absurd rfl h⟩
  | c + 1, hc => by
    have ih := colF_ok (zr := zr) (w := w) (lst := lst) (vv := vv) (eg := eg) (ik := ik) (ne := ne) (chb := chb) hn hw hl hA c (by omega)
    show BOK (colS _ _ _ _ _ _ _ _ _ _ _ _) n
    unfold colS
    split
    · split
      · exact lkE_ok hn hw hl hA (sub_and (sub_rwk hn)) (by omega) ih _
      · exact lkk_ok hn hw hl hA (sub_and (sub_rwk hn)) (by omega) _ _ _ _ sub_0 ih
    · exact ih
/-- twice the exponents: the square -/
theorem dnk_sq {e e' : Nat → Nat} : ∀ {k : Nat}, (∀ j, j < k → e' j = 2 * e j) → dnk e' k = dnk e k * dnk e k
  | 0, _ => rfl
  | k + 1, h => by
    show dnk e' k * pr k ^ e' k = dnk e k * pr k ^ e k * (dnk e k * pr k ^ e k)
    rw [dnk_sq (fun j hj => h j (by omega)), h k (by omega), Nat.two_mul, Nat.pow_add]
    ac_rfl
set_option maxHeartbeats 4000000 in
set_option maxRecDepth 100000 in
theorem m_split (l : Launch) (D : va_G) (cT : Nat → ClassId) (y : Nat) (yr : Nat → Nat) (yi : Nat → Int32) (ysb : Int64) (ybs : Int64) (fp : Nat → Int32) (gc : Nat → Int32) (ik : Nat → Int32) (fb : Nat → Int32) (up : Nat → Int32) (lw : Nat → Int32) (t2 : Nat → Int32) (nc : Nat → Int32) (ed : Nat → Int32) (tl : Nat → Int32) (kd : Nat → Int32) (nd : Nat) (bb : Nat) (n : Nat) (bq : BST) (GB : Nat) (XG : Int) (DG : Nat) (hPR : PRI fp) (hL : LOK gc bb) (hbb : bb < 2 ^ 27) (hB : BSF yi ybs fb bq GB) (hO : BOK bq n) (hG : ¬ bq.1 = 0) (hnd : nd < 496) (hf130 : GB < 268435456 ^ 130) (hXG : bq.1 * (DG : Int) = XG * ((dn gc * dn gc * bq.2.1 : Nat) : Int)) (sz : Nat) : Met l yM_split WM_split ({ frames := 4, cells := 0, slots := 0, locals := 94 } : Room) (RW D vwCl [.ref y, .int (nI nd)] [(y, .inr (11, MO yr yi ysb ybs)), (yr 0, .inl (cT 0, 19, .inl fp)), (yr 44, .inl (cT 0, 19, .inl gc)), (yr 6, .inl (cT 3, 6, .inl ik)), (yr 36, .inl (cT 0, 302, .inl fb)), (yr 27, .inl (cT 0, 65472, .inl up)), (yr 28, .inl (cT 0, 9424, .inl lw)), (yr 40, .inl (cT 0, 19, .inl t2)), (yr 19, .inl (cT 0, 496, .inl nc)), (yr 20, .inl (cT 0, 496, .inl ed)), (yr 21, .inl (cT 3, 496, .inl tl)), (yr 26, .inl (cT 3, 496, .inl kd))] (TY cT) sz) (va_Qv (fun u9 : (Nat → Int32) × (Nat → Int32) × (Nat → Int32) × (Nat → Int32) × Int32 => (∃ c8, c8 < 6 ∧ bq.2.2.1 = nI c8 ∧ u9.2.2.2.2 = ik c8) ∧ NF u9.1 u9.2.1 (2 * bb + 20) nd XG DG ∧ (∀ q8, q8 < 132 * nd ∨ 132 * nd + 132 ≤ q8 → u9.1 q8 = up q8) ∧ ∀ q8, q8 < 19 * nd ∨ 19 * nd + 19 ≤ q8 → u9.2.1 q8 = lw q8) (BW D vwCl (va_A [(y, .inr (11, MO yr yi ysb ybs)), (yr 0, .inl (cT 0, 19, .inl fp)), (yr 44, .inl (cT 0, 19, .inl gc)), (yr 6, .inl (cT 3, 6, .inl ik)), (yr 36, .inl (cT 0, 302, .inl fb)), (yr 27, .inl (cT 0, 65472, .inl up)), (yr 28, .inl (cT 0, 9424, .inl lw)), (yr 40, .inl (cT 0, 19, .inl t2)), (yr 19, .inl (cT 0, 496, .inl nc)), (yr 20, .inl (cT 0, 496, .inl ed)), (yr 21, .inl (cT 3, 496, .inl tl)), (yr 26, .inl (cT 3, 496, .inl kd))] sz) (fun u9 : (Nat → Int32) × (Nat → Int32) × (Nat → Int32) × (Nat → Int32) × Int32 => [(y, .inr (11, MO yr yi ysb ybs)), (yr 0, .inl (cT 0, 19, .inl fp)), (yr 44, .inl (cT 0, 19, .inl gc)), (yr 6, .inl (cT 3, 6, .inl ik)), (yr 36, .inl (cT 0, 302, .inl u9.2.2.1)), (yr 27, .inl (cT 0, 65472, .inl u9.1)), (yr 28, .inl (cT 0, 9424, .inl u9.2.1)), (yr 40, .inl (cT 0, 19, .inl u9.2.2.2.1)), (yr 19, .inl (cT 0, 496, .inl (upd nc nd bq.2.2.1))), (yr 20, .inl (cT 0, 496, .inl (upd ed nd bq.2.2.2.1))), (yr 21, .inl (cT 3, 496, .inl (upd tl nd (vp_nar .boolean bq.2.2.2.2.1)))), (yr 26, .inl (cT 3, 496, .inl (upd kd nd (vp_nar .boolean u9.2.2.2.2))))])) (va_A [(y, .inr (11, MO yr yi ysb ybs)), (yr 0, .inl (cT 0, 19, .inl fp)), (yr 44, .inl (cT 0, 19, .inl gc)), (yr 6, .inl (cT 3, 6, .inl ik)), (yr 36, .inl (cT 0, 302, .inl fb)), (yr 27, .inl (cT 0, 65472, .inl up)), (yr 28, .inl (cT 0, 9424, .inl lw)), (yr 40, .inl (cT 0, 19, .inl t2)), (yr 19, .inl (cT 0, 496, .inl nc)), (yr 20, .inl (cT 0, 496, .inl ed)), (yr 21, .inl (cT 3, 496, .inl tl)), (yr 26, .inl (cT 3, 496, .inl kd))] sz)) 0 0 (va_A [(y, .inr (11, MO yr yi ysb ybs)), (yr 0, .inl (cT 0, 19, .inl fp)), (yr 44, .inl (cT 0, 19, .inl gc)), (yr 6, .inl (cT 3, 6, .inl ik)), (yr 36, .inl (cT 0, 302, .inl fb)), (yr 27, .inl (cT 0, 65472, .inl up)), (yr 28, .inl (cT 0, 9424, .inl lw)), (yr 40, .inl (cT 0, 19, .inl t2)), (yr 19, .inl (cT 0, 496, .inl nc)), (yr 20, .inl (cT 0, 496, .inl ed)), (yr 21, .inl (cT 3, 496, .inl tl)), (yr 26, .inl (cT 3, 496, .inl kd))] sz) := by
  refine Met.ofW (cc := cM_split) (maxL := 3) (ret := none) (by decide) rfl ?_
  intro p e s m args below meth c s₁ B hml hv
  obtain ⟨rfl, hsz, hZ, hP, hK, hD0⟩ := hv
  have hx := B.exec
  have hb := B.bytes
  have hr := B.returns
  have hts := atoms_spec (ws := WM_split) B.pre
  have hT : ∀ w ∈ TB, w.before _ s = true := fun w h => hts w (List.mem_cons_of_mem _ h)
  have hown : s.vm.findClass R_M = some m.cls := findClass_of_methodNamed B.named
  have hlocks := B.notSynchronized
  subst hsz
  have hD := hD0.self (sz := s.heap.size)
  generalize hAe : va_A [(y, .inr (11, MO yr yi ysb ybs)), (yr 0, .inl (cT 0, 19, .inl fp)), (yr 44, .inl (cT 0, 19, .inl gc)), (yr 6, .inl (cT 3, 6, .inl ik)), (yr 36, .inl (cT 0, 302, .inl fb)), (yr 27, .inl (cT 0, 65472, .inl up)), (yr 28, .inl (cT 0, 9424, .inl lw)), (yr 40, .inl (cT 0, 19, .inl t2)), (yr 19, .inl (cT 0, 496, .inl nc)), (yr 20, .inl (cT 0, 496, .inl ed)), (yr 21, .inl (cT 3, 496, .inl tl)), (yr 26, .inl (cT 3, 496, .inl kd))] s.heap.size = A at hD hZ ⊢
  have hA : ∀ q : Nat, s.heap.size ≤ q → A q := fun q h => by rw [← hAe]; exact Or.inr h
  have hS : va_S A s.heap s.heap [] := va_S.rf
  have hl := lv_entry ([.ref y, .int (nI nd)]) (n := 3) (Nat.le_of_ble_eq_true rfl)
  rw [lg_entry_eq]
  generalize (lg_sl ([.ref y, .int (nI nd)]) ++ List.replicate (3 - (lg_sl ([.ref y, .int (nI nd)])).length) Slot.unset).toArray = ls at hl ⊢
  have hl : lv_has ls 3 [(0, .ref y), (1, .int (nI nd))] := hl
  obtain ⟨b1, b2, b3, b4, b5, b6⟩ := hB
  have b6 := b6 hG
  obtain ⟨⟨p1, p2, p3, r1, r2, r3, r4, r5, r6, r7⟩, o2⟩ := hO
  obtain ⟨⟨c1, hc1, hc2⟩, ho3, ho4⟩ := o2 hG
  have hyc : yi 51 = nI c1 := b6.1.trans hc2
  refine lv_aload_n hx hb dM_split_0 rfl (lv_at hl 0 rfl) ?_
  refine va_get (D := D) (ci := 11) (v := .ref (yr 19)) (C := R_M) (T := T_M) (N := 60) hx hb hT in_M hown hK hP 0 rfl rfl 19 (by decide) (hT _ w1123) (fun _ h9 => h9) rfl dM_split_1 ?_
  refine lv_iload_n hx hb dM_split_4 rfl (lv_at hl 1 rfl) ?_
  refine lv_aload_n hx hb dM_split_5 rfl (lv_at hl 0 rfl) ?_
  refine va_get (D := D) (ci := 11) (v := .int (yi 51)) (C := R_M) (T := T_M) (N := 60) hx hb hT in_M hown hK hP 0 rfl rfl 51 (by decide) (hT _ w1155) (fun _ h9 => h9) rfl dM_split_6 ?_
  refine lv_topi (fun y9 e9 => ?_)
  cases (show y9 = bq.2.2.1 from e9.trans b6.1)
  refine lq_iast (j := nd) hx hb hK hP hD hS 8 0 rfl rfl rfl (by omega) (by omega) dM_split_9 (fun H locs hP hD hS => ?_)
  have hP : va_P D vwCl [(y, .inr (11, MO yr yi ysb ybs)), (yr 0, .inl (cT 0, 19, .inl fp)), (yr 44, .inl (cT 0, 19, .inl gc)), (yr 6, .inl (cT 3, 6, .inl ik)), (yr 36, .inl (cT 0, 302, .inl fb)), (yr 27, .inl (cT 0, 65472, .inl up)), (yr 28, .inl (cT 0, 9424, .inl lw)), (yr 40, .inl (cT 0, 19, .inl t2)), (yr 19, .inl (cT 0, 496, .inl (upd nc nd bq.2.2.1))), (yr 20, .inl (cT 0, 496, .inl ed)), (yr 21, .inl (cT 3, 496, .inl tl)), (yr 26, .inl (cT 3, 496, .inl kd))] _ := hP
  have hD : va_D A [(y, .inr (11, MO yr yi ysb ybs)), (yr 0, .inl (cT 0, 19, .inl fp)), (yr 44, .inl (cT 0, 19, .inl gc)), (yr 6, .inl (cT 3, 6, .inl ik)), (yr 36, .inl (cT 0, 302, .inl fb)), (yr 27, .inl (cT 0, 65472, .inl up)), (yr 28, .inl (cT 0, 9424, .inl lw)), (yr 40, .inl (cT 0, 19, .inl t2)), (yr 19, .inl (cT 0, 496, .inl (upd nc nd bq.2.2.1))), (yr 20, .inl (cT 0, 496, .inl ed)), (yr 21, .inl (cT 3, 496, .inl tl)), (yr 26, .inl (cT 3, 496, .inl kd))] := hD
  refine lv_aload_n hx hb dM_split_10 rfl (lv_at hl 0 rfl) ?_
  refine va_get (D := D) (ci := 11) (v := .ref (yr 20)) (C := R_M) (T := T_M) (N := 60) hx hb hT in_M hown hK hP 0 rfl rfl 20 (by decide) (hT _ w1124) (fun _ h9 => h9) rfl dM_split_11 ?_
  refine lv_iload_n hx hb dM_split_14 rfl (lv_at hl 1 rfl) ?_
  refine lv_aload_n hx hb dM_split_15 rfl (lv_at hl 0 rfl) ?_
  refine va_get (D := D) (ci := 11) (v := .int (yi 52)) (C := R_M) (T := T_M) (N := 60) hx hb hT in_M hown hK hP 0 rfl rfl 52 (by decide) (hT _ w1156) (fun _ h9 => h9) rfl dM_split_16 ?_
  refine lv_topi (fun y9 e9 => ?_)
  cases (show y9 = bq.2.2.2.1 from e9.trans b6.2.1)
  refine lq_iast (j := nd) hx hb hK hP hD hS 9 0 rfl rfl rfl (by omega) (by omega) dM_split_19 (fun H locs hP hD hS => ?_)
  have hP : va_P D vwCl [(y, .inr (11, MO yr yi ysb ybs)), (yr 0, .inl (cT 0, 19, .inl fp)), (yr 44, .inl (cT 0, 19, .inl gc)), (yr 6, .inl (cT 3, 6, .inl ik)), (yr 36, .inl (cT 0, 302, .inl fb)), (yr 27, .inl (cT 0, 65472, .inl up)), (yr 28, .inl (cT 0, 9424, .inl lw)), (yr 40, .inl (cT 0, 19, .inl t2)), (yr 19, .inl (cT 0, 496, .inl (upd nc nd bq.2.2.1))), (yr 20, .inl (cT 0, 496, .inl (upd ed nd bq.2.2.2.1))), (yr 21, .inl (cT 3, 496, .inl tl)), (yr 26, .inl (cT 3, 496, .inl kd))] _ := hP
  have hD : va_D A [(y, .inr (11, MO yr yi ysb ybs)), (yr 0, .inl (cT 0, 19, .inl fp)), (yr 44, .inl (cT 0, 19, .inl gc)), (yr 6, .inl (cT 3, 6, .inl ik)), (yr 36, .inl (cT 0, 302, .inl fb)), (yr 27, .inl (cT 0, 65472, .inl up)), (yr 28, .inl (cT 0, 9424, .inl lw)), (yr 40, .inl (cT 0, 19, .inl t2)), (yr 19, .inl (cT 0, 496, .inl (upd nc nd bq.2.2.1))), (yr 20, .inl (cT 0, 496, .inl (upd ed nd bq.2.2.2.1))), (yr 21, .inl (cT 3, 496, .inl tl)), (yr 26, .inl (cT 3, 496, .inl kd))] := hD
  refine lv_aload_n hx hb dM_split_20 rfl (lv_at hl 0 rfl) ?_
  refine va_get (D := D) (ci := 11) (v := .ref (yr 21)) (C := R_M) (T := T_M) (N := 60) hx hb hT in_M hown hK hP 0 rfl rfl 21 (by decide) (hT _ w1125) (fun _ h9 => h9) rfl dM_split_21 ?_
  refine lv_iload_n hx hb dM_split_24 rfl (lv_at hl 1 rfl) ?_
  refine lv_aload_n hx hb dM_split_25 rfl (lv_at hl 0 rfl) ?_
  refine va_get (D := D) (ci := 11) (v := .int (yi 53)) (C := R_M) (T := T_M) (N := 60) hx hb hT in_M hown hK hP 0 rfl rfl 53 (by decide) (hT _ w1157) (fun _ h9 => h9) rfl dM_split_26 ?_
  refine lv_topi (fun y9 e9 => ?_)
  cases (show y9 = bq.2.2.2.2.1 from e9.trans b6.2.2.1)
  refine lq_zast (j := nd) hx hb hK hP hD hS 10 3 rfl rfl rfl (by omega) (by omega) dM_split_29 (fun H locs hP hD hS => ?_)
  have hP : va_P D vwCl [(y, .inr (11, MO yr yi ysb ybs)), (yr 0, .inl (cT 0, 19, .inl fp)), (yr 44, .inl (cT 0, 19, .inl gc)), (yr 6, .inl (cT 3, 6, .inl ik)), (yr 36, .inl (cT 0, 302, .inl fb)), (yr 27, .inl (cT 0, 65472, .inl up)), (yr 28, .inl (cT 0, 9424, .inl lw)), (yr 40, .inl (cT 0, 19, .inl t2)), (yr 19, .inl (cT 0, 496, .inl (upd nc nd bq.2.2.1))), (yr 20, .inl (cT 0, 496, .inl (upd ed nd bq.2.2.2.1))), (yr 21, .inl (cT 3, 496, .inl (upd tl nd (vp_nar .boolean bq.2.2.2.2.1)))), (yr 26, .inl (cT 3, 496, .inl kd))] _ := hP
  have hD : va_D A [(y, .inr (11, MO yr yi ysb ybs)), (yr 0, .inl (cT 0, 19, .inl fp)), (yr 44, .inl (cT 0, 19, .inl gc)), (yr 6, .inl (cT 3, 6, .inl ik)), (yr 36, .inl (cT 0, 302, .inl fb)), (yr 27, .inl (cT 0, 65472, .inl up)), (yr 28, .inl (cT 0, 9424, .inl lw)), (yr 40, .inl (cT 0, 19, .inl t2)), (yr 19, .inl (cT 0, 496, .inl (upd nc nd bq.2.2.1))), (yr 20, .inl (cT 0, 496, .inl (upd ed nd bq.2.2.2.1))), (yr 21, .inl (cT 3, 496, .inl (upd tl nd (vp_nar .boolean bq.2.2.2.2.1)))), (yr 26, .inl (cT 3, 496, .inl kd))] := hD
  refine lv_aload_n hx hb dM_split_30 rfl (lv_at hl 0 rfl) ?_
  refine va_get (D := D) (ci := 11) (v := .ref (yr 26)) (C := R_M) (T := T_M) (N := 60) hx hb hT in_M hown hK hP 0 rfl rfl 26 (by decide) (hT _ w1130) (fun _ h9 => h9) rfl dM_split_31 ?_
  refine lv_iload_n hx hb dM_split_34 rfl (lv_at hl 1 rfl) ?_
  refine lv_aload_n hx hb dM_split_35 rfl (lv_at hl 0 rfl) ?_
  refine va_get (D := D) (ci := 11) (v := .ref (yr 6)) (C := R_M) (T := T_M) (N := 60) hx hb hT in_M hown hK hP 0 rfl rfl 6 (by decide) (hT _ w1110) (fun _ h9 => h9) rfl dM_split_36 ?_
  refine lv_aload_n hx hb dM_split_39 rfl (lv_at hl 0 rfl) ?_
  refine va_get (D := D) (ci := 11) (v := .int (yi 51)) (C := R_M) (T := T_M) (N := 60) hx hb hT in_M hown hK hP 0 rfl rfl 51 (by decide) (hT _ w1155) (fun _ h9 => h9) rfl dM_split_40 ?_
  refine lv_topi (fun y9 e9 => ?_)
  cases (show y9 = nI c1 from e9.trans hyc)
  refine lq_zald (j := c1) hx hb hK hP 3 3 rfl rfl rfl (by omega) (by omega) dM_split_43 ?_
  refine lq_zast (j := nd) hx hb hK hP hD hS 11 3 rfl rfl rfl (by omega) (by omega) dM_split_44 (fun H locs hP hD hS => ?_)
  have hP : va_P D vwCl [(y, .inr (11, MO yr yi ysb ybs)), (yr 0, .inl (cT 0, 19, .inl fp)), (yr 44, .inl (cT 0, 19, .inl gc)), (yr 6, .inl (cT 3, 6, .inl ik)), (yr 36, .inl (cT 0, 302, .inl fb)), (yr 27, .inl (cT 0, 65472, .inl up)), (yr 28, .inl (cT 0, 9424, .inl lw)), (yr 40, .inl (cT 0, 19, .inl t2)), (yr 19, .inl (cT 0, 496, .inl (upd nc nd bq.2.2.1))), (yr 20, .inl (cT 0, 496, .inl (upd ed nd bq.2.2.2.1))), (yr 21, .inl (cT 3, 496, .inl (upd tl nd (vp_nar .boolean bq.2.2.2.2.1)))), (yr 26, .inl (cT 3, 496, .inl (upd kd nd (vp_nar .boolean (ik c1)))))] _ := hP
  have hD : va_D A [(y, .inr (11, MO yr yi ysb ybs)), (yr 0, .inl (cT 0, 19, .inl fp)), (yr 44, .inl (cT 0, 19, .inl gc)), (yr 6, .inl (cT 3, 6, .inl ik)), (yr 36, .inl (cT 0, 302, .inl fb)), (yr 27, .inl (cT 0, 65472, .inl up)), (yr 28, .inl (cT 0, 9424, .inl lw)), (yr 40, .inl (cT 0, 19, .inl t2)), (yr 19, .inl (cT 0, 496, .inl (upd nc nd bq.2.2.1))), (yr 20, .inl (cT 0, 496, .inl (upd ed nd bq.2.2.2.1))), (yr 21, .inl (cT 3, 496, .inl (upd tl nd (vp_nar .boolean bq.2.2.2.2.1)))), (yr 26, .inl (cT 3, 496, .inl (upd kd nd (vp_nar .boolean (ik c1)))))] := hD
  refine lv_iconst (v := 0) hx hb dM_split_45 (by decide) ?_
  refine lv_istore_n hx hb dM_split_46 rfl hl (by decide) rfl (fun ls hl => ?_)
  have hl : lv_has ls 3 [(2, .int 0), (0, .ref y), (1, .int (nI nd))] := hl
  refine lp_w (α := Nat × (Nat → Int32)) (fun a9 => a9.1 ≤ 19 ∧ (∀ q, q < a9.1 → a9.2 q = nI (2 * dg gc q))) (fun a9 => 19 - a9.1) (fun a9 => [(0, .ref y), (1, .int (nI nd)), (2, .int (nI a9.1))]) (fun a9 => [(y, .inr (11, MO yr yi ysb ybs)), (yr 0, .inl (cT 0, 19, .inl fp)), (yr 44, .inl (cT 0, 19, .inl gc)), (yr 6, .inl (cT 3, 6, .inl ik)), (yr 36, .inl (cT 0, 302, .inl fb)), (yr 27, .inl (cT 0, 65472, .inl up)), (yr 28, .inl (cT 0, 9424, .inl lw)), (yr 40, .inl (cT 0, 19, .inl a9.2)), (yr 19, .inl (cT 0, 496, .inl (upd nc nd bq.2.2.1))), (yr 20, .inl (cT 0, 496, .inl (upd ed nd bq.2.2.2.1))), (yr 21, .inl (cT 3, 496, .inl (upd tl nd (vp_nar .boolean bq.2.2.2.2.1)))), (yr 26, .inl (cT 3, 496, .inl (upd kd nd (vp_nar .boolean (ik c1)))))]) 47 ?_ (0, t2) (show 0 ≤ 19 ∧ (∀ q, q < 0 → t2 q = nI (2 * dg gc q)) from ⟨by omega, fun q h => absurd h (by omega)⟩) (lv_sub hl [1, 2, 0] rfl) hP hD hS
  intro a9 hI47 ih47 ls H locs hl hP hD hS
  obtain ⟨k, g⟩ := a9
  have hI47 : k ≤ 19 ∧ (∀ q, q < k → g q = nI (2 * dg gc q)) := hI47
  obtain ⟨ik9, ig⟩ := hI47
  have hl : lv_has ls 3 [(0, .ref y), (1, .int (nI nd)), (2, .int (nI k))] := hl
  have hP : va_P D vwCl [(y, .inr (11, MO yr yi ysb ybs)), (yr 0, .inl (cT 0, 19, .inl fp)), (yr 44, .inl (cT 0, 19, .inl gc)), (yr 6, .inl (cT 3, 6, .inl ik)), (yr 36, .inl (cT 0, 302, .inl fb)), (yr 27, .inl (cT 0, 65472, .inl up)), (yr 28, .inl (cT 0, 9424, .inl lw)), (yr 40, .inl (cT 0, 19, .inl g)), (yr 19, .inl (cT 0, 496, .inl (upd nc nd bq.2.2.1))), (yr 20, .inl (cT 0, 496, .inl (upd ed nd bq.2.2.2.1))), (yr 21, .inl (cT 3, 496, .inl (upd tl nd (vp_nar .boolean bq.2.2.2.2.1)))), (yr 26, .inl (cT 3, 496, .inl (upd kd nd (vp_nar .boolean (ik c1)))))] _ := hP
  have hD : va_D A [(y, .inr (11, MO yr yi ysb ybs)), (yr 0, .inl (cT 0, 19, .inl fp)), (yr 44, .inl (cT 0, 19, .inl gc)), (yr 6, .inl (cT 3, 6, .inl ik)), (yr 36, .inl (cT 0, 302, .inl fb)), (yr 27, .inl (cT 0, 65472, .inl up)), (yr 28, .inl (cT 0, 9424, .inl lw)), (yr 40, .inl (cT 0, 19, .inl g)), (yr 19, .inl (cT 0, 496, .inl (upd nc nd bq.2.2.1))), (yr 20, .inl (cT 0, 496, .inl (upd ed nd bq.2.2.2.1))), (yr 21, .inl (cT 3, 496, .inl (upd tl nd (vp_nar .boolean bq.2.2.2.2.1)))), (yr 26, .inl (cT 3, 496, .inl (upd kd nd (vp_nar .boolean (ik c1)))))] := hD
  refine lv_iload_n hx hb dM_split_47 rfl (lv_at hl 2 rfl) ?_
  refine lv_bipush (v := 19) hx hb dM_split_48 (by decide) ?_
  refine lv_icmp_ge (tgt := 73) hx hb dM_split_50 rfl (fun h1 => ?_) (fun h1 => ?_)
  · have gh1 : 19 ≤ k := (nI_leI (a := 19) (b := k) (by omega) (by omega)).mp h1
    have ek : k = 19 := by omega
    subst ek
    have ig2 : ∀ q, q < 19 → dg g q = 2 * dg gc q := fun q hq => dg_nI (ig q hq) (by have := (hL q hq).2; omega)
    have L73 : LOK g (2 * bb) := fun q hq => ⟨by rw [ig2 q hq]; exact ig q hq, by rw [ig2 q hq]; have := (hL q hq).2; omega⟩
    have D73 : dn g = dn gc * dn gc := dnk_sq (fun q hq => ig2 q hq)
    refine lv_aload_n hx hb dM_split_73 rfl (lv_at hl 0 rfl) ?_
    refine lv_aload_n hx hb dM_split_74 rfl (lv_at hl 0 rfl) ?_
    refine va_get (D := D) (ci := 11) (v := .ref (yr 40)) (C := R_M) (T := T_M) (N := 60) hx hb hT in_M hown hK hP 0 rfl rfl 40 (by decide) (hT _ w1144) (fun _ h9 => h9) rfl dM_split_75 ?_
    refine lv_aload_n hx hb dM_split_78 rfl (lv_at hl 0 rfl) ?_
    refine va_get (D := D) (ci := 11) (v := .int (yi 50)) (C := R_M) (T := T_M) (N := 60) hx hb hT in_M hown hK hP 0 rfl rfl 50 (by decide) (hT _ w1154) (fun _ h9 => h9) rfl dM_split_79 ?_
    refine lv_topi (fun y9 e9 => ?_)
    cases (show y9 = nI bq.2.1 from e9.trans b5)
    refine rw_v (wc := [(y, .inr (11, MO yr yi ysb ybs)), (yr 0, .inl (cT 0, 19, .inl fp)), (yr 40, .inl (cT 0, 19, .inl g))]) (wr := [(yr 44, .inl (cT 0, 19, .inl gc)), (yr 6, .inl (cT 3, 6, .inl ik)), (yr 36, .inl (cT 0, 302, .inl fb)), (yr 27, .inl (cT 0, 65472, .inl up)), (yr 28, .inl (cT 0, 9424, .inl lw)), (yr 19, .inl (cT 0, 496, .inl (upd nc nd bq.2.2.1))), (yr 20, .inl (cT 0, 496, .inl (upd ed nd bq.2.2.2.1))), (yr 21, .inl (cT 3, 496, .inl (upd tl nd (vp_nar .boolean bq.2.2.2.2.1)))), (yr 26, .inl (cT 3, 496, .inl (upd kd nd (vp_nar .boolean (ik c1)))))]) hP hD hS hA [0, 1, 7] [2, 3, 4, 5, 6, 8, 9, 10, 11] rfl rfl (by decide) (by decide) (va_runV (As := [.ref (yr 40), .int (nI bq.2.1)]) (rest := []) ⟨hx, hb, hml, hown, hT⟩ (m_under l D cT y yr yi ysb ybs fp (yr 40) g (2 * bb) bq.2.1 hPR L73 (by omega) b3 (by omega) _) ⟨callB_of 2 hT (tb_gd w1511) rfl rfl rfl (hT _ w13) (hT _ w1508) hM_under ⟨Nat.le_of_ble_eq_true rfl, Nat.le_of_ble_eq_true rfl⟩, (hT _ w1510), (hT _ wp56)⟩ (RW.preV (ci := 11) (q0 := 0) hZ hS (va_free (wc := [(y, .inr (11, MO yr yi ysb ybs)), (yr 0, .inl (cT 0, 19, .inl fp)), (yr 40, .inl (cT 0, 19, .inl g))]) hD hS hA [0, 1, 7] rfl) (hP.sub (ws' := [(y, .inr (11, MO yr yi ysb ybs)), (yr 0, .inl (cT 0, 19, .inl fp)), (yr 40, .inl (cT 0, 19, .inl g))]) [0, 1, 7] rfl) hK (hD.sub (ws' := [(y, .inr (11, MO yr yi ysb ybs)), (yr 0, .inl (cT 0, 19, .inl fp)), (yr 40, .inl (cT 0, 19, .inl g))]) [0, 1, 7] (by decide) rfl) rfl rfl) rfl rfl hl.1 rfl (lv_room (Nat.le_of_ble_eq_true rfl)) dM_split_82 ⟨Nat.le_of_ble_eq_true rfl, Nat.le_of_ble_eq_true rfl⟩) (fun u9 H locs hpu2 hP hD hS => ?_)
    obtain ⟨x9u2, g9u2⟩ := u9
    have hpu2 : 0 < x9u2 ∧ LOK g9u2 ((2 * bb) + 20) ∧ (∀ q8, q8 < 19 → ¬ x9u2 % pr q8 = 0) ∧ dn g9u2 * x9u2 = dn g * bq.2.1 := hpu2
    have hP : va_P D vwCl [(yr 44, .inl (cT 0, 19, .inl gc)), (yr 6, .inl (cT 3, 6, .inl ik)), (yr 36, .inl (cT 0, 302, .inl fb)), (yr 27, .inl (cT 0, 65472, .inl up)), (yr 28, .inl (cT 0, 9424, .inl lw)), (yr 19, .inl (cT 0, 496, .inl (upd nc nd bq.2.2.1))), (yr 20, .inl (cT 0, 496, .inl (upd ed nd bq.2.2.2.1))), (yr 21, .inl (cT 3, 496, .inl (upd tl nd (vp_nar .boolean bq.2.2.2.2.1)))), (yr 26, .inl (cT 3, 496, .inl (upd kd nd (vp_nar .boolean (ik c1))))), (y, .inr (11, MO yr yi ysb ybs)), (yr 0, .inl (cT 0, 19, .inl fp)), (yr 40, .inl (cT 0, 19, .inl g9u2))] _ := hP
    have hD : va_D A [(yr 44, .inl (cT 0, 19, .inl gc)), (yr 6, .inl (cT 3, 6, .inl ik)), (yr 36, .inl (cT 0, 302, .inl fb)), (yr 27, .inl (cT 0, 65472, .inl up)), (yr 28, .inl (cT 0, 9424, .inl lw)), (yr 19, .inl (cT 0, 496, .inl (upd nc nd bq.2.2.1))), (yr 20, .inl (cT 0, 496, .inl (upd ed nd bq.2.2.2.1))), (yr 21, .inl (cT 3, 496, .inl (upd tl nd (vp_nar .boolean bq.2.2.2.2.1)))), (yr 26, .inl (cT 3, 496, .inl (upd kd nd (vp_nar .boolean (ik c1))))), (y, .inr (11, MO yr yi ysb ybs)), (yr 0, .inl (cT 0, 19, .inl fp)), (yr 40, .inl (cT 0, 19, .inl g9u2))] := hD
    obtain ⟨y1, y2, y3, y4⟩ := hpu2
    have y5 : x9u2 = 1 := und_1 (a := p1) (b := p2) (c := p3) r2 r4 r6 r1 r3 r5 y3 g9u2 rfl (by rw [← r7]; exact y4) ⟨_, rfl⟩
    rw [y5, Nat.mul_one, D73] at y4
    refine lv_aload_n hx hb dM_split_85 rfl (lv_at hl 0 rfl) ?_
    refine lv_iload_n hx hb dM_split_86 rfl (lv_at hl 1 rfl) ?_
    refine lv_aload_n hx hb dM_split_87 rfl (lv_at hl 0 rfl) ?_
    refine va_get (D := D) (ci := 11) (v := .ref (yr 36)) (C := R_M) (T := T_M) (N := 60) hx hb hT in_M hown hK hP 9 rfl rfl 36 (by decide) (hT _ w1140) (fun _ h9 => h9) rfl dM_split_88 ?_
    refine rw_v (wc := [(y, .inr (11, MO yr yi ysb ybs)), (yr 0, .inl (cT 0, 19, .inl fp)), (yr 27, .inl (cT 0, 65472, .inl up)), (yr 28, .inl (cT 0, 9424, .inl lw)), (yr 40, .inl (cT 0, 19, .inl g9u2)), (yr 36, .inl (cT 0, 302, .inl fb))]) (wr := [(yr 44, .inl (cT 0, 19, .inl gc)), (yr 6, .inl (cT 3, 6, .inl ik)), (yr 19, .inl (cT 0, 496, .inl (upd nc nd bq.2.2.1))), (yr 20, .inl (cT 0, 496, .inl (upd ed nd bq.2.2.2.1))), (yr 21, .inl (cT 3, 496, .inl (upd tl nd (vp_nar .boolean bq.2.2.2.2.1)))), (yr 26, .inl (cT 3, 496, .inl (upd kd nd (vp_nar .boolean (ik c1)))))]) hP hD hS hA [9, 10, 3, 4, 11, 2] [0, 1, 5, 6, 7, 8] rfl rfl (by decide) (by decide) (va_runV (As := [.int (nI nd), .ref (yr 36)]) (rest := []) ⟨hx, hb, hml, hown, hT⟩ (m_keep l D cT y yr yi ysb ybs fp up lw g9u2 nd (2 * bb + 20) XG DG (yr 36) fb bq.1 hPR b1 y2 (by omega) hnd (Nat.lt_of_le_of_lt b2 hf130) (by rw [y4]; exact hXG) _) ⟨callB_of 2 hT (tb_gd w1515) rfl rfl rfl (hT _ w13) (hT _ w1512) hM_keep ⟨Nat.le_of_ble_eq_true rfl, Nat.le_of_ble_eq_true rfl⟩, (hT _ w1514), (hT _ wp57)⟩ (RW.preV (ci := 11) (q0 := 0) hZ hS (va_free (wc := [(y, .inr (11, MO yr yi ysb ybs)), (yr 0, .inl (cT 0, 19, .inl fp)), (yr 27, .inl (cT 0, 65472, .inl up)), (yr 28, .inl (cT 0, 9424, .inl lw)), (yr 40, .inl (cT 0, 19, .inl g9u2)), (yr 36, .inl (cT 0, 302, .inl fb))]) hD hS hA [9, 10, 3, 4, 11, 2] rfl) (hP.sub (ws' := [(y, .inr (11, MO yr yi ysb ybs)), (yr 0, .inl (cT 0, 19, .inl fp)), (yr 27, .inl (cT 0, 65472, .inl up)), (yr 28, .inl (cT 0, 9424, .inl lw)), (yr 40, .inl (cT 0, 19, .inl g9u2)), (yr 36, .inl (cT 0, 302, .inl fb))]) [9, 10, 3, 4, 11, 2] rfl) hK (hD.sub (ws' := [(y, .inr (11, MO yr yi ysb ybs)), (yr 0, .inl (cT 0, 19, .inl fp)), (yr 27, .inl (cT 0, 65472, .inl up)), (yr 28, .inl (cT 0, 9424, .inl lw)), (yr 40, .inl (cT 0, 19, .inl g9u2)), (yr 36, .inl (cT 0, 302, .inl fb))]) [9, 10, 3, 4, 11, 2] (by decide) rfl) rfl rfl) rfl rfl hl.1 rfl (lv_room (Nat.le_of_ble_eq_true rfl)) dM_split_91 ⟨Nat.le_of_ble_eq_true rfl, Nat.le_of_ble_eq_true rfl⟩) (fun u9 H locs hpu3 hP hD hS => ?_)
    obtain ⟨f9u3, g9u3, up9u3, lw9u3⟩ := u9
    have hpu3 : NF up9u3 lw9u3 (2 * bb + 20) nd XG DG ∧ (∀ q8, q8 < 132 * nd ∨ 132 * nd + 132 ≤ q8 → up9u3 q8 = up q8) ∧ ∀ q8, q8 < 19 * nd ∨ 19 * nd + 19 ≤ q8 → lw9u3 q8 = lw q8 := hpu3
    have hP : va_P D vwCl [(yr 44, .inl (cT 0, 19, .inl gc)), (yr 6, .inl (cT 3, 6, .inl ik)), (yr 19, .inl (cT 0, 496, .inl (upd nc nd bq.2.2.1))), (yr 20, .inl (cT 0, 496, .inl (upd ed nd bq.2.2.2.1))), (yr 21, .inl (cT 3, 496, .inl (upd tl nd (vp_nar .boolean bq.2.2.2.2.1)))), (yr 26, .inl (cT 3, 496, .inl (upd kd nd (vp_nar .boolean (ik c1))))), (y, .inr (11, MO yr yi ysb ybs)), (yr 0, .inl (cT 0, 19, .inl fp)), (yr 27, .inl (cT 0, 65472, .inl up9u3)), (yr 28, .inl (cT 0, 9424, .inl lw9u3)), (yr 40, .inl (cT 0, 19, .inl g9u3)), (yr 36, .inl (cT 0, 302, .inl f9u3))] _ := hP
    have hD : va_D A [(yr 44, .inl (cT 0, 19, .inl gc)), (yr 6, .inl (cT 3, 6, .inl ik)), (yr 19, .inl (cT 0, 496, .inl (upd nc nd bq.2.2.1))), (yr 20, .inl (cT 0, 496, .inl (upd ed nd bq.2.2.2.1))), (yr 21, .inl (cT 3, 496, .inl (upd tl nd (vp_nar .boolean bq.2.2.2.2.1)))), (yr 26, .inl (cT 3, 496, .inl (upd kd nd (vp_nar .boolean (ik c1))))), (y, .inr (11, MO yr yi ysb ybs)), (yr 0, .inl (cT 0, 19, .inl fp)), (yr 27, .inl (cT 0, 65472, .inl up9u3)), (yr 28, .inl (cT 0, 9424, .inl lw9u3)), (yr 40, .inl (cT 0, 19, .inl g9u3)), (yr 36, .inl (cT 0, 302, .inl f9u3))] := hD
    have hP9 := hP.sub (ws' := [(y, .inr (11, MO yr yi ysb ybs)), (yr 0, .inl (cT 0, 19, .inl fp)), (yr 44, .inl (cT 0, 19, .inl gc)), (yr 6, .inl (cT 3, 6, .inl ik)), (yr 36, .inl (cT 0, 302, .inl f9u3)), (yr 27, .inl (cT 0, 65472, .inl up9u3)), (yr 28, .inl (cT 0, 9424, .inl lw9u3)), (yr 40, .inl (cT 0, 19, .inl g9u3)), (yr 19, .inl (cT 0, 496, .inl (upd nc nd bq.2.2.1))), (yr 20, .inl (cT 0, 496, .inl (upd ed nd bq.2.2.2.1))), (yr 21, .inl (cT 3, 496, .inl (upd tl nd (vp_nar .boolean bq.2.2.2.2.1)))), (yr 26, .inl (cT 3, 496, .inl (upd kd nd (vp_nar .boolean (ik c1)))))]) [6, 7, 0, 1, 11, 8, 9, 10, 2, 3, 4, 5] rfl
    have hD9 := hD.sub (ws' := [(y, .inr (11, MO yr yi ysb ybs)), (yr 0, .inl (cT 0, 19, .inl fp)), (yr 44, .inl (cT 0, 19, .inl gc)), (yr 6, .inl (cT 3, 6, .inl ik)), (yr 36, .inl (cT 0, 302, .inl f9u3)), (yr 27, .inl (cT 0, 65472, .inl up9u3)), (yr 28, .inl (cT 0, 9424, .inl lw9u3)), (yr 40, .inl (cT 0, 19, .inl g9u3)), (yr 19, .inl (cT 0, 496, .inl (upd nc nd bq.2.2.1))), (yr 20, .inl (cT 0, 496, .inl (upd ed nd bq.2.2.2.1))), (yr 21, .inl (cT 3, 496, .inl (upd tl nd (vp_nar .boolean bq.2.2.2.2.1)))), (yr 26, .inl (cT 3, 496, .inl (upd kd nd (vp_nar .boolean (ik c1)))))]) [6, 7, 0, 1, 11, 8, 9, 10, 2, 3, 4, 5] (by decide) rfl
    refine W.widen (k := 0) (n := 0) (Nat.le_of_ble_eq_true rfl) (Nat.le_of_ble_eq_true rfl) ?_
    exact W.vret hx hb hr (fun t9 ht9 hW9 => ⟨⟨(up9u3, lw9u3, f9u3, g9u3, ik c1), rfl, (show (∃ c8, c8 < 6 ∧ bq.2.2.1 = nI c8 ∧ (ik c1) = ik c8) ∧ NF up9u3 lw9u3 (2 * bb + 20) nd XG DG ∧ (∀ q8, q8 < 132 * nd ∨ 132 * nd + 132 ≤ q8 → up9u3 q8 = up q8) ∧ ∀ q8, q8 < 19 * nd ∨ 19 * nd + 19 ≤ q8 → lw9u3 q8 = lw q8 from ⟨⟨c1, hc1, hc2, rfl⟩, hpu3⟩), by rw [ht9]; exact hP9, hD9⟩, hS.F ht9⟩) hS.2.2 dM_split_94
  · have gh1 : k < 19 := Nat.not_le.mp (fun q => h1 ((nI_leI (a := 19) (b := k) (by omega) (by omega)).mpr q))
    have hgk := hL k (by omega)
    refine lv_aload_n hx hb dM_split_53 rfl (lv_at hl 0 rfl) ?_
    refine va_get (D := D) (ci := 11) (v := .ref (yr 40)) (C := R_M) (T := T_M) (N := 60) hx hb hT in_M hown hK hP 0 rfl rfl 40 (by decide) (hT _ w1144) (fun _ h9 => h9) rfl dM_split_54 ?_
    refine lv_iload_n hx hb dM_split_57 rfl (lv_at hl 2 rfl) ?_
    refine lv_iconst (v := 2) hx hb dM_split_58 (by decide) ?_
    refine lv_aload_n hx hb dM_split_59 rfl (lv_at hl 0 rfl) ?_
    refine va_get (D := D) (ci := 11) (v := .ref (yr 44)) (C := R_M) (T := T_M) (N := 60) hx hb hT in_M hown hK hP 0 rfl rfl 44 (by decide) (hT _ w1148) (fun _ h9 => h9) rfl dM_split_60 ?_
    refine lv_iload_n hx hb dM_split_63 rfl (lv_at hl 2 rfl) ?_
    refine lq_iald (j := k) hx hb hK hP 2 0 rfl rfl rfl (by omega) (by omega) dM_split_64 ?_
    refine lv_topi (fun y9 e9 => ?_)
    cases (show y9 = nI (dg gc k) from e9.trans hgk.1)
    refine lv_imul hx hb dM_split_65 ?_
    refine lv_topi (fun y9 e9 => ?_)
    cases (show y9 = nI (2 * (dg gc k)) from e9.trans (pk_mul 2 (dg gc k)))
    refine lq_iast (j := k) hx hb hK hP hD hS 7 0 rfl rfl rfl (by omega) (by omega) dM_split_66 (fun H locs hP hD hS => ?_)
    have hP : va_P D vwCl [(y, .inr (11, MO yr yi ysb ybs)), (yr 0, .inl (cT 0, 19, .inl fp)), (yr 44, .inl (cT 0, 19, .inl gc)), (yr 6, .inl (cT 3, 6, .inl ik)), (yr 36, .inl (cT 0, 302, .inl fb)), (yr 27, .inl (cT 0, 65472, .inl up)), (yr 28, .inl (cT 0, 9424, .inl lw)), (yr 40, .inl (cT 0, 19, .inl (upd g k (nI (2 * (dg gc k)))))), (yr 19, .inl (cT 0, 496, .inl (upd nc nd bq.2.2.1))), (yr 20, .inl (cT 0, 496, .inl (upd ed nd bq.2.2.2.1))), (yr 21, .inl (cT 3, 496, .inl (upd tl nd (vp_nar .boolean bq.2.2.2.2.1)))), (yr 26, .inl (cT 3, 496, .inl (upd kd nd (vp_nar .boolean (ik c1)))))] _ := hP
    have hD : va_D A [(y, .inr (11, MO yr yi ysb ybs)), (yr 0, .inl (cT 0, 19, .inl fp)), (yr 44, .inl (cT 0, 19, .inl gc)), (yr 6, .inl (cT 3, 6, .inl ik)), (yr 36, .inl (cT 0, 302, .inl fb)), (yr 27, .inl (cT 0, 65472, .inl up)), (yr 28, .inl (cT 0, 9424, .inl lw)), (yr 40, .inl (cT 0, 19, .inl (upd g k (nI (2 * (dg gc k)))))), (yr 19, .inl (cT 0, 496, .inl (upd nc nd bq.2.2.1))), (yr 20, .inl (cT 0, 496, .inl (upd ed nd bq.2.2.2.1))), (yr 21, .inl (cT 3, 496, .inl (upd tl nd (vp_nar .boolean bq.2.2.2.2.1)))), (yr 26, .inl (cT 3, 496, .inl (upd kd nd (vp_nar .boolean (ik c1)))))] := hD
    refine lv_iinc (k := 2) (v := nI (k + 1)) hx hb dM_split_67 hl rfl (nI_1 k) (by decide) rfl (fun ls hl => ?_)
    have hl : lv_has ls 3 [(2, .int (nI (k + 1))), (0, .ref y), (1, .int (nI nd))] := hl
    refine lv_goto (tgt := 47) hx hb dM_split_70 rfl ?_
    exact ih47 (k + 1, upd g k (nI (2 * dg gc k))) (show (k + 1) ≤ 19 ∧ (∀ q, q < (k + 1) → (upd g k (nI (2 * dg gc k))) q = nI (2 * dg gc q)) from ⟨by omega, fun q h => (by by_cases r : q = k; (subst r; exact pk_us); (exact (pk_un r).trans (ig q (by omega))))⟩) (show 19 - (k + 1) < 19 - k from (by omega)) ls H locs (lv_sub hl [1, 2, 0] rfl) hP hD hS
