/-! The reference's search: what a split is worth. -/
/-- gain of a split, over gU: both sides' sums, their rows and weight, all rows and weight -/
def gZ (sl sr : Int) (lw rw nw : Nat) : Int := sl * sl * ((rw * nw : Nat) : Int) + sr * sr * ((lw * nw : Nat) : Int) - (sl + sr) * (sl + sr) * ((lw * rw : Nat) : Int)
/-- the best so far: gain, under, column, edge, missing to the left, side -/
abbrev BST : Type := Int × Nat × Int32 × Int32 × Int32 × Int64
def wgh (zr : Nat → Int) (n w lst : Nat) (A : Int64) (b : BST) (S : Int64) (cc ee ml : Int32) : BST :=
  if cb S < lst ∨ cb (A &&& (S ^^^ (-1))) < lst then b
  else if b.1 * (((cb S + w) * (cb (A &&& (S ^^^ (-1))) + w) * (cb S + cb (A &&& (S ^^^ (-1))) + w) : Nat) : Int) < gZ (smv zr S n) (smv zr (A &&& (S ^^^ (-1))) n) (cb S + w) (cb (A &&& (S ^^^ (-1))) + w) (cb S + cb (A &&& (S ^^^ (-1))) + w) * (b.2.1 : Int) then
    (gZ (smv zr S n) (smv zr (A &&& (S ^^^ (-1))) n) (cb S + w) (cb (A &&& (S ^^^ (-1))) + w) (cb S + cb (A &&& (S ^^^ (-1))) + w), (cb S + w) * (cb (A &&& (S ^^^ (-1))) + w) * (cb S + cb (A &&& (S ^^^ (-1))) + w), cc, ee, ml, S)
  else b
/-- the best so far as the reference's object holds it -/
def BSF (yi : Nat → Int32) (bs : Int64) (fb : Nat → Int32) (b : BST) (GB : Nat) : Prop := MN fb b.1 ∧ b.1.natAbs ≤ GB ∧ 0 < b.2.1 ∧ b.2.1 ≤ 314432 ∧ yi 50 = nI b.2.1 ∧ (¬ b.1 = 0 → yi 51 = b.2.2.1 ∧ yi 52 = b.2.2.2.1 ∧ yi 53 = b.2.2.2.2.1 ∧ bs = b.2.2.2.2.2)
def YKP (yi yi' : Nat → Int32) : Prop := ∀ k, k ≠ 50 → k ≠ 51 → k ≠ 52 → k ≠ 53 → yi' k = yi k
theorem fitm {a d Q : Nat} (h1 : a ≤ Q) (h2 : d ≤ 1000000) (hQ : Q * 1000000000000 < 268435456 ^ 130) : a * d < 268435456 ^ 250 := by
  have a1 := Nat.mul_le_mul h1 h2
  have c : 268435456 ^ 130 ≤ 268435456 ^ 250 := Nat.pow_le_pow_right (by decide) (by decide)
  have a2 : Q * 1000000 ≤ Q * 1000000000000 := Nat.mul_le_mul_left _ (by decide)
  exact Nat.lt_of_lt_of_le (Nat.lt_of_le_of_lt (Nat.le_trans a1 a2) hQ) c
theorem fit1 {a Q m : Nat} (h1 : a ≤ Q * m) (h2 : m ≤ 1000000000000) (hQ : Q * 1000000000000 < 268435456 ^ 130) : a < 268435456 ^ 130 := Nat.lt_of_le_of_lt (Nat.le_trans h1 (Nat.mul_le_mul_left _ h2)) hQ
theorem up250 {a : Nat} (h : a < 268435456 ^ 130) : a < 268435456 ^ 250 := Nat.lt_of_lt_of_le h (Nat.pow_le_pow_right (by decide) (by decide))
theorem nbm {x : Int} {d Q D : Nat} (h : x.natAbs ≤ Q) (hd : d ≤ D) : (x * (d : Int)).natAbs ≤ Q * D := by
  rw [Int.natAbs_mul, Int.natAbs_natCast]
  exact Nat.mul_le_mul h hd
theorem nbq {x : Int} {S : Nat} (h : x.natAbs ≤ S) : (x * x).natAbs ≤ S * S := by
  rw [Int.natAbs_mul]
  exact Nat.mul_le_mul h h
theorem m68 {a b : Nat} (ha : a ≤ 68) (hb : b ≤ 68) : a * b ≤ 4624 := Nat.mul_le_mul ha hb
theorem m683 {a b c : Nat} (ha : a ≤ 68) (hb : b ≤ 68) (hc : c ≤ 68) : a * b * c ≤ 314432 := Nat.mul_le_mul (Nat.mul_le_mul ha hb) hc
theorem cz_le0 {x y : Int} : cz x y ≤ 0 ↔ ¬ y < x := by
  rcases (show x < y ∨ x = y ∨ y < x by omega) with h | h | h
  · rw [cz_lt h]; exact ⟨fun _ => by omega, fun _ => by decide⟩
  · rw [cz_rf h]; exact ⟨fun _ => by omega, fun _ => by decide⟩
  · rw [cz_gt h]; exact ⟨fun q => absurd q (by decide), fun q => absurd h q⟩
theorem fitm2 {a d Q : Nat} (h1 : a ≤ Q * 20000) (h2 : d ≤ 1000000) (hQ : Q * 1000000000000 < 268435456 ^ 130) : a * d < 268435456 ^ 250 := by
  have a1 := Nat.mul_le_mul h1 h2
  have c : 268435456 ^ 130 ≤ 268435456 ^ 250 := Nat.pow_le_pow_right (by decide) (by decide)
  have a2 : Q * 20000 * 1000000 ≤ Q * 1000000000000 := by rw [Nat.mul_assoc]; exact Nat.mul_le_mul_left _ (by decide)
  exact Nat.lt_of_lt_of_le (Nat.lt_of_le_of_lt (Nat.le_trans a1 a2) hQ) c
set_option maxHeartbeats 4000000 in
set_option maxRecDepth 100000 in
theorem m_weigh (l : Launch) (D : va_G) (cT : Nat → ClassId) (y : Nat) (yr : Nat → Nat) (yi : Nat → Int32) (ysb : Int64) (ybs : Int64) (n : Nat) (w : Nat) (lst : Nat) (zr : Nat → Int) (ZB : Nat) (fr : Nat → Int32) (AA : Int64) (fb : Nat → Int32) (k0 : Nat → Int32) (k1 : Nat → Int32) (k2 : Nat → Int32) (k3 : Nat → Int32) (k4 : Nat → Int32) (k5 : Nat → Int32) (k6 : Nat → Int32) (b : BST) (S : Int64) (pc1 : Int32) (pe1 : Int32) (pm1 : Int32) (hn : yi 3 = nI n) (hn2 : n ≤ 48) (hw9 : yi 12 = nI w) (hw20 : w ≤ 20) (hls : yi 11 = nI lst) (hls2 : 1 ≤ lst ∧ lst ≤ 24) (hM : ∀ k, k < n → MR fr (132 * k) (zr k)) (hZB : ∀ k, k < n → (zr k).natAbs ≤ ZB) (hzf : 100 * ZB < 268435456 ^ 250) (hfit : (100 * ZB) * (100 * ZB) * 1000000000000 < 268435456 ^ 130) (hB : BSF yi ybs fb b ((100 * ZB) * (100 * ZB) * 20000)) (hcl : cb S + cb (AA &&& (S ^^^ (-1))) ≤ 48) (hml9 : pm1 = 0 ∨ pm1 = 1) (sz : Nat) : Met l yM_weigh WM_weigh ({ frames := 4, cells := 0, slots := 0, locals := 98 } : Room) (RW D vwCl [.ref y, .long AA, .long S, .int pc1, .int pe1, .int pm1] [(y, .inr (11, MO yr yi ysb ybs)), (yr 45, .inl (cT 0, 6336, .inl fr)), (yr 36, .inl (cT 0, 302, .inl fb)), (yr 30, .inl (cT 0, 302, .inl k0)), (yr 33, .inl (cT 0, 302, .inl k1)), (yr 34, .inl (cT 0, 302, .inl k2)), (yr 32, .inl (cT 0, 302, .inl k3)), (yr 35, .inl (cT 0, 302, .inl k4)), (yr 31, .inl (cT 0, 302, .inl k5)), (yr 39, .inl (cT 0, 302, .inl k6))] (TY cT) sz) (va_Qv (fun u9 : BST × (Nat → Int32) × Int64 × (Nat → Int32) × (Nat → Int32) × (Nat → Int32) × (Nat → Int32) × (Nat → Int32) × (Nat → Int32) × (Nat → Int32) × (Nat → Int32) => u9.1 = wgh zr n w lst AA b S pc1 pe1 pm1 ∧ BSF u9.2.1 u9.2.2.1 u9.2.2.2.1 u9.1 ((100 * ZB) * (100 * ZB) * 20000) ∧ YKP yi u9.2.1) (BW D vwCl (va_A [(y, .inr (11, MO yr yi ysb ybs)), (yr 45, .inl (cT 0, 6336, .inl fr)), (yr 36, .inl (cT 0, 302, .inl fb)), (yr 30, .inl (cT 0, 302, .inl k0)), (yr 33, .inl (cT 0, 302, .inl k1)), (yr 34, .inl (cT 0, 302, .inl k2)), (yr 32, .inl (cT 0, 302, .inl k3)), (yr 35, .inl (cT 0, 302, .inl k4)), (yr 31, .inl (cT 0, 302, .inl k5)), (yr 39, .inl (cT 0, 302, .inl k6))] sz) (fun u9 : BST × (Nat → Int32) × Int64 × (Nat → Int32) × (Nat → Int32) × (Nat → Int32) × (Nat → Int32) × (Nat → Int32) × (Nat → Int32) × (Nat → Int32) × (Nat → Int32) => [(y, .inr (11, MO yr u9.2.1 ysb u9.2.2.1)), (yr 45, .inl (cT 0, 6336, .inl fr)), (yr 36, .inl (cT 0, 302, .inl u9.2.2.2.1)), (yr 30, .inl (cT 0, 302, .inl u9.2.2.2.2.1)), (yr 33, .inl (cT 0, 302, .inl u9.2.2.2.2.2.1)), (yr 34, .inl (cT 0, 302, .inl u9.2.2.2.2.2.2.1)), (yr 32, .inl (cT 0, 302, .inl u9.2.2.2.2.2.2.2.1)), (yr 35, .inl (cT 0, 302, .inl u9.2.2.2.2.2.2.2.2.1)), (yr 31, .inl (cT 0, 302, .inl u9.2.2.2.2.2.2.2.2.2.1)), (yr 39, .inl (cT 0, 302, .inl u9.2.2.2.2.2.2.2.2.2.2))])) (va_A [(y, .inr (11, MO yr yi ysb ybs)), (yr 45, .inl (cT 0, 6336, .inl fr)), (yr 36, .inl (cT 0, 302, .inl fb)), (yr 30, .inl (cT 0, 302, .inl k0)), (yr 33, .inl (cT 0, 302, .inl k1)), (yr 34, .inl (cT 0, 302, .inl k2)), (yr 32, .inl (cT 0, 302, .inl k3)), (yr 35, .inl (cT 0, 302, .inl k4)), (yr 31, .inl (cT 0, 302, .inl k5)), (yr 39, .inl (cT 0, 302, .inl k6))] sz)) 0 0 (va_A [(y, .inr (11, MO yr yi ysb ybs)), (yr 45, .inl (cT 0, 6336, .inl fr)), (yr 36, .inl (cT 0, 302, .inl fb)), (yr 30, .inl (cT 0, 302, .inl k0)), (yr 33, .inl (cT 0, 302, .inl k1)), (yr 34, .inl (cT 0, 302, .inl k2)), (yr 32, .inl (cT 0, 302, .inl k3)), (yr 35, .inl (cT 0, 302, .inl k4)), (yr 31, .inl (cT 0, 302, .inl k5)), (yr 39, .inl (cT 0, 302, .inl k6))] sz) := by
  refine Met.ofW (cc := cM_weigh) (maxL := 13) (ret := none) (by decide) rfl ?_
  intro p e s m args below meth c s₁ B hml hv
  obtain ⟨rfl, hsz, hZ, hP, hK, hD0⟩ := hv
  have hx := B.exec
  have hb := B.bytes
  have hr := B.returns
  have hts := atoms_spec (ws := WM_weigh) B.pre
  have hT : ∀ w ∈ TB, w.before _ s = true := fun w h => hts w (List.mem_cons_of_mem _ h)
  have hown : s.vm.findClass R_M = some m.cls := findClass_of_methodNamed B.named
  have hlocks := B.notSynchronized
  subst hsz
  have hD := hD0.self (sz := s.heap.size)
  generalize hAe : va_A [(y, .inr (11, MO yr yi ysb ybs)), (yr 45, .inl (cT 0, 6336, .inl fr)), (yr 36, .inl (cT 0, 302, .inl fb)), (yr 30, .inl (cT 0, 302, .inl k0)), (yr 33, .inl (cT 0, 302, .inl k1)), (yr 34, .inl (cT 0, 302, .inl k2)), (yr 32, .inl (cT 0, 302, .inl k3)), (yr 35, .inl (cT 0, 302, .inl k4)), (yr 31, .inl (cT 0, 302, .inl k5)), (yr 39, .inl (cT 0, 302, .inl k6))] s.heap.size = A at hD hZ ⊢
  have hA : ∀ q : Nat, s.heap.size ≤ q → A q := fun q h => by rw [← hAe]; exact Or.inr h
  have hS : va_S A s.heap s.heap [] := va_S.rf
  have hl := lv_entry ([.ref y, .long AA, .long S, .int pc1, .int pe1, .int pm1]) (n := 13) (Nat.le_of_ble_eq_true rfl)
  rw [lg_entry_eq]
  generalize (lg_sl ([.ref y, .long AA, .long S, .int pc1, .int pe1, .int pm1]) ++ List.replicate (13 - (lg_sl ([.ref y, .long AA, .long S, .int pc1, .int pe1, .int pm1])).length) Slot.unset).toArray = ls at hl ⊢
  have hl : lv_has ls 13 [(0, .ref y), (1, .long AA), (3, .long S), (5, .int pc1), (6, .int pe1), (7, .int pm1)] := hl
  obtain ⟨b1, b2, b3, b4, b5, b6⟩ := hB
  obtain ⟨G0, u0, c0, e0, m0, s0⟩ := b
  have b1 : MN fb G0 := b1
  have b2 : G0.natAbs ≤ (100 * ZB) * (100 * ZB) * 20000 := b2
  have b3 : 0 < u0 := b3
  have b4 : u0 ≤ 314432 := b4
  have b5 : yi 50 = nI u0 := b5
  obtain ⟨Q, hQ⟩ : ∃ q9 : Nat, q9 = (100 * ZB) * (100 * ZB) := ⟨_, rfl⟩
  rw [← hQ] at b2 hfit
  obtain ⟨nl, hnl⟩ : ∃ q9 : Nat, q9 = cb S := ⟨_, rfl⟩
  obtain ⟨N, hN⟩ : ∃ q9 : Int64, q9 = AA &&& (S ^^^ (-1)) := ⟨_, rfl⟩
  obtain ⟨nr, hnr⟩ : ∃ q9 : Nat, q9 = cb N := ⟨_, rfl⟩
  obtain ⟨lx, hlx⟩ : ∃ q9 : Nat, q9 = nl + w := ⟨_, rfl⟩
  obtain ⟨rx, hrx⟩ : ∃ q9 : Nat, q9 = nr + w := ⟨_, rfl⟩
  obtain ⟨nx, hnx⟩ : ∃ q9 : Nat, q9 = nl + nr + w := ⟨_, rfl⟩
  have hcl9 : nl + nr ≤ 48 := by rw [hnl, hnr, hN]; exact hcl
  have hlx2 : lx ≤ 68 ∧ rx ≤ 68 ∧ nx ≤ 68 := by omega
  refine lv_lload_n hx hb dM_weigh_0 rfl (lv_at hl 2 rfl) ?_
  refine ro_i (va_Run.run (va_runS (As := [.long S]) (rest := []) ⟨hx, hb, hml, hown, hT⟩ (m_count l D cT S) ⟨callB_of 1 hT (tb_gd w1369) rfl rfl rfl (hT _ w13) (hT _ w1367) hM_count ⟨Nat.le_of_ble_eq_true rfl, Nat.le_of_ble_eq_true rfl⟩, (hT _ w1368)⟩ (RO.preS hZ hS ((show va_P D vwCl [] _ from fun _ _ h => nomatch h)) hK) rfl rfl hl.1 rfl (lv_room (Nat.le_of_ble_eq_true rfl)) dM_weigh_1 ⟨Nat.le_of_ble_eq_true rfl, Nat.le_of_ble_eq_true rfl⟩)) ?_
  refine lv_topi (fun y9 e9 => ?_)
  cases (show y9 = nI nl from e9.trans (congrArg nI hnl.symm))
  refine lv_istore hx hb dM_weigh_4 hl (by decide) rfl (fun ls hl => ?_)
  have hl : lv_has ls 13 [(8, .int (nI nl)), (0, .ref y), (1, .long AA), (3, .long S), (5, .int pc1), (6, .int pe1), (7, .int pm1)] := hl
  refine lv_lload_n hx hb dM_weigh_6 rfl (lv_at hl 2 rfl) ?_
  refine lv_lload_n hx hb dM_weigh_7 rfl (lv_at hl 3 rfl) ?_
  refine lv_ldc2 (v := (-1)) hx hb hown (hT _ w1102) dM_weigh_8 ?_
  refine lv_lxor hx hb dM_weigh_11 ?_
  refine lv_land hx hb dM_weigh_12 ?_
  refine lv_topl (fun y9 e9 => ?_)
  cases (show y9 = N from e9.trans hN.symm)
  refine ro_i (va_Run.run (va_runS (As := [.long N]) (rest := []) ⟨hx, hb, hml, hown, hT⟩ (m_count l D cT N) ⟨callB_of 1 hT (tb_gd w1369) rfl rfl rfl (hT _ w13) (hT _ w1367) hM_count ⟨Nat.le_of_ble_eq_true rfl, Nat.le_of_ble_eq_true rfl⟩, (hT _ w1368)⟩ (RO.preS hZ hS ((show va_P D vwCl [] _ from fun _ _ h => nomatch h)) hK) rfl rfl hl.1 rfl (lv_room (Nat.le_of_ble_eq_true rfl)) dM_weigh_13 ⟨Nat.le_of_ble_eq_true rfl, Nat.le_of_ble_eq_true rfl⟩)) ?_
  refine lv_topi (fun y9 e9 => ?_)
  cases (show y9 = nI nr from e9.trans (congrArg nI hnr.symm))
  refine lv_istore hx hb dM_weigh_16 hl (by decide) rfl (fun ls hl => ?_)
  have hl : lv_has ls 13 [(9, .int (nI nr)), (8, .int (nI nl)), (0, .ref y), (1, .long AA), (3, .long S), (5, .int pc1), (6, .int pe1), (7, .int pm1)] := hl
  refine lv_iload hx hb dM_weigh_18 (lv_at hl 1 rfl) ?_
  refine lv_aload_n hx hb dM_weigh_20 rfl (lv_at hl 2 rfl) ?_
  refine va_get (D := D) (ci := 11) (v := .int (yi 11)) (C := R_M) (T := T_M) (N := 60) hx hb hT in_M hown hK hP 0 rfl rfl 11 (by decide) (hT _ w1115) (fun _ h9 => h9) rfl dM_weigh_21 ?_
  refine lv_topi (fun y9 e9 => ?_)
  cases (show y9 = nI lst from e9.trans hls)
  refine lv_icmp_lt (tgt := 36) hx hb dM_weigh_24 rfl (fun h1 => ?_) (fun h1 => ?_)
  · have gh1 : nl < lst := (nI_ltI (a := nl) (b := lst) (by omega) (by omega)).mp h1
    have hP9 := hP.sub (ws' := [(y, .inr (11, MO yr yi ysb ybs)), (yr 45, .inl (cT 0, 6336, .inl fr)), (yr 36, .inl (cT 0, 302, .inl fb)), (yr 30, .inl (cT 0, 302, .inl k0)), (yr 33, .inl (cT 0, 302, .inl k1)), (yr 34, .inl (cT 0, 302, .inl k2)), (yr 32, .inl (cT 0, 302, .inl k3)), (yr 35, .inl (cT 0, 302, .inl k4)), (yr 31, .inl (cT 0, 302, .inl k5)), (yr 39, .inl (cT 0, 302, .inl k6))]) [0, 1, 2, 3, 4, 5, 6, 7, 8, 9] rfl
    have hD9 := hD.sub (ws' := [(y, .inr (11, MO yr yi ysb ybs)), (yr 45, .inl (cT 0, 6336, .inl fr)), (yr 36, .inl (cT 0, 302, .inl fb)), (yr 30, .inl (cT 0, 302, .inl k0)), (yr 33, .inl (cT 0, 302, .inl k1)), (yr 34, .inl (cT 0, 302, .inl k2)), (yr 32, .inl (cT 0, 302, .inl k3)), (yr 35, .inl (cT 0, 302, .inl k4)), (yr 31, .inl (cT 0, 302, .inl k5)), (yr 39, .inl (cT 0, 302, .inl k6))]) [0, 1, 2, 3, 4, 5, 6, 7, 8, 9] (by decide) rfl
    refine W.widen (k := 0) (n := 0) (Nat.le_of_ble_eq_true rfl) (Nat.le_of_ble_eq_true rfl) ?_
    exact W.vret hx hb hr (fun t9 ht9 hW9 => ⟨⟨((G0, u0, c0, e0, m0, s0), yi, ybs, fb, k0, k1, k2, k3, k4, k5, k6), rfl, (show (G0, u0, c0, e0, m0, s0) = wgh zr n w lst AA (G0, u0, c0, e0, m0, s0) S pc1 pe1 pm1 ∧ BSF yi ybs fb (G0, u0, c0, e0, m0, s0) ((100 * ZB) * (100 * ZB) * 20000) ∧ YKP yi yi from ⟨by unfold wgh; rw [if_pos (by rw [← hN, ← hnl, ← hnr]; omega)], ⟨b1, by rw [← hQ]; exact b2, b3, b4, b5, b6⟩, fun _ _ _ _ _ => rfl⟩), by rw [ht9]; exact hP9, hD9⟩, hS.F ht9⟩) hS.2.2 dM_weigh_36
  · have gh1 : lst ≤ nl := Nat.not_lt.mp (fun q => h1 ((nI_ltI (a := nl) (b := lst) (by omega) (by omega)).mpr q))
    refine lv_iload hx hb dM_weigh_27 (lv_at hl 0 rfl) ?_
    refine lv_aload_n hx hb dM_weigh_29 rfl (lv_at hl 2 rfl) ?_
    refine va_get (D := D) (ci := 11) (v := .int (yi 11)) (C := R_M) (T := T_M) (N := 60) hx hb hT in_M hown hK hP 0 rfl rfl 11 (by decide) (hT _ w1115) (fun _ h9 => h9) rfl dM_weigh_30 ?_
    refine lv_topi (fun y9 e9 => ?_)
    cases (show y9 = nI lst from e9.trans hls)
    refine lv_icmp_ge (tgt := 37) hx hb dM_weigh_33 rfl (fun h2 => ?_) (fun h2 => ?_)
    · have gh2 : lst ≤ nr := (nI_leI (a := lst) (b := nr) (by omega) (by omega)).mp h2
      obtain ⟨sl, hsl⟩ : ∃ q9 : Int, q9 = smv zr S n := ⟨_, rfl⟩
      obtain ⟨sr, hsr⟩ : ∃ q9 : Int, q9 = smv zr N n := ⟨_, rfl⟩
      have hsl1 : sl.natAbs ≤ n * ZB := by rw [hsl]; exact smv_le hZB n (Nat.le_refl _)
      have hsr1 : sr.natAbs ≤ n * ZB := by rw [hsr]; exact smv_le hZB n (Nat.le_refl _)
      have hnz : n * ZB ≤ 48 * ZB := Nat.mul_le_mul_right _ hn2
      have q1 : (sl * sl).natAbs ≤ Q := by rw [hQ]; exact nbq (by omega)
      have q2 : (sr * sr).natAbs ≤ Q := by rw [hQ]; exact nbq (by omega)
      have q3 : ((sl + sr) * (sl + sr)).natAbs ≤ Q := by rw [hQ]; exact nbq (by omega)
      have d1 : rx * nx ≤ 4624 := m68 hlx2.2.1 hlx2.2.2
      have d2 : lx * nx ≤ 4624 := m68 hlx2.1 hlx2.2.2
      have d3 : lx * rx ≤ 4624 := m68 hlx2.1 hlx2.2.1
      have d4 : lx * rx * nx ≤ 314432 := m683 hlx2.1 hlx2.2.1 hlx2.2.2
      have p0 : 0 < lx ∧ 0 < rx ∧ 0 < nx := by omega
      have p1 : 0 < rx * nx := Nat.mul_pos p0.2.1 p0.2.2
      have p2 : 0 < lx * nx := Nat.mul_pos p0.1 p0.2.2
      have p3 : 0 < lx * rx := Nat.mul_pos p0.1 p0.2.1
      have p4 : 0 < lx * rx * nx := Nat.mul_pos p3 p0.2.2
      have z1 := nbm q1 d1
      have z2 := nbm q2 d2
      have z3 := nbm q3 d3
      have hz9 : 49 * ZB < 268435456 ^ 250 := by omega
      refine lv_iload hx hb dM_weigh_37 (lv_at hl 1 rfl) ?_
      refine lv_aload_n hx hb dM_weigh_39 rfl (lv_at hl 2 rfl) ?_
      refine va_get (D := D) (ci := 11) (v := .int (yi 12)) (C := R_M) (T := T_M) (N := 60) hx hb hT in_M hown hK hP 0 rfl rfl 12 (by decide) (hT _ w1116) (fun _ h9 => h9) rfl dM_weigh_40 ?_
      refine lv_topi (fun y9 e9 => ?_)
      cases (show y9 = nI w from e9.trans hw9)
      refine lv_iadd hx hb dM_weigh_43 ?_
      refine lv_topi (fun y9 e9 => ?_)
      cases (show y9 = nI (nl + w) from e9.trans (nI_add nl w))
      refine lv_topi (fun y9 e9 => ?_)
      cases (show y9 = nI lx from e9.trans (congrArg nI hlx.symm))
      refine lv_istore hx hb dM_weigh_44 hl (by decide) rfl (fun ls hl => ?_)
      have hl : lv_has ls 13 [(10, .int (nI lx)), (9, .int (nI nr)), (8, .int (nI nl)), (0, .ref y), (1, .long AA), (3, .long S), (5, .int pc1), (6, .int pe1), (7, .int pm1)] := hl
      refine lv_iload hx hb dM_weigh_46 (lv_at hl 1 rfl) ?_
      refine lv_aload_n hx hb dM_weigh_48 rfl (lv_at hl 3 rfl) ?_
      refine va_get (D := D) (ci := 11) (v := .int (yi 12)) (C := R_M) (T := T_M) (N := 60) hx hb hT in_M hown hK hP 0 rfl rfl 12 (by decide) (hT _ w1116) (fun _ h9 => h9) rfl dM_weigh_49 ?_
      refine lv_topi (fun y9 e9 => ?_)
      cases (show y9 = nI w from e9.trans hw9)
      refine lv_iadd hx hb dM_weigh_52 ?_
      refine lv_topi (fun y9 e9 => ?_)
      cases (show y9 = nI (nr + w) from e9.trans (nI_add nr w))
      refine lv_topi (fun y9 e9 => ?_)
      cases (show y9 = nI rx from e9.trans (congrArg nI hrx.symm))
      refine lv_istore hx hb dM_weigh_53 hl (by decide) rfl (fun ls hl => ?_)
      have hl : lv_has ls 13 [(11, .int (nI rx)), (10, .int (nI lx)), (9, .int (nI nr)), (8, .int (nI nl)), (0, .ref y), (1, .long AA), (3, .long S), (5, .int pc1), (6, .int pe1), (7, .int pm1)] := hl
      refine lv_iload hx hb dM_weigh_55 (lv_at hl 3 rfl) ?_
      refine lv_iload hx hb dM_weigh_57 (lv_at hl 2 rfl) ?_
      refine lv_iadd hx hb dM_weigh_59 ?_
      refine lv_topi (fun y9 e9 => ?_)
      cases (show y9 = nI (nl + nr) from e9.trans (nI_add nl nr))
      refine lv_aload_n hx hb dM_weigh_60 rfl (lv_at hl 4 rfl) ?_
      refine va_get (D := D) (ci := 11) (v := .int (yi 12)) (C := R_M) (T := T_M) (N := 60) hx hb hT in_M hown hK hP 0 rfl rfl 12 (by decide) (hT _ w1116) (fun _ h9 => h9) rfl dM_weigh_61 ?_
      refine lv_topi (fun y9 e9 => ?_)
      cases (show y9 = nI w from e9.trans hw9)
      refine lv_iadd hx hb dM_weigh_64 ?_
      refine lv_topi (fun y9 e9 => ?_)
      cases (show y9 = nI ((nl + nr) + w) from e9.trans (nI_add (nl + nr) w))
      refine lv_topi (fun y9 e9 => ?_)
      cases (show y9 = nI nx from e9.trans (congrArg nI hnx.symm))
      refine lv_istore hx hb dM_weigh_65 hl (by decide) rfl (fun ls hl => ?_)
      have hl : lv_has ls 13 [(12, .int (nI nx)), (11, .int (nI rx)), (10, .int (nI lx)), (9, .int (nI nr)), (8, .int (nI nl)), (0, .ref y), (1, .long AA), (3, .long S), (5, .int pc1), (6, .int pe1), (7, .int pm1)] := hl
      refine lv_aload_n hx hb dM_weigh_67 rfl (lv_at hl 5 rfl) ?_
      refine lv_lload_n hx hb dM_weigh_68 rfl (lv_at hl 7 rfl) ?_
      refine lv_aload_n hx hb dM_weigh_69 rfl (lv_at hl 5 rfl) ?_
      refine va_get (D := D) (ci := 11) (v := .ref (yr 33)) (C := R_M) (T := T_M) (N := 60) hx hb hT in_M hown hK hP 0 rfl rfl 33 (by decide) (hT _ w1137) (fun _ h9 => h9) rfl dM_weigh_70 ?_
      refine rw_v (wc := [(y, .inr (11, MO yr yi ysb ybs)), (yr 45, .inl (cT 0, 6336, .inl fr)), (yr 30, .inl (cT 0, 302, .inl k0)), (yr 33, .inl (cT 0, 302, .inl k1))]) (wr := [(yr 36, .inl (cT 0, 302, .inl fb)), (yr 34, .inl (cT 0, 302, .inl k2)), (yr 32, .inl (cT 0, 302, .inl k3)), (yr 35, .inl (cT 0, 302, .inl k4)), (yr 31, .inl (cT 0, 302, .inl k5)), (yr 39, .inl (cT 0, 302, .inl k6))]) hP hD hS hA [0, 1, 3, 4] [2, 5, 6, 7, 8, 9] rfl rfl (by decide) (by decide) (va_runV (As := [.long S, .ref (yr 33)]) (rest := []) ⟨hx, hb, hml, hown, hT⟩ (m_sum l D cT y yr yi ysb ybs n S zr ZB fr k0 (yr 33) k1 hn hn2 hM hZB hz9 _) ⟨callB_of 2 hT (tb_gd w1488) rfl rfl rfl (hT _ w13) (hT _ w1485) hM_sum ⟨Nat.le_of_ble_eq_true rfl, Nat.le_of_ble_eq_true rfl⟩, (hT _ w1487), (hT _ wp51)⟩ (RW.preV (ci := 11) (q0 := 0) hZ hS (va_free (wc := [(y, .inr (11, MO yr yi ysb ybs)), (yr 45, .inl (cT 0, 6336, .inl fr)), (yr 30, .inl (cT 0, 302, .inl k0)), (yr 33, .inl (cT 0, 302, .inl k1))]) hD hS hA [0, 1, 3, 4] rfl) (hP.sub (ws' := [(y, .inr (11, MO yr yi ysb ybs)), (yr 45, .inl (cT 0, 6336, .inl fr)), (yr 30, .inl (cT 0, 302, .inl k0)), (yr 33, .inl (cT 0, 302, .inl k1))]) [0, 1, 3, 4] rfl) hK (hD.sub (ws' := [(y, .inr (11, MO yr yi ysb ybs)), (yr 45, .inl (cT 0, 6336, .inl fr)), (yr 30, .inl (cT 0, 302, .inl k0)), (yr 33, .inl (cT 0, 302, .inl k1))]) [0, 1, 3, 4] (by decide) rfl) rfl rfl) rfl rfl hl.1 rfl (lv_room (Nat.le_of_ble_eq_true rfl)) dM_weigh_73 ⟨Nat.le_of_ble_eq_true rfl, Nat.le_of_ble_eq_true rfl⟩) (fun u9 H locs hpu3 hP hD hS => ?_)
      obtain ⟨f1u3, f9u3⟩ := u9
      have hpu3 : MN f1u3 (smv zr S n) := hpu3
      have hP : va_P D vwCl [(yr 36, .inl (cT 0, 302, .inl fb)), (yr 34, .inl (cT 0, 302, .inl k2)), (yr 32, .inl (cT 0, 302, .inl k3)), (yr 35, .inl (cT 0, 302, .inl k4)), (yr 31, .inl (cT 0, 302, .inl k5)), (yr 39, .inl (cT 0, 302, .inl k6)), (y, .inr (11, MO yr yi ysb ybs)), (yr 45, .inl (cT 0, 6336, .inl fr)), (yr 30, .inl (cT 0, 302, .inl f9u3)), (yr 33, .inl (cT 0, 302, .inl f1u3))] _ := hP
      have hD : va_D A [(yr 36, .inl (cT 0, 302, .inl fb)), (yr 34, .inl (cT 0, 302, .inl k2)), (yr 32, .inl (cT 0, 302, .inl k3)), (yr 35, .inl (cT 0, 302, .inl k4)), (yr 31, .inl (cT 0, 302, .inl k5)), (yr 39, .inl (cT 0, 302, .inl k6)), (y, .inr (11, MO yr yi ysb ybs)), (yr 45, .inl (cT 0, 6336, .inl fr)), (yr 30, .inl (cT 0, 302, .inl f9u3)), (yr 33, .inl (cT 0, 302, .inl f1u3))] := hD
      have mL : MN f1u3 sl := by rw [hsl]; exact hpu3
      refine lv_aload_n hx hb dM_weigh_76 rfl (lv_at hl 5 rfl) ?_
      refine lv_lload_n hx hb dM_weigh_77 rfl (lv_at hl 6 rfl) ?_
      refine lv_lload_n hx hb dM_weigh_78 rfl (lv_at hl 7 rfl) ?_
      refine lv_ldc2 (v := (-1)) hx hb hown (hT _ w1102) dM_weigh_79 ?_
      refine lv_lxor hx hb dM_weigh_82 ?_
      refine lv_land hx hb dM_weigh_83 ?_
      refine lv_topl (fun y9 e9 => ?_)
      cases (show y9 = N from e9.trans hN.symm)
      refine lv_aload_n hx hb dM_weigh_84 rfl (lv_at hl 5 rfl) ?_
      refine va_get (D := D) (ci := 11) (v := .ref (yr 34)) (C := R_M) (T := T_M) (N := 60) hx hb hT in_M hown hK hP 6 rfl rfl 34 (by decide) (hT _ w1138) (fun _ h9 => h9) rfl dM_weigh_85 ?_
      refine rw_v (wc := [(y, .inr (11, MO yr yi ysb ybs)), (yr 45, .inl (cT 0, 6336, .inl fr)), (yr 30, .inl (cT 0, 302, .inl f9u3)), (yr 34, .inl (cT 0, 302, .inl k2))]) (wr := [(yr 36, .inl (cT 0, 302, .inl fb)), (yr 32, .inl (cT 0, 302, .inl k3)), (yr 35, .inl (cT 0, 302, .inl k4)), (yr 31, .inl (cT 0, 302, .inl k5)), (yr 39, .inl (cT 0, 302, .inl k6)), (yr 33, .inl (cT 0, 302, .inl f1u3))]) hP hD hS hA [6, 7, 8, 1] [0, 2, 3, 4, 5, 9] rfl rfl (by decide) (by decide) (va_runV (As := [.long N, .ref (yr 34)]) (rest := []) ⟨hx, hb, hml, hown, hT⟩ (m_sum l D cT y yr yi ysb ybs n N zr ZB fr f9u3 (yr 34) k2 hn hn2 hM hZB hz9 _) ⟨callB_of 2 hT (tb_gd w1488) rfl rfl rfl (hT _ w13) (hT _ w1485) hM_sum ⟨Nat.le_of_ble_eq_true rfl, Nat.le_of_ble_eq_true rfl⟩, (hT _ w1487), (hT _ wp51)⟩ (RW.preV (ci := 11) (q0 := 0) hZ hS (va_free (wc := [(y, .inr (11, MO yr yi ysb ybs)), (yr 45, .inl (cT 0, 6336, .inl fr)), (yr 30, .inl (cT 0, 302, .inl f9u3)), (yr 34, .inl (cT 0, 302, .inl k2))]) hD hS hA [6, 7, 8, 1] rfl) (hP.sub (ws' := [(y, .inr (11, MO yr yi ysb ybs)), (yr 45, .inl (cT 0, 6336, .inl fr)), (yr 30, .inl (cT 0, 302, .inl f9u3)), (yr 34, .inl (cT 0, 302, .inl k2))]) [6, 7, 8, 1] rfl) hK (hD.sub (ws' := [(y, .inr (11, MO yr yi ysb ybs)), (yr 45, .inl (cT 0, 6336, .inl fr)), (yr 30, .inl (cT 0, 302, .inl f9u3)), (yr 34, .inl (cT 0, 302, .inl k2))]) [6, 7, 8, 1] (by decide) rfl) rfl rfl) rfl rfl hl.1 rfl (lv_room (Nat.le_of_ble_eq_true rfl)) dM_weigh_88 ⟨Nat.le_of_ble_eq_true rfl, Nat.le_of_ble_eq_true rfl⟩) (fun u9 H locs hpu4 hP hD hS => ?_)
      obtain ⟨f1u4, f9u4⟩ := u9
      have hpu4 : MN f1u4 (smv zr N n) := hpu4
      have hP : va_P D vwCl [(yr 36, .inl (cT 0, 302, .inl fb)), (yr 32, .inl (cT 0, 302, .inl k3)), (yr 35, .inl (cT 0, 302, .inl k4)), (yr 31, .inl (cT 0, 302, .inl k5)), (yr 39, .inl (cT 0, 302, .inl k6)), (yr 33, .inl (cT 0, 302, .inl f1u3)), (y, .inr (11, MO yr yi ysb ybs)), (yr 45, .inl (cT 0, 6336, .inl fr)), (yr 30, .inl (cT 0, 302, .inl f9u4)), (yr 34, .inl (cT 0, 302, .inl f1u4))] _ := hP
      have hD : va_D A [(yr 36, .inl (cT 0, 302, .inl fb)), (yr 32, .inl (cT 0, 302, .inl k3)), (yr 35, .inl (cT 0, 302, .inl k4)), (yr 31, .inl (cT 0, 302, .inl k5)), (yr 39, .inl (cT 0, 302, .inl k6)), (yr 33, .inl (cT 0, 302, .inl f1u3)), (y, .inr (11, MO yr yi ysb ybs)), (yr 45, .inl (cT 0, 6336, .inl fr)), (yr 30, .inl (cT 0, 302, .inl f9u4)), (yr 34, .inl (cT 0, 302, .inl f1u4))] := hD
      have mR : MN f1u4 sr := by rw [hsr]; exact hpu4
      refine lv_aload_n hx hb dM_weigh_91 rfl (lv_at hl 5 rfl) ?_
      refine lv_aload_n hx hb dM_weigh_92 rfl (lv_at hl 5 rfl) ?_
      refine va_get (D := D) (ci := 11) (v := .ref (yr 33)) (C := R_M) (T := T_M) (N := 60) hx hb hT in_M hown hK hP 6 rfl rfl 33 (by decide) (hT _ w1137) (fun _ h9 => h9) rfl dM_weigh_93 ?_
      refine lv_aload_n hx hb dM_weigh_96 rfl (lv_at hl 5 rfl) ?_
      refine va_get (D := D) (ci := 11) (v := .ref (yr 33)) (C := R_M) (T := T_M) (N := 60) hx hb hT in_M hown hK hP 6 rfl rfl 33 (by decide) (hT _ w1137) (fun _ h9 => h9) rfl dM_weigh_97 ?_
      refine rw_v (wc := [(y, .inr (11, MO yr yi ysb ybs)), (yr 32, .inl (cT 0, 302, .inl k3)), (yr 33, .inl (cT 0, 302, .inl f1u3))]) (wr := [(yr 36, .inl (cT 0, 302, .inl fb)), (yr 35, .inl (cT 0, 302, .inl k4)), (yr 31, .inl (cT 0, 302, .inl k5)), (yr 39, .inl (cT 0, 302, .inl k6)), (yr 45, .inl (cT 0, 6336, .inl fr)), (yr 30, .inl (cT 0, 302, .inl f9u4)), (yr 34, .inl (cT 0, 302, .inl f1u4))]) hP hD hS hA [6, 1, 5] [0, 2, 3, 4, 7, 8, 9] rfl rfl (by decide) (by decide) (va_runV (As := [.ref (yr 33), .ref (yr 33)]) (rest := []) ⟨hx, hb, hml, hown, hT⟩ (m_square l D cT y yr yi ysb ybs k3 (yr 33) f1u3 sl mL (by rw [← Int.natAbs_mul]; exact up250 (fit1 (Q := Q) (m := 1) (by rw [Nat.mul_one]; exact q1) (by decide) hfit)) _) ⟨callB_of 2 hT (tb_gd w1503) rfl rfl rfl (hT _ w13) (hT _ w1500) hM_multiply ⟨Nat.le_of_ble_eq_true rfl, Nat.le_of_ble_eq_true rfl⟩, (hT _ w1502), (hT _ wp54)⟩ (RW.preV (ci := 11) (q0 := 0) hZ hS (va_free (wc := [(y, .inr (11, MO yr yi ysb ybs)), (yr 32, .inl (cT 0, 302, .inl k3)), (yr 33, .inl (cT 0, 302, .inl f1u3))]) hD hS hA [6, 1, 5] rfl) (hP.sub (ws' := [(y, .inr (11, MO yr yi ysb ybs)), (yr 32, .inl (cT 0, 302, .inl k3)), (yr 33, .inl (cT 0, 302, .inl f1u3))]) [6, 1, 5] rfl) hK (hD.sub (ws' := [(y, .inr (11, MO yr yi ysb ybs)), (yr 32, .inl (cT 0, 302, .inl k3)), (yr 33, .inl (cT 0, 302, .inl f1u3))]) [6, 1, 5] (by decide) rfl) rfl rfl) rfl rfl hl.1 rfl (lv_room (Nat.le_of_ble_eq_true rfl)) dM_weigh_100 ⟨Nat.le_of_ble_eq_true rfl, Nat.le_of_ble_eq_true rfl⟩) (fun u9 H locs hpu5 hP hD hS => ?_)
      obtain ⟨f1u5, rfl⟩ : ∃ q9, q9 = u9 := ⟨_, rfl⟩
      have hpu5 : MN f1u5 (sl * sl) := hpu5
      have hP : va_P D vwCl [(yr 36, .inl (cT 0, 302, .inl fb)), (yr 35, .inl (cT 0, 302, .inl k4)), (yr 31, .inl (cT 0, 302, .inl k5)), (yr 39, .inl (cT 0, 302, .inl k6)), (yr 45, .inl (cT 0, 6336, .inl fr)), (yr 30, .inl (cT 0, 302, .inl f9u4)), (yr 34, .inl (cT 0, 302, .inl f1u4)), (y, .inr (11, MO yr yi ysb ybs)), (yr 32, .inl (cT 0, 302, .inl f1u5)), (yr 33, .inl (cT 0, 302, .inl f1u3))] _ := hP
      have hD : va_D A [(yr 36, .inl (cT 0, 302, .inl fb)), (yr 35, .inl (cT 0, 302, .inl k4)), (yr 31, .inl (cT 0, 302, .inl k5)), (yr 39, .inl (cT 0, 302, .inl k6)), (yr 45, .inl (cT 0, 6336, .inl fr)), (yr 30, .inl (cT 0, 302, .inl f9u4)), (yr 34, .inl (cT 0, 302, .inl f1u4)), (y, .inr (11, MO yr yi ysb ybs)), (yr 32, .inl (cT 0, 302, .inl f1u5)), (yr 33, .inl (cT 0, 302, .inl f1u3))] := hD
      have mP1 := hpu5
      refine lv_aload_n hx hb dM_weigh_103 rfl (lv_at hl 5 rfl) ?_
      refine va_get (D := D) (ci := 11) (v := .ref (yr 32)) (C := R_M) (T := T_M) (N := 60) hx hb hT in_M hown hK hP 7 rfl rfl 32 (by decide) (hT _ w1136) (fun _ h9 => h9) rfl dM_weigh_104 ?_
      refine lv_aload_n hx hb dM_weigh_107 rfl (lv_at hl 5 rfl) ?_
      refine va_get (D := D) (ci := 11) (v := .ref (yr 35)) (C := R_M) (T := T_M) (N := 60) hx hb hT in_M hown hK hP 7 rfl rfl 35 (by decide) (hT _ w1139) (fun _ h9 => h9) rfl dM_weigh_108 ?_
      refine rw_v (wc := [(yr 32, .inl (cT 0, 302, .inl f1u5)), (yr 35, .inl (cT 0, 302, .inl k4))]) (wr := [(yr 36, .inl (cT 0, 302, .inl fb)), (yr 31, .inl (cT 0, 302, .inl k5)), (yr 39, .inl (cT 0, 302, .inl k6)), (yr 45, .inl (cT 0, 6336, .inl fr)), (yr 30, .inl (cT 0, 302, .inl f9u4)), (yr 34, .inl (cT 0, 302, .inl f1u4)), (y, .inr (11, MO yr yi ysb ybs)), (yr 33, .inl (cT 0, 302, .inl f1u3))]) hP hD hS hA [8, 1] [0, 2, 3, 4, 5, 6, 7, 9] rfl rfl (by decide) (by decide) (va_runS (As := [.ref (yr 32), .ref (yr 35)]) (rest := []) ⟨hx, hb, hml, hown, hT⟩ (m_copy l D cT (yr 32) f1u5 (sl * sl) (yr 35) k4 mP1 _) ⟨callB_of 2 hT (tb_gd w1426) rfl rfl rfl (hT _ w13) (hT _ w1424) hM_copy ⟨Nat.le_of_ble_eq_true rfl, Nat.le_of_ble_eq_true rfl⟩, (hT _ w1425)⟩ (RW.preS hZ hS (va_free (wc := [(yr 32, .inl (cT 0, 302, .inl f1u5)), (yr 35, .inl (cT 0, 302, .inl k4))]) hD hS hA [8, 1] rfl) (hP.sub (ws' := [(yr 32, .inl (cT 0, 302, .inl f1u5)), (yr 35, .inl (cT 0, 302, .inl k4))]) [8, 1] rfl) hK (hD.sub (ws' := [(yr 32, .inl (cT 0, 302, .inl f1u5)), (yr 35, .inl (cT 0, 302, .inl k4))]) [8, 1] (by decide) rfl)) rfl rfl hl.1 rfl (lv_room (Nat.le_of_ble_eq_true rfl)) dM_weigh_111 ⟨Nat.le_of_ble_eq_true rfl, Nat.le_of_ble_eq_true rfl⟩) (fun u9 H locs hpu6 hP hD hS => ?_)
      obtain ⟨f1u6, rfl⟩ : ∃ q9, q9 = u9 := ⟨_, rfl⟩
      have hpu6 : MN f1u6 (sl * sl) := hpu6
      have hP : va_P D vwCl [(yr 36, .inl (cT 0, 302, .inl fb)), (yr 31, .inl (cT 0, 302, .inl k5)), (yr 39, .inl (cT 0, 302, .inl k6)), (yr 45, .inl (cT 0, 6336, .inl fr)), (yr 30, .inl (cT 0, 302, .inl f9u4)), (yr 34, .inl (cT 0, 302, .inl f1u4)), (y, .inr (11, MO yr yi ysb ybs)), (yr 33, .inl (cT 0, 302, .inl f1u3)), (yr 32, .inl (cT 0, 302, .inl f1u5)), (yr 35, .inl (cT 0, 302, .inl f1u6))] _ := hP
      have hD : va_D A [(yr 36, .inl (cT 0, 302, .inl fb)), (yr 31, .inl (cT 0, 302, .inl k5)), (yr 39, .inl (cT 0, 302, .inl k6)), (yr 45, .inl (cT 0, 6336, .inl fr)), (yr 30, .inl (cT 0, 302, .inl f9u4)), (yr 34, .inl (cT 0, 302, .inl f1u4)), (y, .inr (11, MO yr yi ysb ybs)), (yr 33, .inl (cT 0, 302, .inl f1u3)), (yr 32, .inl (cT 0, 302, .inl f1u5)), (yr 35, .inl (cT 0, 302, .inl f1u6))] := hD
      have mG1 := hpu6
      refine lv_aload_n hx hb dM_weigh_114 rfl (lv_at hl 5 rfl) ?_
      refine va_get (D := D) (ci := 11) (v := .ref (yr 35)) (C := R_M) (T := T_M) (N := 60) hx hb hT in_M hown hK hP 6 rfl rfl 35 (by decide) (hT _ w1139) (fun _ h9 => h9) rfl dM_weigh_115 ?_
      refine lv_iload hx hb dM_weigh_118 (lv_at hl 1 rfl) ?_
      refine lv_iload hx hb dM_weigh_120 (lv_at hl 0 rfl) ?_
      refine lv_imul hx hb dM_weigh_122 ?_
      refine lv_topi (fun y9 e9 => ?_)
      cases (show y9 = nI (rx * nx) from e9.trans (pk_mul rx nx))
      refine rw_v (wc := [(yr 35, .inl (cT 0, 302, .inl f1u6))]) (wr := [(yr 36, .inl (cT 0, 302, .inl fb)), (yr 31, .inl (cT 0, 302, .inl k5)), (yr 39, .inl (cT 0, 302, .inl k6)), (yr 45, .inl (cT 0, 6336, .inl fr)), (yr 30, .inl (cT 0, 302, .inl f9u4)), (yr 34, .inl (cT 0, 302, .inl f1u4)), (y, .inr (11, MO yr yi ysb ybs)), (yr 33, .inl (cT 0, 302, .inl f1u3)), (yr 32, .inl (cT 0, 302, .inl f1u5))]) hP hD hS hA [9] [0, 1, 2, 3, 4, 5, 6, 7, 8] rfl rfl (by decide) (by decide) (va_runS (As := [.ref (yr 35), .int (nI (rx * nx))]) (rest := []) ⟨hx, hb, hml, hown, hT⟩ (m_times l D cT (yr 35) f1u6 (sl * sl) (rx * nx) mG1 p1 (by omega) (fitm (Q := Q) q1 (by omega) hfit) _) ⟨callB_of 2 hT (tb_gd w1417) rfl rfl rfl (hT _ w13) (hT _ w1415) hM_times ⟨Nat.le_of_ble_eq_true rfl, Nat.le_of_ble_eq_true rfl⟩, (hT _ w1416)⟩ (RW.preS hZ hS (va_free (wc := [(yr 35, .inl (cT 0, 302, .inl f1u6))]) hD hS hA [9] rfl) (hP.sub (ws' := [(yr 35, .inl (cT 0, 302, .inl f1u6))]) [9] rfl) hK (hD.sub (ws' := [(yr 35, .inl (cT 0, 302, .inl f1u6))]) [9] (by decide) rfl)) rfl rfl hl.1 rfl (lv_room (Nat.le_of_ble_eq_true rfl)) dM_weigh_123 ⟨Nat.le_of_ble_eq_true rfl, Nat.le_of_ble_eq_true rfl⟩) (fun u9 H locs hpu7 hP hD hS => ?_)
      obtain ⟨f1u7, rfl⟩ : ∃ q9, q9 = u9 := ⟨_, rfl⟩
      have hpu7 : MN f1u7 ((sl * sl) * (rx * nx)) := hpu7
      have hP : va_P D vwCl [(yr 36, .inl (cT 0, 302, .inl fb)), (yr 31, .inl (cT 0, 302, .inl k5)), (yr 39, .inl (cT 0, 302, .inl k6)), (yr 45, .inl (cT 0, 6336, .inl fr)), (yr 30, .inl (cT 0, 302, .inl f9u4)), (yr 34, .inl (cT 0, 302, .inl f1u4)), (y, .inr (11, MO yr yi ysb ybs)), (yr 33, .inl (cT 0, 302, .inl f1u3)), (yr 32, .inl (cT 0, 302, .inl f1u5)), (yr 35, .inl (cT 0, 302, .inl f1u7))] _ := hP
      have hD : va_D A [(yr 36, .inl (cT 0, 302, .inl fb)), (yr 31, .inl (cT 0, 302, .inl k5)), (yr 39, .inl (cT 0, 302, .inl k6)), (yr 45, .inl (cT 0, 6336, .inl fr)), (yr 30, .inl (cT 0, 302, .inl f9u4)), (yr 34, .inl (cT 0, 302, .inl f1u4)), (y, .inr (11, MO yr yi ysb ybs)), (yr 33, .inl (cT 0, 302, .inl f1u3)), (yr 32, .inl (cT 0, 302, .inl f1u5)), (yr 35, .inl (cT 0, 302, .inl f1u7))] := hD
      have mG2 := hpu7
      refine lv_aload_n hx hb dM_weigh_126 rfl (lv_at hl 5 rfl) ?_
      refine lv_aload_n hx hb dM_weigh_127 rfl (lv_at hl 5 rfl) ?_
      refine va_get (D := D) (ci := 11) (v := .ref (yr 34)) (C := R_M) (T := T_M) (N := 60) hx hb hT in_M hown hK hP 6 rfl rfl 34 (by decide) (hT _ w1138) (fun _ h9 => h9) rfl dM_weigh_128 ?_
      refine lv_aload_n hx hb dM_weigh_131 rfl (lv_at hl 5 rfl) ?_
      refine va_get (D := D) (ci := 11) (v := .ref (yr 34)) (C := R_M) (T := T_M) (N := 60) hx hb hT in_M hown hK hP 6 rfl rfl 34 (by decide) (hT _ w1138) (fun _ h9 => h9) rfl dM_weigh_132 ?_
      refine rw_v (wc := [(y, .inr (11, MO yr yi ysb ybs)), (yr 32, .inl (cT 0, 302, .inl f1u5)), (yr 34, .inl (cT 0, 302, .inl f1u4))]) (wr := [(yr 36, .inl (cT 0, 302, .inl fb)), (yr 31, .inl (cT 0, 302, .inl k5)), (yr 39, .inl (cT 0, 302, .inl k6)), (yr 45, .inl (cT 0, 6336, .inl fr)), (yr 30, .inl (cT 0, 302, .inl f9u4)), (yr 33, .inl (cT 0, 302, .inl f1u3)), (yr 35, .inl (cT 0, 302, .inl f1u7))]) hP hD hS hA [6, 8, 5] [0, 1, 2, 3, 4, 7, 9] rfl rfl (by decide) (by decide) (va_runV (As := [.ref (yr 34), .ref (yr 34)]) (rest := []) ⟨hx, hb, hml, hown, hT⟩ (m_square l D cT y yr yi ysb ybs f1u5 (yr 34) f1u4 sr mR (by rw [← Int.natAbs_mul]; exact up250 (fit1 (Q := Q) (m := 1) (by rw [Nat.mul_one]; exact q2) (by decide) hfit)) _) ⟨callB_of 2 hT (tb_gd w1503) rfl rfl rfl (hT _ w13) (hT _ w1500) hM_multiply ⟨Nat.le_of_ble_eq_true rfl, Nat.le_of_ble_eq_true rfl⟩, (hT _ w1502), (hT _ wp54)⟩ (RW.preV (ci := 11) (q0 := 0) hZ hS (va_free (wc := [(y, .inr (11, MO yr yi ysb ybs)), (yr 32, .inl (cT 0, 302, .inl f1u5)), (yr 34, .inl (cT 0, 302, .inl f1u4))]) hD hS hA [6, 8, 5] rfl) (hP.sub (ws' := [(y, .inr (11, MO yr yi ysb ybs)), (yr 32, .inl (cT 0, 302, .inl f1u5)), (yr 34, .inl (cT 0, 302, .inl f1u4))]) [6, 8, 5] rfl) hK (hD.sub (ws' := [(y, .inr (11, MO yr yi ysb ybs)), (yr 32, .inl (cT 0, 302, .inl f1u5)), (yr 34, .inl (cT 0, 302, .inl f1u4))]) [6, 8, 5] (by decide) rfl) rfl rfl) rfl rfl hl.1 rfl (lv_room (Nat.le_of_ble_eq_true rfl)) dM_weigh_135 ⟨Nat.le_of_ble_eq_true rfl, Nat.le_of_ble_eq_true rfl⟩) (fun u9 H locs hpu8 hP hD hS => ?_)
      obtain ⟨f1u8, rfl⟩ : ∃ q9, q9 = u9 := ⟨_, rfl⟩
      have hpu8 : MN f1u8 (sr * sr) := hpu8
      have hP : va_P D vwCl [(yr 36, .inl (cT 0, 302, .inl fb)), (yr 31, .inl (cT 0, 302, .inl k5)), (yr 39, .inl (cT 0, 302, .inl k6)), (yr 45, .inl (cT 0, 6336, .inl fr)), (yr 30, .inl (cT 0, 302, .inl f9u4)), (yr 33, .inl (cT 0, 302, .inl f1u3)), (yr 35, .inl (cT 0, 302, .inl f1u7)), (y, .inr (11, MO yr yi ysb ybs)), (yr 32, .inl (cT 0, 302, .inl f1u8)), (yr 34, .inl (cT 0, 302, .inl f1u4))] _ := hP
      have hD : va_D A [(yr 36, .inl (cT 0, 302, .inl fb)), (yr 31, .inl (cT 0, 302, .inl k5)), (yr 39, .inl (cT 0, 302, .inl k6)), (yr 45, .inl (cT 0, 6336, .inl fr)), (yr 30, .inl (cT 0, 302, .inl f9u4)), (yr 33, .inl (cT 0, 302, .inl f1u3)), (yr 35, .inl (cT 0, 302, .inl f1u7)), (y, .inr (11, MO yr yi ysb ybs)), (yr 32, .inl (cT 0, 302, .inl f1u8)), (yr 34, .inl (cT 0, 302, .inl f1u4))] := hD
      have mP2 := hpu8
      refine lv_aload_n hx hb dM_weigh_138 rfl (lv_at hl 5 rfl) ?_
      refine va_get (D := D) (ci := 11) (v := .ref (yr 32)) (C := R_M) (T := T_M) (N := 60) hx hb hT in_M hown hK hP 7 rfl rfl 32 (by decide) (hT _ w1136) (fun _ h9 => h9) rfl dM_weigh_139 ?_
      refine lv_aload_n hx hb dM_weigh_142 rfl (lv_at hl 5 rfl) ?_
      refine va_get (D := D) (ci := 11) (v := .ref (yr 31)) (C := R_M) (T := T_M) (N := 60) hx hb hT in_M hown hK hP 7 rfl rfl 31 (by decide) (hT _ w1135) (fun _ h9 => h9) rfl dM_weigh_143 ?_
      refine rw_v (wc := [(yr 32, .inl (cT 0, 302, .inl f1u8)), (yr 31, .inl (cT 0, 302, .inl k5))]) (wr := [(yr 36, .inl (cT 0, 302, .inl fb)), (yr 39, .inl (cT 0, 302, .inl k6)), (yr 45, .inl (cT 0, 6336, .inl fr)), (yr 30, .inl (cT 0, 302, .inl f9u4)), (yr 33, .inl (cT 0, 302, .inl f1u3)), (yr 35, .inl (cT 0, 302, .inl f1u7)), (y, .inr (11, MO yr yi ysb ybs)), (yr 34, .inl (cT 0, 302, .inl f1u4))]) hP hD hS hA [8, 1] [0, 2, 3, 4, 5, 6, 7, 9] rfl rfl (by decide) (by decide) (va_runS (As := [.ref (yr 32), .ref (yr 31)]) (rest := []) ⟨hx, hb, hml, hown, hT⟩ (m_copy l D cT (yr 32) f1u8 (sr * sr) (yr 31) k5 mP2 _) ⟨callB_of 2 hT (tb_gd w1426) rfl rfl rfl (hT _ w13) (hT _ w1424) hM_copy ⟨Nat.le_of_ble_eq_true rfl, Nat.le_of_ble_eq_true rfl⟩, (hT _ w1425)⟩ (RW.preS hZ hS (va_free (wc := [(yr 32, .inl (cT 0, 302, .inl f1u8)), (yr 31, .inl (cT 0, 302, .inl k5))]) hD hS hA [8, 1] rfl) (hP.sub (ws' := [(yr 32, .inl (cT 0, 302, .inl f1u8)), (yr 31, .inl (cT 0, 302, .inl k5))]) [8, 1] rfl) hK (hD.sub (ws' := [(yr 32, .inl (cT 0, 302, .inl f1u8)), (yr 31, .inl (cT 0, 302, .inl k5))]) [8, 1] (by decide) rfl)) rfl rfl hl.1 rfl (lv_room (Nat.le_of_ble_eq_true rfl)) dM_weigh_146 ⟨Nat.le_of_ble_eq_true rfl, Nat.le_of_ble_eq_true rfl⟩) (fun u9 H locs hpu9 hP hD hS => ?_)
      obtain ⟨f1u9, rfl⟩ : ∃ q9, q9 = u9 := ⟨_, rfl⟩
      have hpu9 : MN f1u9 (sr * sr) := hpu9
      have hP : va_P D vwCl [(yr 36, .inl (cT 0, 302, .inl fb)), (yr 39, .inl (cT 0, 302, .inl k6)), (yr 45, .inl (cT 0, 6336, .inl fr)), (yr 30, .inl (cT 0, 302, .inl f9u4)), (yr 33, .inl (cT 0, 302, .inl f1u3)), (yr 35, .inl (cT 0, 302, .inl f1u7)), (y, .inr (11, MO yr yi ysb ybs)), (yr 34, .inl (cT 0, 302, .inl f1u4)), (yr 32, .inl (cT 0, 302, .inl f1u8)), (yr 31, .inl (cT 0, 302, .inl f1u9))] _ := hP
      have hD : va_D A [(yr 36, .inl (cT 0, 302, .inl fb)), (yr 39, .inl (cT 0, 302, .inl k6)), (yr 45, .inl (cT 0, 6336, .inl fr)), (yr 30, .inl (cT 0, 302, .inl f9u4)), (yr 33, .inl (cT 0, 302, .inl f1u3)), (yr 35, .inl (cT 0, 302, .inl f1u7)), (y, .inr (11, MO yr yi ysb ybs)), (yr 34, .inl (cT 0, 302, .inl f1u4)), (yr 32, .inl (cT 0, 302, .inl f1u8)), (yr 31, .inl (cT 0, 302, .inl f1u9))] := hD
      have mT1 := hpu9
      refine lv_aload_n hx hb dM_weigh_149 rfl (lv_at hl 5 rfl) ?_
      refine va_get (D := D) (ci := 11) (v := .ref (yr 31)) (C := R_M) (T := T_M) (N := 60) hx hb hT in_M hown hK hP 6 rfl rfl 31 (by decide) (hT _ w1135) (fun _ h9 => h9) rfl dM_weigh_150 ?_
      refine lv_iload hx hb dM_weigh_153 (lv_at hl 2 rfl) ?_
      refine lv_iload hx hb dM_weigh_155 (lv_at hl 0 rfl) ?_
      refine lv_imul hx hb dM_weigh_157 ?_
      refine lv_topi (fun y9 e9 => ?_)
      cases (show y9 = nI (lx * nx) from e9.trans (pk_mul lx nx))
      refine rw_v (wc := [(yr 31, .inl (cT 0, 302, .inl f1u9))]) (wr := [(yr 36, .inl (cT 0, 302, .inl fb)), (yr 39, .inl (cT 0, 302, .inl k6)), (yr 45, .inl (cT 0, 6336, .inl fr)), (yr 30, .inl (cT 0, 302, .inl f9u4)), (yr 33, .inl (cT 0, 302, .inl f1u3)), (yr 35, .inl (cT 0, 302, .inl f1u7)), (y, .inr (11, MO yr yi ysb ybs)), (yr 34, .inl (cT 0, 302, .inl f1u4)), (yr 32, .inl (cT 0, 302, .inl f1u8))]) hP hD hS hA [9] [0, 1, 2, 3, 4, 5, 6, 7, 8] rfl rfl (by decide) (by decide) (va_runS (As := [.ref (yr 31), .int (nI (lx * nx))]) (rest := []) ⟨hx, hb, hml, hown, hT⟩ (m_times l D cT (yr 31) f1u9 (sr * sr) (lx * nx) mT1 p2 (by omega) (fitm (Q := Q) q2 (by omega) hfit) _) ⟨callB_of 2 hT (tb_gd w1417) rfl rfl rfl (hT _ w13) (hT _ w1415) hM_times ⟨Nat.le_of_ble_eq_true rfl, Nat.le_of_ble_eq_true rfl⟩, (hT _ w1416)⟩ (RW.preS hZ hS (va_free (wc := [(yr 31, .inl (cT 0, 302, .inl f1u9))]) hD hS hA [9] rfl) (hP.sub (ws' := [(yr 31, .inl (cT 0, 302, .inl f1u9))]) [9] rfl) hK (hD.sub (ws' := [(yr 31, .inl (cT 0, 302, .inl f1u9))]) [9] (by decide) rfl)) rfl rfl hl.1 rfl (lv_room (Nat.le_of_ble_eq_true rfl)) dM_weigh_158 ⟨Nat.le_of_ble_eq_true rfl, Nat.le_of_ble_eq_true rfl⟩) (fun u9 H locs hpu10 hP hD hS => ?_)
      obtain ⟨f1u10, rfl⟩ : ∃ q9, q9 = u9 := ⟨_, rfl⟩
      have hpu10 : MN f1u10 ((sr * sr) * (lx * nx)) := hpu10
      have hP : va_P D vwCl [(yr 36, .inl (cT 0, 302, .inl fb)), (yr 39, .inl (cT 0, 302, .inl k6)), (yr 45, .inl (cT 0, 6336, .inl fr)), (yr 30, .inl (cT 0, 302, .inl f9u4)), (yr 33, .inl (cT 0, 302, .inl f1u3)), (yr 35, .inl (cT 0, 302, .inl f1u7)), (y, .inr (11, MO yr yi ysb ybs)), (yr 34, .inl (cT 0, 302, .inl f1u4)), (yr 32, .inl (cT 0, 302, .inl f1u8)), (yr 31, .inl (cT 0, 302, .inl f1u10))] _ := hP
      have hD : va_D A [(yr 36, .inl (cT 0, 302, .inl fb)), (yr 39, .inl (cT 0, 302, .inl k6)), (yr 45, .inl (cT 0, 6336, .inl fr)), (yr 30, .inl (cT 0, 302, .inl f9u4)), (yr 33, .inl (cT 0, 302, .inl f1u3)), (yr 35, .inl (cT 0, 302, .inl f1u7)), (y, .inr (11, MO yr yi ysb ybs)), (yr 34, .inl (cT 0, 302, .inl f1u4)), (yr 32, .inl (cT 0, 302, .inl f1u8)), (yr 31, .inl (cT 0, 302, .inl f1u10))] := hD
      have mT2 := hpu10
      refine lv_aload_n hx hb dM_weigh_161 rfl (lv_at hl 5 rfl) ?_
      refine va_get (D := D) (ci := 11) (v := .ref (yr 35)) (C := R_M) (T := T_M) (N := 60) hx hb hT in_M hown hK hP 6 rfl rfl 35 (by decide) (hT _ w1139) (fun _ h9 => h9) rfl dM_weigh_162 ?_
      refine lv_aload_n hx hb dM_weigh_165 rfl (lv_at hl 5 rfl) ?_
      refine va_get (D := D) (ci := 11) (v := .ref (yr 31)) (C := R_M) (T := T_M) (N := 60) hx hb hT in_M hown hK hP 6 rfl rfl 31 (by decide) (hT _ w1135) (fun _ h9 => h9) rfl dM_weigh_166 ?_
      refine lv_iconst (v := 1) hx hb dM_weigh_169 (by decide) ?_
      refine rw_v (wc := [(yr 35, .inl (cT 0, 302, .inl f1u7)), (yr 31, .inl (cT 0, 302, .inl f1u10))]) (wr := [(yr 36, .inl (cT 0, 302, .inl fb)), (yr 39, .inl (cT 0, 302, .inl k6)), (yr 45, .inl (cT 0, 6336, .inl fr)), (yr 30, .inl (cT 0, 302, .inl f9u4)), (yr 33, .inl (cT 0, 302, .inl f1u3)), (y, .inr (11, MO yr yi ysb ybs)), (yr 34, .inl (cT 0, 302, .inl f1u4)), (yr 32, .inl (cT 0, 302, .inl f1u8))]) hP hD hS hA [5, 9] [0, 1, 2, 3, 4, 6, 7, 8] rfl rfl (by decide) (by decide) (va_runS (As := [.ref (yr 35), .ref (yr 31), .int 1]) (rest := []) ⟨hx, hb, hml, hown, hT⟩ (m_add0 l D cT (yr 35) f1u7 (sl * sl * ((rx * nx : Nat) : Int)) (yr 31) f1u10 (sr * sr * ((lx * nx : Nat) : Int)) mG2 mT2 (up250 (fit1 (Q := Q) (m := 9248) (by omega) (by decide) hfit)) _) ⟨callB_of 3 hT (tb_gd w1423) rfl rfl rfl (hT _ w13) (hT _ w1421) hM_add ⟨Nat.le_of_ble_eq_true rfl, Nat.le_of_ble_eq_true rfl⟩, (hT _ w1422)⟩ (RW.preS hZ hS (va_free (wc := [(yr 35, .inl (cT 0, 302, .inl f1u7)), (yr 31, .inl (cT 0, 302, .inl f1u10))]) hD hS hA [5, 9] rfl) (hP.sub (ws' := [(yr 35, .inl (cT 0, 302, .inl f1u7)), (yr 31, .inl (cT 0, 302, .inl f1u10))]) [5, 9] rfl) hK (hD.sub (ws' := [(yr 35, .inl (cT 0, 302, .inl f1u7)), (yr 31, .inl (cT 0, 302, .inl f1u10))]) [5, 9] (by decide) rfl)) rfl rfl hl.1 rfl (lv_room (Nat.le_of_ble_eq_true rfl)) dM_weigh_170 ⟨Nat.le_of_ble_eq_true rfl, Nat.le_of_ble_eq_true rfl⟩) (fun u9 H locs hpu11 hP hD hS => ?_)
      obtain ⟨f1u11, rfl⟩ : ∃ q9, q9 = u9 := ⟨_, rfl⟩
      have hpu11 : MN f1u11 ((sl * sl * ((rx * nx : Nat) : Int)) + (sr * sr * ((lx * nx : Nat) : Int))) := hpu11
      have hP : va_P D vwCl [(yr 36, .inl (cT 0, 302, .inl fb)), (yr 39, .inl (cT 0, 302, .inl k6)), (yr 45, .inl (cT 0, 6336, .inl fr)), (yr 30, .inl (cT 0, 302, .inl f9u4)), (yr 33, .inl (cT 0, 302, .inl f1u3)), (y, .inr (11, MO yr yi ysb ybs)), (yr 34, .inl (cT 0, 302, .inl f1u4)), (yr 32, .inl (cT 0, 302, .inl f1u8)), (yr 35, .inl (cT 0, 302, .inl f1u11)), (yr 31, .inl (cT 0, 302, .inl f1u10))] _ := hP
      have hD : va_D A [(yr 36, .inl (cT 0, 302, .inl fb)), (yr 39, .inl (cT 0, 302, .inl k6)), (yr 45, .inl (cT 0, 6336, .inl fr)), (yr 30, .inl (cT 0, 302, .inl f9u4)), (yr 33, .inl (cT 0, 302, .inl f1u3)), (y, .inr (11, MO yr yi ysb ybs)), (yr 34, .inl (cT 0, 302, .inl f1u4)), (yr 32, .inl (cT 0, 302, .inl f1u8)), (yr 35, .inl (cT 0, 302, .inl f1u11)), (yr 31, .inl (cT 0, 302, .inl f1u10))] := hD
      have mG3 := hpu11
      refine lv_aload_n hx hb dM_weigh_173 rfl (lv_at hl 5 rfl) ?_
      refine va_get (D := D) (ci := 11) (v := .ref (yr 33)) (C := R_M) (T := T_M) (N := 60) hx hb hT in_M hown hK hP 5 rfl rfl 33 (by decide) (hT _ w1137) (fun _ h9 => h9) rfl dM_weigh_174 ?_
      refine lv_aload_n hx hb dM_weigh_177 rfl (lv_at hl 5 rfl) ?_
      refine va_get (D := D) (ci := 11) (v := .ref (yr 34)) (C := R_M) (T := T_M) (N := 60) hx hb hT in_M hown hK hP 5 rfl rfl 34 (by decide) (hT _ w1138) (fun _ h9 => h9) rfl dM_weigh_178 ?_
      refine lv_iconst (v := 1) hx hb dM_weigh_181 (by decide) ?_
      refine rw_v (wc := [(yr 33, .inl (cT 0, 302, .inl f1u3)), (yr 34, .inl (cT 0, 302, .inl f1u4))]) (wr := [(yr 36, .inl (cT 0, 302, .inl fb)), (yr 39, .inl (cT 0, 302, .inl k6)), (yr 45, .inl (cT 0, 6336, .inl fr)), (yr 30, .inl (cT 0, 302, .inl f9u4)), (y, .inr (11, MO yr yi ysb ybs)), (yr 32, .inl (cT 0, 302, .inl f1u8)), (yr 35, .inl (cT 0, 302, .inl f1u11)), (yr 31, .inl (cT 0, 302, .inl f1u10))]) hP hD hS hA [4, 6] [0, 1, 2, 3, 5, 7, 8, 9] rfl rfl (by decide) (by decide) (va_runS (As := [.ref (yr 33), .ref (yr 34), .int 1]) (rest := []) ⟨hx, hb, hml, hown, hT⟩ (m_add0 l D cT (yr 33) f1u3 sl (yr 34) f1u4 sr mL mR (Nat.lt_of_le_of_lt (show sl.natAbs + sr.natAbs ≤ 2 * (n * ZB) by omega) (by omega)) _) ⟨callB_of 3 hT (tb_gd w1423) rfl rfl rfl (hT _ w13) (hT _ w1421) hM_add ⟨Nat.le_of_ble_eq_true rfl, Nat.le_of_ble_eq_true rfl⟩, (hT _ w1422)⟩ (RW.preS hZ hS (va_free (wc := [(yr 33, .inl (cT 0, 302, .inl f1u3)), (yr 34, .inl (cT 0, 302, .inl f1u4))]) hD hS hA [4, 6] rfl) (hP.sub (ws' := [(yr 33, .inl (cT 0, 302, .inl f1u3)), (yr 34, .inl (cT 0, 302, .inl f1u4))]) [4, 6] rfl) hK (hD.sub (ws' := [(yr 33, .inl (cT 0, 302, .inl f1u3)), (yr 34, .inl (cT 0, 302, .inl f1u4))]) [4, 6] (by decide) rfl)) rfl rfl hl.1 rfl (lv_room (Nat.le_of_ble_eq_true rfl)) dM_weigh_182 ⟨Nat.le_of_ble_eq_true rfl, Nat.le_of_ble_eq_true rfl⟩) (fun u9 H locs hpu12 hP hD hS => ?_)
      obtain ⟨f1u12, rfl⟩ : ∃ q9, q9 = u9 := ⟨_, rfl⟩
      have hpu12 : MN f1u12 (sl + sr) := hpu12
      have hP : va_P D vwCl [(yr 36, .inl (cT 0, 302, .inl fb)), (yr 39, .inl (cT 0, 302, .inl k6)), (yr 45, .inl (cT 0, 6336, .inl fr)), (yr 30, .inl (cT 0, 302, .inl f9u4)), (y, .inr (11, MO yr yi ysb ybs)), (yr 32, .inl (cT 0, 302, .inl f1u8)), (yr 35, .inl (cT 0, 302, .inl f1u11)), (yr 31, .inl (cT 0, 302, .inl f1u10)), (yr 33, .inl (cT 0, 302, .inl f1u12)), (yr 34, .inl (cT 0, 302, .inl f1u4))] _ := hP
      have hD : va_D A [(yr 36, .inl (cT 0, 302, .inl fb)), (yr 39, .inl (cT 0, 302, .inl k6)), (yr 45, .inl (cT 0, 6336, .inl fr)), (yr 30, .inl (cT 0, 302, .inl f9u4)), (y, .inr (11, MO yr yi ysb ybs)), (yr 32, .inl (cT 0, 302, .inl f1u8)), (yr 35, .inl (cT 0, 302, .inl f1u11)), (yr 31, .inl (cT 0, 302, .inl f1u10)), (yr 33, .inl (cT 0, 302, .inl f1u12)), (yr 34, .inl (cT 0, 302, .inl f1u4))] := hD
      have mS := hpu12
      refine lv_aload_n hx hb dM_weigh_185 rfl (lv_at hl 5 rfl) ?_
      refine lv_aload_n hx hb dM_weigh_186 rfl (lv_at hl 5 rfl) ?_
      refine va_get (D := D) (ci := 11) (v := .ref (yr 33)) (C := R_M) (T := T_M) (N := 60) hx hb hT in_M hown hK hP 4 rfl rfl 33 (by decide) (hT _ w1137) (fun _ h9 => h9) rfl dM_weigh_187 ?_
      refine lv_aload_n hx hb dM_weigh_190 rfl (lv_at hl 5 rfl) ?_
      refine va_get (D := D) (ci := 11) (v := .ref (yr 33)) (C := R_M) (T := T_M) (N := 60) hx hb hT in_M hown hK hP 4 rfl rfl 33 (by decide) (hT _ w1137) (fun _ h9 => h9) rfl dM_weigh_191 ?_
      refine rw_v (wc := [(y, .inr (11, MO yr yi ysb ybs)), (yr 32, .inl (cT 0, 302, .inl f1u8)), (yr 33, .inl (cT 0, 302, .inl f1u12))]) (wr := [(yr 36, .inl (cT 0, 302, .inl fb)), (yr 39, .inl (cT 0, 302, .inl k6)), (yr 45, .inl (cT 0, 6336, .inl fr)), (yr 30, .inl (cT 0, 302, .inl f9u4)), (yr 35, .inl (cT 0, 302, .inl f1u11)), (yr 31, .inl (cT 0, 302, .inl f1u10)), (yr 34, .inl (cT 0, 302, .inl f1u4))]) hP hD hS hA [4, 5, 8] [0, 1, 2, 3, 6, 7, 9] rfl rfl (by decide) (by decide) (va_runV (As := [.ref (yr 33), .ref (yr 33)]) (rest := []) ⟨hx, hb, hml, hown, hT⟩ (m_square l D cT y yr yi ysb ybs f1u8 (yr 33) f1u12 (sl + sr) mS (by rw [← Int.natAbs_mul]; exact up250 (fit1 (Q := Q) (m := 1) (by rw [Nat.mul_one]; exact q3) (by decide) hfit)) _) ⟨callB_of 2 hT (tb_gd w1503) rfl rfl rfl (hT _ w13) (hT _ w1500) hM_multiply ⟨Nat.le_of_ble_eq_true rfl, Nat.le_of_ble_eq_true rfl⟩, (hT _ w1502), (hT _ wp54)⟩ (RW.preV (ci := 11) (q0 := 0) hZ hS (va_free (wc := [(y, .inr (11, MO yr yi ysb ybs)), (yr 32, .inl (cT 0, 302, .inl f1u8)), (yr 33, .inl (cT 0, 302, .inl f1u12))]) hD hS hA [4, 5, 8] rfl) (hP.sub (ws' := [(y, .inr (11, MO yr yi ysb ybs)), (yr 32, .inl (cT 0, 302, .inl f1u8)), (yr 33, .inl (cT 0, 302, .inl f1u12))]) [4, 5, 8] rfl) hK (hD.sub (ws' := [(y, .inr (11, MO yr yi ysb ybs)), (yr 32, .inl (cT 0, 302, .inl f1u8)), (yr 33, .inl (cT 0, 302, .inl f1u12))]) [4, 5, 8] (by decide) rfl) rfl rfl) rfl rfl hl.1 rfl (lv_room (Nat.le_of_ble_eq_true rfl)) dM_weigh_194 ⟨Nat.le_of_ble_eq_true rfl, Nat.le_of_ble_eq_true rfl⟩) (fun u9 H locs hpu13 hP hD hS => ?_)
      obtain ⟨f1u13, rfl⟩ : ∃ q9, q9 = u9 := ⟨_, rfl⟩
      have hpu13 : MN f1u13 ((sl + sr) * (sl + sr)) := hpu13
      have hP : va_P D vwCl [(yr 36, .inl (cT 0, 302, .inl fb)), (yr 39, .inl (cT 0, 302, .inl k6)), (yr 45, .inl (cT 0, 6336, .inl fr)), (yr 30, .inl (cT 0, 302, .inl f9u4)), (yr 35, .inl (cT 0, 302, .inl f1u11)), (yr 31, .inl (cT 0, 302, .inl f1u10)), (yr 34, .inl (cT 0, 302, .inl f1u4)), (y, .inr (11, MO yr yi ysb ybs)), (yr 32, .inl (cT 0, 302, .inl f1u13)), (yr 33, .inl (cT 0, 302, .inl f1u12))] _ := hP
      have hD : va_D A [(yr 36, .inl (cT 0, 302, .inl fb)), (yr 39, .inl (cT 0, 302, .inl k6)), (yr 45, .inl (cT 0, 6336, .inl fr)), (yr 30, .inl (cT 0, 302, .inl f9u4)), (yr 35, .inl (cT 0, 302, .inl f1u11)), (yr 31, .inl (cT 0, 302, .inl f1u10)), (yr 34, .inl (cT 0, 302, .inl f1u4)), (y, .inr (11, MO yr yi ysb ybs)), (yr 32, .inl (cT 0, 302, .inl f1u13)), (yr 33, .inl (cT 0, 302, .inl f1u12))] := hD
      have mP3 := hpu13
      refine lv_aload_n hx hb dM_weigh_197 rfl (lv_at hl 5 rfl) ?_
      refine va_get (D := D) (ci := 11) (v := .ref (yr 32)) (C := R_M) (T := T_M) (N := 60) hx hb hT in_M hown hK hP 7 rfl rfl 32 (by decide) (hT _ w1136) (fun _ h9 => h9) rfl dM_weigh_198 ?_
      refine lv_aload_n hx hb dM_weigh_201 rfl (lv_at hl 5 rfl) ?_
      refine va_get (D := D) (ci := 11) (v := .ref (yr 31)) (C := R_M) (T := T_M) (N := 60) hx hb hT in_M hown hK hP 7 rfl rfl 31 (by decide) (hT _ w1135) (fun _ h9 => h9) rfl dM_weigh_202 ?_
      refine rw_v (wc := [(yr 32, .inl (cT 0, 302, .inl f1u13)), (yr 31, .inl (cT 0, 302, .inl f1u10))]) (wr := [(yr 36, .inl (cT 0, 302, .inl fb)), (yr 39, .inl (cT 0, 302, .inl k6)), (yr 45, .inl (cT 0, 6336, .inl fr)), (yr 30, .inl (cT 0, 302, .inl f9u4)), (yr 35, .inl (cT 0, 302, .inl f1u11)), (yr 34, .inl (cT 0, 302, .inl f1u4)), (y, .inr (11, MO yr yi ysb ybs)), (yr 33, .inl (cT 0, 302, .inl f1u12))]) hP hD hS hA [8, 5] [0, 1, 2, 3, 4, 6, 7, 9] rfl rfl (by decide) (by decide) (va_runS (As := [.ref (yr 32), .ref (yr 31)]) (rest := []) ⟨hx, hb, hml, hown, hT⟩ (m_copy l D cT (yr 32) f1u13 ((sl + sr) * (sl + sr)) (yr 31) f1u10 mP3 _) ⟨callB_of 2 hT (tb_gd w1426) rfl rfl rfl (hT _ w13) (hT _ w1424) hM_copy ⟨Nat.le_of_ble_eq_true rfl, Nat.le_of_ble_eq_true rfl⟩, (hT _ w1425)⟩ (RW.preS hZ hS (va_free (wc := [(yr 32, .inl (cT 0, 302, .inl f1u13)), (yr 31, .inl (cT 0, 302, .inl f1u10))]) hD hS hA [8, 5] rfl) (hP.sub (ws' := [(yr 32, .inl (cT 0, 302, .inl f1u13)), (yr 31, .inl (cT 0, 302, .inl f1u10))]) [8, 5] rfl) hK (hD.sub (ws' := [(yr 32, .inl (cT 0, 302, .inl f1u13)), (yr 31, .inl (cT 0, 302, .inl f1u10))]) [8, 5] (by decide) rfl)) rfl rfl hl.1 rfl (lv_room (Nat.le_of_ble_eq_true rfl)) dM_weigh_205 ⟨Nat.le_of_ble_eq_true rfl, Nat.le_of_ble_eq_true rfl⟩) (fun u9 H locs hpu14 hP hD hS => ?_)
      obtain ⟨f1u14, rfl⟩ : ∃ q9, q9 = u9 := ⟨_, rfl⟩
      have hpu14 : MN f1u14 ((sl + sr) * (sl + sr)) := hpu14
      have hP : va_P D vwCl [(yr 36, .inl (cT 0, 302, .inl fb)), (yr 39, .inl (cT 0, 302, .inl k6)), (yr 45, .inl (cT 0, 6336, .inl fr)), (yr 30, .inl (cT 0, 302, .inl f9u4)), (yr 35, .inl (cT 0, 302, .inl f1u11)), (yr 34, .inl (cT 0, 302, .inl f1u4)), (y, .inr (11, MO yr yi ysb ybs)), (yr 33, .inl (cT 0, 302, .inl f1u12)), (yr 32, .inl (cT 0, 302, .inl f1u13)), (yr 31, .inl (cT 0, 302, .inl f1u14))] _ := hP
      have hD : va_D A [(yr 36, .inl (cT 0, 302, .inl fb)), (yr 39, .inl (cT 0, 302, .inl k6)), (yr 45, .inl (cT 0, 6336, .inl fr)), (yr 30, .inl (cT 0, 302, .inl f9u4)), (yr 35, .inl (cT 0, 302, .inl f1u11)), (yr 34, .inl (cT 0, 302, .inl f1u4)), (y, .inr (11, MO yr yi ysb ybs)), (yr 33, .inl (cT 0, 302, .inl f1u12)), (yr 32, .inl (cT 0, 302, .inl f1u13)), (yr 31, .inl (cT 0, 302, .inl f1u14))] := hD
      have mT3 := hpu14
      refine lv_aload_n hx hb dM_weigh_208 rfl (lv_at hl 5 rfl) ?_
      refine va_get (D := D) (ci := 11) (v := .ref (yr 31)) (C := R_M) (T := T_M) (N := 60) hx hb hT in_M hown hK hP 6 rfl rfl 31 (by decide) (hT _ w1135) (fun _ h9 => h9) rfl dM_weigh_209 ?_
      refine lv_iload hx hb dM_weigh_212 (lv_at hl 2 rfl) ?_
      refine lv_iload hx hb dM_weigh_214 (lv_at hl 1 rfl) ?_
      refine lv_imul hx hb dM_weigh_216 ?_
      refine lv_topi (fun y9 e9 => ?_)
      cases (show y9 = nI (lx * rx) from e9.trans (pk_mul lx rx))
      refine rw_v (wc := [(yr 31, .inl (cT 0, 302, .inl f1u14))]) (wr := [(yr 36, .inl (cT 0, 302, .inl fb)), (yr 39, .inl (cT 0, 302, .inl k6)), (yr 45, .inl (cT 0, 6336, .inl fr)), (yr 30, .inl (cT 0, 302, .inl f9u4)), (yr 35, .inl (cT 0, 302, .inl f1u11)), (yr 34, .inl (cT 0, 302, .inl f1u4)), (y, .inr (11, MO yr yi ysb ybs)), (yr 33, .inl (cT 0, 302, .inl f1u12)), (yr 32, .inl (cT 0, 302, .inl f1u13))]) hP hD hS hA [9] [0, 1, 2, 3, 4, 5, 6, 7, 8] rfl rfl (by decide) (by decide) (va_runS (As := [.ref (yr 31), .int (nI (lx * rx))]) (rest := []) ⟨hx, hb, hml, hown, hT⟩ (m_times l D cT (yr 31) f1u14 ((sl + sr) * (sl + sr)) (lx * rx) mT3 p3 (by omega) (fitm (Q := Q) q3 (by omega) hfit) _) ⟨callB_of 2 hT (tb_gd w1417) rfl rfl rfl (hT _ w13) (hT _ w1415) hM_times ⟨Nat.le_of_ble_eq_true rfl, Nat.le_of_ble_eq_true rfl⟩, (hT _ w1416)⟩ (RW.preS hZ hS (va_free (wc := [(yr 31, .inl (cT 0, 302, .inl f1u14))]) hD hS hA [9] rfl) (hP.sub (ws' := [(yr 31, .inl (cT 0, 302, .inl f1u14))]) [9] rfl) hK (hD.sub (ws' := [(yr 31, .inl (cT 0, 302, .inl f1u14))]) [9] (by decide) rfl)) rfl rfl hl.1 rfl (lv_room (Nat.le_of_ble_eq_true rfl)) dM_weigh_217 ⟨Nat.le_of_ble_eq_true rfl, Nat.le_of_ble_eq_true rfl⟩) (fun u9 H locs hpu15 hP hD hS => ?_)
      obtain ⟨f1u15, rfl⟩ : ∃ q9, q9 = u9 := ⟨_, rfl⟩
      have hpu15 : MN f1u15 (((sl + sr) * (sl + sr)) * (lx * rx)) := hpu15
      have hP : va_P D vwCl [(yr 36, .inl (cT 0, 302, .inl fb)), (yr 39, .inl (cT 0, 302, .inl k6)), (yr 45, .inl (cT 0, 6336, .inl fr)), (yr 30, .inl (cT 0, 302, .inl f9u4)), (yr 35, .inl (cT 0, 302, .inl f1u11)), (yr 34, .inl (cT 0, 302, .inl f1u4)), (y, .inr (11, MO yr yi ysb ybs)), (yr 33, .inl (cT 0, 302, .inl f1u12)), (yr 32, .inl (cT 0, 302, .inl f1u13)), (yr 31, .inl (cT 0, 302, .inl f1u15))] _ := hP
      have hD : va_D A [(yr 36, .inl (cT 0, 302, .inl fb)), (yr 39, .inl (cT 0, 302, .inl k6)), (yr 45, .inl (cT 0, 6336, .inl fr)), (yr 30, .inl (cT 0, 302, .inl f9u4)), (yr 35, .inl (cT 0, 302, .inl f1u11)), (yr 34, .inl (cT 0, 302, .inl f1u4)), (y, .inr (11, MO yr yi ysb ybs)), (yr 33, .inl (cT 0, 302, .inl f1u12)), (yr 32, .inl (cT 0, 302, .inl f1u13)), (yr 31, .inl (cT 0, 302, .inl f1u15))] := hD
      have mT4 := hpu15
      refine lv_aload_n hx hb dM_weigh_220 rfl (lv_at hl 5 rfl) ?_
      refine va_get (D := D) (ci := 11) (v := .ref (yr 35)) (C := R_M) (T := T_M) (N := 60) hx hb hT in_M hown hK hP 6 rfl rfl 35 (by decide) (hT _ w1139) (fun _ h9 => h9) rfl dM_weigh_221 ?_
      refine lv_aload_n hx hb dM_weigh_224 rfl (lv_at hl 5 rfl) ?_
      refine va_get (D := D) (ci := 11) (v := .ref (yr 31)) (C := R_M) (T := T_M) (N := 60) hx hb hT in_M hown hK hP 6 rfl rfl 31 (by decide) (hT _ w1135) (fun _ h9 => h9) rfl dM_weigh_225 ?_
      refine lv_iconst (v := (-1)) hx hb dM_weigh_228 (by decide) ?_
      refine rw_v (wc := [(yr 35, .inl (cT 0, 302, .inl f1u11)), (yr 31, .inl (cT 0, 302, .inl f1u15))]) (wr := [(yr 36, .inl (cT 0, 302, .inl fb)), (yr 39, .inl (cT 0, 302, .inl k6)), (yr 45, .inl (cT 0, 6336, .inl fr)), (yr 30, .inl (cT 0, 302, .inl f9u4)), (yr 34, .inl (cT 0, 302, .inl f1u4)), (y, .inr (11, MO yr yi ysb ybs)), (yr 33, .inl (cT 0, 302, .inl f1u12)), (yr 32, .inl (cT 0, 302, .inl f1u13))]) hP hD hS hA [4, 9] [0, 1, 2, 3, 5, 6, 7, 8] rfl rfl (by decide) (by decide) (va_runS (As := [.ref (yr 35), .ref (yr 31), .int (-1)]) (rest := []) ⟨hx, hb, hml, hown, hT⟩ (m_add1 l D cT (yr 35) f1u11 (sl * sl * ((rx * nx : Nat) : Int) + sr * sr * ((lx * nx : Nat) : Int)) (yr 31) f1u15 ((sl + sr) * (sl + sr) * ((lx * rx : Nat) : Int)) mG3 mT4 (up250 (fit1 (Q := Q) (m := 13872) (by omega) (by decide) hfit)) _) ⟨callB_of 3 hT (tb_gd w1423) rfl rfl rfl (hT _ w13) (hT _ w1421) hM_add ⟨Nat.le_of_ble_eq_true rfl, Nat.le_of_ble_eq_true rfl⟩, (hT _ w1422)⟩ (RW.preS hZ hS (va_free (wc := [(yr 35, .inl (cT 0, 302, .inl f1u11)), (yr 31, .inl (cT 0, 302, .inl f1u15))]) hD hS hA [4, 9] rfl) (hP.sub (ws' := [(yr 35, .inl (cT 0, 302, .inl f1u11)), (yr 31, .inl (cT 0, 302, .inl f1u15))]) [4, 9] rfl) hK (hD.sub (ws' := [(yr 35, .inl (cT 0, 302, .inl f1u11)), (yr 31, .inl (cT 0, 302, .inl f1u15))]) [4, 9] (by decide) rfl)) rfl rfl hl.1 rfl (lv_room (Nat.le_of_ble_eq_true rfl)) dM_weigh_229 ⟨Nat.le_of_ble_eq_true rfl, Nat.le_of_ble_eq_true rfl⟩) (fun u9 H locs hpu16 hP hD hS => ?_)
      obtain ⟨f1u16, rfl⟩ : ∃ q9, q9 = u9 := ⟨_, rfl⟩
      have hpu16 : MN f1u16 ((sl * sl * ((rx * nx : Nat) : Int) + sr * sr * ((lx * nx : Nat) : Int)) - ((sl + sr) * (sl + sr) * ((lx * rx : Nat) : Int))) := hpu16
      have hP : va_P D vwCl [(yr 36, .inl (cT 0, 302, .inl fb)), (yr 39, .inl (cT 0, 302, .inl k6)), (yr 45, .inl (cT 0, 6336, .inl fr)), (yr 30, .inl (cT 0, 302, .inl f9u4)), (yr 34, .inl (cT 0, 302, .inl f1u4)), (y, .inr (11, MO yr yi ysb ybs)), (yr 33, .inl (cT 0, 302, .inl f1u12)), (yr 32, .inl (cT 0, 302, .inl f1u13)), (yr 35, .inl (cT 0, 302, .inl f1u16)), (yr 31, .inl (cT 0, 302, .inl f1u15))] _ := hP
      have hD : va_D A [(yr 36, .inl (cT 0, 302, .inl fb)), (yr 39, .inl (cT 0, 302, .inl k6)), (yr 45, .inl (cT 0, 6336, .inl fr)), (yr 30, .inl (cT 0, 302, .inl f9u4)), (yr 34, .inl (cT 0, 302, .inl f1u4)), (y, .inr (11, MO yr yi ysb ybs)), (yr 33, .inl (cT 0, 302, .inl f1u12)), (yr 32, .inl (cT 0, 302, .inl f1u13)), (yr 35, .inl (cT 0, 302, .inl f1u16)), (yr 31, .inl (cT 0, 302, .inl f1u15))] := hD
      have mG4 := hpu16
      obtain ⟨gg, hgg⟩ : ∃ q9 : Int, q9 = sl * sl * ((rx * nx : Nat) : Int) + sr * sr * ((lx * nx : Nat) : Int) - (sl + sr) * (sl + sr) * ((lx * rx : Nat) : Int) := ⟨_, rfl⟩
      rw [← hgg] at mG4
      have hgb : gg.natAbs ≤ Q * 20000 := by omega
      have hgz : gZ sl sr lx rx nx = gg := hgg.symm
      refine lv_aload_n hx hb dM_weigh_232 rfl (lv_at hl 5 rfl) ?_
      refine va_get (D := D) (ci := 11) (v := .ref (yr 35)) (C := R_M) (T := T_M) (N := 60) hx hb hT in_M hown hK hP 5 rfl rfl 35 (by decide) (hT _ w1139) (fun _ h9 => h9) rfl dM_weigh_233 ?_
      refine lv_aload_n hx hb dM_weigh_236 rfl (lv_at hl 5 rfl) ?_
      refine va_get (D := D) (ci := 11) (v := .ref (yr 31)) (C := R_M) (T := T_M) (N := 60) hx hb hT in_M hown hK hP 5 rfl rfl 31 (by decide) (hT _ w1135) (fun _ h9 => h9) rfl dM_weigh_237 ?_
      refine rw_v (wc := [(yr 35, .inl (cT 0, 302, .inl f1u16)), (yr 31, .inl (cT 0, 302, .inl f1u15))]) (wr := [(yr 36, .inl (cT 0, 302, .inl fb)), (yr 39, .inl (cT 0, 302, .inl k6)), (yr 45, .inl (cT 0, 6336, .inl fr)), (yr 30, .inl (cT 0, 302, .inl f9u4)), (yr 34, .inl (cT 0, 302, .inl f1u4)), (y, .inr (11, MO yr yi ysb ybs)), (yr 33, .inl (cT 0, 302, .inl f1u12)), (yr 32, .inl (cT 0, 302, .inl f1u13))]) hP hD hS hA [8, 9] [0, 1, 2, 3, 4, 5, 6, 7] rfl rfl (by decide) (by decide) (va_runS (As := [.ref (yr 35), .ref (yr 31)]) (rest := []) ⟨hx, hb, hml, hown, hT⟩ (m_copy l D cT (yr 35) f1u16 gg (yr 31) f1u15 mG4 _) ⟨callB_of 2 hT (tb_gd w1426) rfl rfl rfl (hT _ w13) (hT _ w1424) hM_copy ⟨Nat.le_of_ble_eq_true rfl, Nat.le_of_ble_eq_true rfl⟩, (hT _ w1425)⟩ (RW.preS hZ hS (va_free (wc := [(yr 35, .inl (cT 0, 302, .inl f1u16)), (yr 31, .inl (cT 0, 302, .inl f1u15))]) hD hS hA [8, 9] rfl) (hP.sub (ws' := [(yr 35, .inl (cT 0, 302, .inl f1u16)), (yr 31, .inl (cT 0, 302, .inl f1u15))]) [8, 9] rfl) hK (hD.sub (ws' := [(yr 35, .inl (cT 0, 302, .inl f1u16)), (yr 31, .inl (cT 0, 302, .inl f1u15))]) [8, 9] (by decide) rfl)) rfl rfl hl.1 rfl (lv_room (Nat.le_of_ble_eq_true rfl)) dM_weigh_240 ⟨Nat.le_of_ble_eq_true rfl, Nat.le_of_ble_eq_true rfl⟩) (fun u9 H locs hpu17 hP hD hS => ?_)
      obtain ⟨f1u17, rfl⟩ : ∃ q9, q9 = u9 := ⟨_, rfl⟩
      have hpu17 : MN f1u17 gg := hpu17
      have hP : va_P D vwCl [(yr 36, .inl (cT 0, 302, .inl fb)), (yr 39, .inl (cT 0, 302, .inl k6)), (yr 45, .inl (cT 0, 6336, .inl fr)), (yr 30, .inl (cT 0, 302, .inl f9u4)), (yr 34, .inl (cT 0, 302, .inl f1u4)), (y, .inr (11, MO yr yi ysb ybs)), (yr 33, .inl (cT 0, 302, .inl f1u12)), (yr 32, .inl (cT 0, 302, .inl f1u13)), (yr 35, .inl (cT 0, 302, .inl f1u16)), (yr 31, .inl (cT 0, 302, .inl f1u17))] _ := hP
      have hD : va_D A [(yr 36, .inl (cT 0, 302, .inl fb)), (yr 39, .inl (cT 0, 302, .inl k6)), (yr 45, .inl (cT 0, 6336, .inl fr)), (yr 30, .inl (cT 0, 302, .inl f9u4)), (yr 34, .inl (cT 0, 302, .inl f1u4)), (y, .inr (11, MO yr yi ysb ybs)), (yr 33, .inl (cT 0, 302, .inl f1u12)), (yr 32, .inl (cT 0, 302, .inl f1u13)), (yr 35, .inl (cT 0, 302, .inl f1u16)), (yr 31, .inl (cT 0, 302, .inl f1u17))] := hD
      have mT5 := hpu17
      refine lv_aload_n hx hb dM_weigh_243 rfl (lv_at hl 5 rfl) ?_
      refine va_get (D := D) (ci := 11) (v := .ref (yr 31)) (C := R_M) (T := T_M) (N := 60) hx hb hT in_M hown hK hP 5 rfl rfl 31 (by decide) (hT _ w1135) (fun _ h9 => h9) rfl dM_weigh_244 ?_
      refine lv_aload_n hx hb dM_weigh_247 rfl (lv_at hl 5 rfl) ?_
      refine va_get (D := D) (ci := 11) (v := .int (yi 50)) (C := R_M) (T := T_M) (N := 60) hx hb hT in_M hown hK hP 5 rfl rfl 50 (by decide) (hT _ w1154) (fun _ h9 => h9) rfl dM_weigh_248 ?_
      refine lv_topi (fun y9 e9 => ?_)
      cases (show y9 = nI u0 from e9.trans b5)
      refine rw_v (wc := [(yr 31, .inl (cT 0, 302, .inl f1u17))]) (wr := [(yr 36, .inl (cT 0, 302, .inl fb)), (yr 39, .inl (cT 0, 302, .inl k6)), (yr 45, .inl (cT 0, 6336, .inl fr)), (yr 30, .inl (cT 0, 302, .inl f9u4)), (yr 34, .inl (cT 0, 302, .inl f1u4)), (y, .inr (11, MO yr yi ysb ybs)), (yr 33, .inl (cT 0, 302, .inl f1u12)), (yr 32, .inl (cT 0, 302, .inl f1u13)), (yr 35, .inl (cT 0, 302, .inl f1u16))]) hP hD hS hA [9] [0, 1, 2, 3, 4, 5, 6, 7, 8] rfl rfl (by decide) (by decide) (va_runS (As := [.ref (yr 31), .int (nI u0)]) (rest := []) ⟨hx, hb, hml, hown, hT⟩ (m_times l D cT (yr 31) f1u17 gg u0 mT5 b3 (by omega) (fitm2 (Q := Q) hgb (by omega) hfit) _) ⟨callB_of 2 hT (tb_gd w1417) rfl rfl rfl (hT _ w13) (hT _ w1415) hM_times ⟨Nat.le_of_ble_eq_true rfl, Nat.le_of_ble_eq_true rfl⟩, (hT _ w1416)⟩ (RW.preS hZ hS (va_free (wc := [(yr 31, .inl (cT 0, 302, .inl f1u17))]) hD hS hA [9] rfl) (hP.sub (ws' := [(yr 31, .inl (cT 0, 302, .inl f1u17))]) [9] rfl) hK (hD.sub (ws' := [(yr 31, .inl (cT 0, 302, .inl f1u17))]) [9] (by decide) rfl)) rfl rfl hl.1 rfl (lv_room (Nat.le_of_ble_eq_true rfl)) dM_weigh_251 ⟨Nat.le_of_ble_eq_true rfl, Nat.le_of_ble_eq_true rfl⟩) (fun u9 H locs hpu18 hP hD hS => ?_)
      obtain ⟨f1u18, rfl⟩ : ∃ q9, q9 = u9 := ⟨_, rfl⟩
      have hpu18 : MN f1u18 (gg * u0) := hpu18
      have hP : va_P D vwCl [(yr 36, .inl (cT 0, 302, .inl fb)), (yr 39, .inl (cT 0, 302, .inl k6)), (yr 45, .inl (cT 0, 6336, .inl fr)), (yr 30, .inl (cT 0, 302, .inl f9u4)), (yr 34, .inl (cT 0, 302, .inl f1u4)), (y, .inr (11, MO yr yi ysb ybs)), (yr 33, .inl (cT 0, 302, .inl f1u12)), (yr 32, .inl (cT 0, 302, .inl f1u13)), (yr 35, .inl (cT 0, 302, .inl f1u16)), (yr 31, .inl (cT 0, 302, .inl f1u18))] _ := hP
      have hD : va_D A [(yr 36, .inl (cT 0, 302, .inl fb)), (yr 39, .inl (cT 0, 302, .inl k6)), (yr 45, .inl (cT 0, 6336, .inl fr)), (yr 30, .inl (cT 0, 302, .inl f9u4)), (yr 34, .inl (cT 0, 302, .inl f1u4)), (y, .inr (11, MO yr yi ysb ybs)), (yr 33, .inl (cT 0, 302, .inl f1u12)), (yr 32, .inl (cT 0, 302, .inl f1u13)), (yr 35, .inl (cT 0, 302, .inl f1u16)), (yr 31, .inl (cT 0, 302, .inl f1u18))] := hD
      have mT6 := hpu18
      refine lv_aload_n hx hb dM_weigh_254 rfl (lv_at hl 5 rfl) ?_
      refine va_get (D := D) (ci := 11) (v := .ref (yr 36)) (C := R_M) (T := T_M) (N := 60) hx hb hT in_M hown hK hP 5 rfl rfl 36 (by decide) (hT _ w1140) (fun _ h9 => h9) rfl dM_weigh_255 ?_
      refine lv_aload_n hx hb dM_weigh_258 rfl (lv_at hl 5 rfl) ?_
      refine va_get (D := D) (ci := 11) (v := .ref (yr 39)) (C := R_M) (T := T_M) (N := 60) hx hb hT in_M hown hK hP 5 rfl rfl 39 (by decide) (hT _ w1143) (fun _ h9 => h9) rfl dM_weigh_259 ?_
      refine rw_v (wc := [(yr 36, .inl (cT 0, 302, .inl fb)), (yr 39, .inl (cT 0, 302, .inl k6))]) (wr := [(yr 45, .inl (cT 0, 6336, .inl fr)), (yr 30, .inl (cT 0, 302, .inl f9u4)), (yr 34, .inl (cT 0, 302, .inl f1u4)), (y, .inr (11, MO yr yi ysb ybs)), (yr 33, .inl (cT 0, 302, .inl f1u12)), (yr 32, .inl (cT 0, 302, .inl f1u13)), (yr 35, .inl (cT 0, 302, .inl f1u16)), (yr 31, .inl (cT 0, 302, .inl f1u18))]) hP hD hS hA [0, 1] [2, 3, 4, 5, 6, 7, 8, 9] rfl rfl (by decide) (by decide) (va_runS (As := [.ref (yr 36), .ref (yr 39)]) (rest := []) ⟨hx, hb, hml, hown, hT⟩ (m_copy l D cT (yr 36) fb G0 (yr 39) k6 b1 _) ⟨callB_of 2 hT (tb_gd w1426) rfl rfl rfl (hT _ w13) (hT _ w1424) hM_copy ⟨Nat.le_of_ble_eq_true rfl, Nat.le_of_ble_eq_true rfl⟩, (hT _ w1425)⟩ (RW.preS hZ hS (va_free (wc := [(yr 36, .inl (cT 0, 302, .inl fb)), (yr 39, .inl (cT 0, 302, .inl k6))]) hD hS hA [0, 1] rfl) (hP.sub (ws' := [(yr 36, .inl (cT 0, 302, .inl fb)), (yr 39, .inl (cT 0, 302, .inl k6))]) [0, 1] rfl) hK (hD.sub (ws' := [(yr 36, .inl (cT 0, 302, .inl fb)), (yr 39, .inl (cT 0, 302, .inl k6))]) [0, 1] (by decide) rfl)) rfl rfl hl.1 rfl (lv_room (Nat.le_of_ble_eq_true rfl)) dM_weigh_262 ⟨Nat.le_of_ble_eq_true rfl, Nat.le_of_ble_eq_true rfl⟩) (fun u9 H locs hpu19 hP hD hS => ?_)
      obtain ⟨f1u19, rfl⟩ : ∃ q9, q9 = u9 := ⟨_, rfl⟩
      have hpu19 : MN f1u19 G0 := hpu19
      have hP : va_P D vwCl [(yr 45, .inl (cT 0, 6336, .inl fr)), (yr 30, .inl (cT 0, 302, .inl f9u4)), (yr 34, .inl (cT 0, 302, .inl f1u4)), (y, .inr (11, MO yr yi ysb ybs)), (yr 33, .inl (cT 0, 302, .inl f1u12)), (yr 32, .inl (cT 0, 302, .inl f1u13)), (yr 35, .inl (cT 0, 302, .inl f1u16)), (yr 31, .inl (cT 0, 302, .inl f1u18)), (yr 36, .inl (cT 0, 302, .inl fb)), (yr 39, .inl (cT 0, 302, .inl f1u19))] _ := hP
      have hD : va_D A [(yr 45, .inl (cT 0, 6336, .inl fr)), (yr 30, .inl (cT 0, 302, .inl f9u4)), (yr 34, .inl (cT 0, 302, .inl f1u4)), (y, .inr (11, MO yr yi ysb ybs)), (yr 33, .inl (cT 0, 302, .inl f1u12)), (yr 32, .inl (cT 0, 302, .inl f1u13)), (yr 35, .inl (cT 0, 302, .inl f1u16)), (yr 31, .inl (cT 0, 302, .inl f1u18)), (yr 36, .inl (cT 0, 302, .inl fb)), (yr 39, .inl (cT 0, 302, .inl f1u19))] := hD
      have mC1 := hpu19
      refine lv_aload_n hx hb dM_weigh_265 rfl (lv_at hl 5 rfl) ?_
      refine va_get (D := D) (ci := 11) (v := .ref (yr 39)) (C := R_M) (T := T_M) (N := 60) hx hb hT in_M hown hK hP 3 rfl rfl 39 (by decide) (hT _ w1143) (fun _ h9 => h9) rfl dM_weigh_266 ?_
      refine lv_iload hx hb dM_weigh_269 (lv_at hl 2 rfl) ?_
      refine lv_iload hx hb dM_weigh_271 (lv_at hl 1 rfl) ?_
      refine lv_imul hx hb dM_weigh_273 ?_
      refine lv_topi (fun y9 e9 => ?_)
      cases (show y9 = nI (lx * rx) from e9.trans (pk_mul lx rx))
      refine lv_iload hx hb dM_weigh_274 (lv_at hl 0 rfl) ?_
      refine lv_imul hx hb dM_weigh_276 ?_
      refine lv_topi (fun y9 e9 => ?_)
      cases (show y9 = nI ((lx * rx) * nx) from e9.trans (pk_mul (lx * rx) nx))
      refine rw_v (wc := [(yr 39, .inl (cT 0, 302, .inl f1u19))]) (wr := [(yr 45, .inl (cT 0, 6336, .inl fr)), (yr 30, .inl (cT 0, 302, .inl f9u4)), (yr 34, .inl (cT 0, 302, .inl f1u4)), (y, .inr (11, MO yr yi ysb ybs)), (yr 33, .inl (cT 0, 302, .inl f1u12)), (yr 32, .inl (cT 0, 302, .inl f1u13)), (yr 35, .inl (cT 0, 302, .inl f1u16)), (yr 31, .inl (cT 0, 302, .inl f1u18)), (yr 36, .inl (cT 0, 302, .inl fb))]) hP hD hS hA [9] [0, 1, 2, 3, 4, 5, 6, 7, 8] rfl rfl (by decide) (by decide) (va_runS (As := [.ref (yr 39), .int (nI ((lx * rx) * nx))]) (rest := []) ⟨hx, hb, hml, hown, hT⟩ (m_times l D cT (yr 39) f1u19 G0 (lx * rx * nx) mC1 p4 (by omega) (fitm2 (Q := Q) b2 (by omega) hfit) _) ⟨callB_of 2 hT (tb_gd w1417) rfl rfl rfl (hT _ w13) (hT _ w1415) hM_times ⟨Nat.le_of_ble_eq_true rfl, Nat.le_of_ble_eq_true rfl⟩, (hT _ w1416)⟩ (RW.preS hZ hS (va_free (wc := [(yr 39, .inl (cT 0, 302, .inl f1u19))]) hD hS hA [9] rfl) (hP.sub (ws' := [(yr 39, .inl (cT 0, 302, .inl f1u19))]) [9] rfl) hK (hD.sub (ws' := [(yr 39, .inl (cT 0, 302, .inl f1u19))]) [9] (by decide) rfl)) rfl rfl hl.1 rfl (lv_room (Nat.le_of_ble_eq_true rfl)) dM_weigh_277 ⟨Nat.le_of_ble_eq_true rfl, Nat.le_of_ble_eq_true rfl⟩) (fun u9 H locs hpu20 hP hD hS => ?_)
      obtain ⟨f1u20, rfl⟩ : ∃ q9, q9 = u9 := ⟨_, rfl⟩
      have hpu20 : MN f1u20 (G0 * (lx * rx * nx)) := hpu20
      have hP : va_P D vwCl [(yr 45, .inl (cT 0, 6336, .inl fr)), (yr 30, .inl (cT 0, 302, .inl f9u4)), (yr 34, .inl (cT 0, 302, .inl f1u4)), (y, .inr (11, MO yr yi ysb ybs)), (yr 33, .inl (cT 0, 302, .inl f1u12)), (yr 32, .inl (cT 0, 302, .inl f1u13)), (yr 35, .inl (cT 0, 302, .inl f1u16)), (yr 31, .inl (cT 0, 302, .inl f1u18)), (yr 36, .inl (cT 0, 302, .inl fb)), (yr 39, .inl (cT 0, 302, .inl f1u20))] _ := hP
      have hD : va_D A [(yr 45, .inl (cT 0, 6336, .inl fr)), (yr 30, .inl (cT 0, 302, .inl f9u4)), (yr 34, .inl (cT 0, 302, .inl f1u4)), (y, .inr (11, MO yr yi ysb ybs)), (yr 33, .inl (cT 0, 302, .inl f1u12)), (yr 32, .inl (cT 0, 302, .inl f1u13)), (yr 35, .inl (cT 0, 302, .inl f1u16)), (yr 31, .inl (cT 0, 302, .inl f1u18)), (yr 36, .inl (cT 0, 302, .inl fb)), (yr 39, .inl (cT 0, 302, .inl f1u20))] := hD
      have mC2 := hpu20
      refine lv_aload_n hx hb dM_weigh_280 rfl (lv_at hl 5 rfl) ?_
      refine va_get (D := D) (ci := 11) (v := .ref (yr 31)) (C := R_M) (T := T_M) (N := 60) hx hb hT in_M hown hK hP 3 rfl rfl 31 (by decide) (hT _ w1135) (fun _ h9 => h9) rfl dM_weigh_281 ?_
      refine lv_aload_n hx hb dM_weigh_284 rfl (lv_at hl 5 rfl) ?_
      refine va_get (D := D) (ci := 11) (v := .ref (yr 39)) (C := R_M) (T := T_M) (N := 60) hx hb hT in_M hown hK hP 3 rfl rfl 39 (by decide) (hT _ w1143) (fun _ h9 => h9) rfl dM_weigh_285 ?_
      refine ro_i (va_Run.run (va_runS (As := [.ref (yr 31), .ref (yr 39)]) (rest := []) ⟨hx, hb, hml, hown, hT⟩ (m_cmp l D cT (yr 31) f1u18 (gg * (u0 : Int)) (yr 39) f1u20 (G0 * ((lx * rx * nx : Nat) : Int)) mT6 mC2) ⟨callB_of 2 hT (tb_gd w1491) rfl rfl rfl (hT _ w13) (hT _ w1489) hM_compare ⟨Nat.le_of_ble_eq_true rfl, Nat.le_of_ble_eq_true rfl⟩, (hT _ w1490)⟩ (RO.preS hZ hS (hP.sub (ws' := [(yr 31, .inl (cT 0, 302, .inl f1u18)), (yr 39, .inl (cT 0, 302, .inl f1u20))]) [7, 9] rfl) hK) rfl rfl hl.1 rfl (lv_room (Nat.le_of_ble_eq_true rfl)) dM_weigh_288 ⟨Nat.le_of_ble_eq_true rfl, Nat.le_of_ble_eq_true rfl⟩)) ?_
      refine lv_if_le (tgt := 340) hx hb dM_weigh_291 rfl (fun h21 => ?_) (fun h21 => ?_)
      · have hP9 := hP.sub (ws' := [(y, .inr (11, MO yr yi ysb ybs)), (yr 45, .inl (cT 0, 6336, .inl fr)), (yr 36, .inl (cT 0, 302, .inl fb)), (yr 30, .inl (cT 0, 302, .inl f9u4)), (yr 33, .inl (cT 0, 302, .inl f1u12)), (yr 34, .inl (cT 0, 302, .inl f1u4)), (yr 32, .inl (cT 0, 302, .inl f1u13)), (yr 35, .inl (cT 0, 302, .inl f1u16)), (yr 31, .inl (cT 0, 302, .inl f1u18)), (yr 39, .inl (cT 0, 302, .inl f1u20))]) [3, 0, 8, 1, 4, 2, 5, 6, 7, 9] rfl
        have hD9 := hD.sub (ws' := [(y, .inr (11, MO yr yi ysb ybs)), (yr 45, .inl (cT 0, 6336, .inl fr)), (yr 36, .inl (cT 0, 302, .inl fb)), (yr 30, .inl (cT 0, 302, .inl f9u4)), (yr 33, .inl (cT 0, 302, .inl f1u12)), (yr 34, .inl (cT 0, 302, .inl f1u4)), (yr 32, .inl (cT 0, 302, .inl f1u13)), (yr 35, .inl (cT 0, 302, .inl f1u16)), (yr 31, .inl (cT 0, 302, .inl f1u18)), (yr 39, .inl (cT 0, 302, .inl f1u20))]) [3, 0, 8, 1, 4, 2, 5, 6, 7, 9] (by decide) rfl
        refine W.widen (k := 0) (n := 0) (Nat.le_of_ble_eq_true rfl) (Nat.le_of_ble_eq_true rfl) ?_
        exact W.vret hx hb hr (fun t9 ht9 hW9 => ⟨⟨((G0, u0, c0, e0, m0, s0), yi, ybs, fb, f9u4, f1u12, f1u4, f1u13, f1u16, f1u18, f1u20), rfl, (show (G0, u0, c0, e0, m0, s0) = wgh zr n w lst AA (G0, u0, c0, e0, m0, s0) S pc1 pe1 pm1 ∧ BSF yi ybs fb (G0, u0, c0, e0, m0, s0) ((100 * ZB) * (100 * ZB) * 20000) ∧ YKP yi yi from ⟨by unfold wgh; rw [← hN, ← hnl, ← hnr, ← hlx, ← hrx, ← hnx, ← hsl, ← hsr, hgz, if_neg (by omega), if_neg (cz_le0.mp h21)], ⟨b1, by rw [← hQ]; exact b2, b3, b4, b5, b6⟩, fun _ _ _ _ _ => rfl⟩), by rw [ht9]; exact hP9, hD9⟩, hS.F ht9⟩) hS.2.2 dM_weigh_340
      · refine lv_aload_n hx hb dM_weigh_294 rfl (lv_at hl 5 rfl) ?_
        refine va_get (D := D) (ci := 11) (v := .ref (yr 35)) (C := R_M) (T := T_M) (N := 60) hx hb hT in_M hown hK hP 3 rfl rfl 35 (by decide) (hT _ w1139) (fun _ h9 => h9) rfl dM_weigh_295 ?_
        refine lv_aload_n hx hb dM_weigh_298 rfl (lv_at hl 5 rfl) ?_
        refine va_get (D := D) (ci := 11) (v := .ref (yr 36)) (C := R_M) (T := T_M) (N := 60) hx hb hT in_M hown hK hP 3 rfl rfl 36 (by decide) (hT _ w1140) (fun _ h9 => h9) rfl dM_weigh_299 ?_
        refine rw_v (wc := [(yr 35, .inl (cT 0, 302, .inl f1u16)), (yr 36, .inl (cT 0, 302, .inl fb))]) (wr := [(yr 45, .inl (cT 0, 6336, .inl fr)), (yr 30, .inl (cT 0, 302, .inl f9u4)), (yr 34, .inl (cT 0, 302, .inl f1u4)), (y, .inr (11, MO yr yi ysb ybs)), (yr 33, .inl (cT 0, 302, .inl f1u12)), (yr 32, .inl (cT 0, 302, .inl f1u13)), (yr 31, .inl (cT 0, 302, .inl f1u18)), (yr 39, .inl (cT 0, 302, .inl f1u20))]) hP hD hS hA [6, 8] [0, 1, 2, 3, 4, 5, 7, 9] rfl rfl (by decide) (by decide) (va_runS (As := [.ref (yr 35), .ref (yr 36)]) (rest := []) ⟨hx, hb, hml, hown, hT⟩ (m_copy l D cT (yr 35) f1u16 gg (yr 36) fb mG4 _) ⟨callB_of 2 hT (tb_gd w1426) rfl rfl rfl (hT _ w13) (hT _ w1424) hM_copy ⟨Nat.le_of_ble_eq_true rfl, Nat.le_of_ble_eq_true rfl⟩, (hT _ w1425)⟩ (RW.preS hZ hS (va_free (wc := [(yr 35, .inl (cT 0, 302, .inl f1u16)), (yr 36, .inl (cT 0, 302, .inl fb))]) hD hS hA [6, 8] rfl) (hP.sub (ws' := [(yr 35, .inl (cT 0, 302, .inl f1u16)), (yr 36, .inl (cT 0, 302, .inl fb))]) [6, 8] rfl) hK (hD.sub (ws' := [(yr 35, .inl (cT 0, 302, .inl f1u16)), (yr 36, .inl (cT 0, 302, .inl fb))]) [6, 8] (by decide) rfl)) rfl rfl hl.1 rfl (lv_room (Nat.le_of_ble_eq_true rfl)) dM_weigh_302 ⟨Nat.le_of_ble_eq_true rfl, Nat.le_of_ble_eq_true rfl⟩) (fun u9 H locs hpu22 hP hD hS => ?_)
        obtain ⟨f1u22, rfl⟩ : ∃ q9, q9 = u9 := ⟨_, rfl⟩
        have hpu22 : MN f1u22 gg := hpu22
        have hP : va_P D vwCl [(yr 45, .inl (cT 0, 6336, .inl fr)), (yr 30, .inl (cT 0, 302, .inl f9u4)), (yr 34, .inl (cT 0, 302, .inl f1u4)), (y, .inr (11, MO yr yi ysb ybs)), (yr 33, .inl (cT 0, 302, .inl f1u12)), (yr 32, .inl (cT 0, 302, .inl f1u13)), (yr 31, .inl (cT 0, 302, .inl f1u18)), (yr 39, .inl (cT 0, 302, .inl f1u20)), (yr 35, .inl (cT 0, 302, .inl f1u16)), (yr 36, .inl (cT 0, 302, .inl f1u22))] _ := hP
        have hD : va_D A [(yr 45, .inl (cT 0, 6336, .inl fr)), (yr 30, .inl (cT 0, 302, .inl f9u4)), (yr 34, .inl (cT 0, 302, .inl f1u4)), (y, .inr (11, MO yr yi ysb ybs)), (yr 33, .inl (cT 0, 302, .inl f1u12)), (yr 32, .inl (cT 0, 302, .inl f1u13)), (yr 31, .inl (cT 0, 302, .inl f1u18)), (yr 39, .inl (cT 0, 302, .inl f1u20)), (yr 35, .inl (cT 0, 302, .inl f1u16)), (yr 36, .inl (cT 0, 302, .inl f1u22))] := hD
        have mB9 := hpu22
        refine lv_aload_n hx hb dM_weigh_305 rfl (lv_at hl 5 rfl) ?_
        refine lv_iload hx hb dM_weigh_306 (lv_at hl 2 rfl) ?_
        refine lv_iload hx hb dM_weigh_308 (lv_at hl 1 rfl) ?_
        refine lv_imul hx hb dM_weigh_310 ?_
        refine lv_topi (fun y9 e9 => ?_)
        cases (show y9 = nI (lx * rx) from e9.trans (pk_mul lx rx))
        refine lv_iload hx hb dM_weigh_311 (lv_at hl 0 rfl) ?_
        refine lv_imul hx hb dM_weigh_313 ?_
        refine lv_topi (fun y9 e9 => ?_)
        cases (show y9 = nI ((lx * rx) * nx) from e9.trans (pk_mul (lx * rx) nx))
        refine va_put (D := D) (ci := 11) (v := .int (nI ((lx * rx) * nx))) (ty := .int) (C := R_M) (T := T_M) (N := 60) hx hb hT in_M ty_M ty_M_ok m_M hown hK hP hD hS 3 rfl rfl 50 (by decide) (hT _ w1154) (fun _ h9 => h9) rfl (by decide +kernel) rfl rfl (Nat.le_of_ble_eq_true rfl) dM_weigh_314 (fun H locs hP hD hS => ?_)
        have hP : va_P D vwCl [(yr 45, .inl (cT 0, 6336, .inl fr)), (yr 30, .inl (cT 0, 302, .inl f9u4)), (yr 34, .inl (cT 0, 302, .inl f1u4)), (y, .inr (11, MO yr (va_up yi 50 (nI ((lx * rx) * nx))) ysb ybs)), (yr 33, .inl (cT 0, 302, .inl f1u12)), (yr 32, .inl (cT 0, 302, .inl f1u13)), (yr 31, .inl (cT 0, 302, .inl f1u18)), (yr 39, .inl (cT 0, 302, .inl f1u20)), (yr 35, .inl (cT 0, 302, .inl f1u16)), (yr 36, .inl (cT 0, 302, .inl f1u22))] _ := hP
        have hD : va_D A [(yr 45, .inl (cT 0, 6336, .inl fr)), (yr 30, .inl (cT 0, 302, .inl f9u4)), (yr 34, .inl (cT 0, 302, .inl f1u4)), (y, .inr (11, MO yr (va_up yi 50 (nI ((lx * rx) * nx))) ysb ybs)), (yr 33, .inl (cT 0, 302, .inl f1u12)), (yr 32, .inl (cT 0, 302, .inl f1u13)), (yr 31, .inl (cT 0, 302, .inl f1u18)), (yr 39, .inl (cT 0, 302, .inl f1u20)), (yr 35, .inl (cT 0, 302, .inl f1u16)), (yr 36, .inl (cT 0, 302, .inl f1u22))] := hD
        refine lv_aload_n hx hb dM_weigh_317 rfl (lv_at hl 5 rfl) ?_
        refine lv_iload hx hb dM_weigh_318 (lv_at hl 8 rfl) ?_
        refine va_put (D := D) (ci := 11) (v := .int pc1) (ty := .int) (C := R_M) (T := T_M) (N := 60) hx hb hT in_M ty_M ty_M_ok m_M hown hK hP hD hS 3 rfl rfl 51 (by decide) (hT _ w1155) (fun _ h9 => h9) rfl (by decide +kernel) rfl rfl (Nat.le_of_ble_eq_true rfl) dM_weigh_320 (fun H locs hP hD hS => ?_)
        have hP : va_P D vwCl [(yr 45, .inl (cT 0, 6336, .inl fr)), (yr 30, .inl (cT 0, 302, .inl f9u4)), (yr 34, .inl (cT 0, 302, .inl f1u4)), (y, .inr (11, MO yr (va_up (va_up yi 50 (nI ((lx * rx) * nx))) 51 pc1) ysb ybs)), (yr 33, .inl (cT 0, 302, .inl f1u12)), (yr 32, .inl (cT 0, 302, .inl f1u13)), (yr 31, .inl (cT 0, 302, .inl f1u18)), (yr 39, .inl (cT 0, 302, .inl f1u20)), (yr 35, .inl (cT 0, 302, .inl f1u16)), (yr 36, .inl (cT 0, 302, .inl f1u22))] _ := hP
        have hD : va_D A [(yr 45, .inl (cT 0, 6336, .inl fr)), (yr 30, .inl (cT 0, 302, .inl f9u4)), (yr 34, .inl (cT 0, 302, .inl f1u4)), (y, .inr (11, MO yr (va_up (va_up yi 50 (nI ((lx * rx) * nx))) 51 pc1) ysb ybs)), (yr 33, .inl (cT 0, 302, .inl f1u12)), (yr 32, .inl (cT 0, 302, .inl f1u13)), (yr 31, .inl (cT 0, 302, .inl f1u18)), (yr 39, .inl (cT 0, 302, .inl f1u20)), (yr 35, .inl (cT 0, 302, .inl f1u16)), (yr 36, .inl (cT 0, 302, .inl f1u22))] := hD
        refine lv_aload_n hx hb dM_weigh_323 rfl (lv_at hl 5 rfl) ?_
        refine lv_iload hx hb dM_weigh_324 (lv_at hl 9 rfl) ?_
        refine va_put (D := D) (ci := 11) (v := .int pe1) (ty := .int) (C := R_M) (T := T_M) (N := 60) hx hb hT in_M ty_M ty_M_ok m_M hown hK hP hD hS 3 rfl rfl 52 (by decide) (hT _ w1156) (fun _ h9 => h9) rfl (by decide +kernel) rfl rfl (Nat.le_of_ble_eq_true rfl) dM_weigh_326 (fun H locs hP hD hS => ?_)
        have hP : va_P D vwCl [(yr 45, .inl (cT 0, 6336, .inl fr)), (yr 30, .inl (cT 0, 302, .inl f9u4)), (yr 34, .inl (cT 0, 302, .inl f1u4)), (y, .inr (11, MO yr (va_up (va_up (va_up yi 50 (nI ((lx * rx) * nx))) 51 pc1) 52 pe1) ysb ybs)), (yr 33, .inl (cT 0, 302, .inl f1u12)), (yr 32, .inl (cT 0, 302, .inl f1u13)), (yr 31, .inl (cT 0, 302, .inl f1u18)), (yr 39, .inl (cT 0, 302, .inl f1u20)), (yr 35, .inl (cT 0, 302, .inl f1u16)), (yr 36, .inl (cT 0, 302, .inl f1u22))] _ := hP
        have hD : va_D A [(yr 45, .inl (cT 0, 6336, .inl fr)), (yr 30, .inl (cT 0, 302, .inl f9u4)), (yr 34, .inl (cT 0, 302, .inl f1u4)), (y, .inr (11, MO yr (va_up (va_up (va_up yi 50 (nI ((lx * rx) * nx))) 51 pc1) 52 pe1) ysb ybs)), (yr 33, .inl (cT 0, 302, .inl f1u12)), (yr 32, .inl (cT 0, 302, .inl f1u13)), (yr 31, .inl (cT 0, 302, .inl f1u18)), (yr 39, .inl (cT 0, 302, .inl f1u20)), (yr 35, .inl (cT 0, 302, .inl f1u16)), (yr 36, .inl (cT 0, 302, .inl f1u22))] := hD
        refine lv_aload_n hx hb dM_weigh_329 rfl (lv_at hl 5 rfl) ?_
        refine lv_iload hx hb dM_weigh_330 (lv_at hl 10 rfl) ?_
        refine va_put (D := D) (ci := 11) (v := .int pm1) (ty := .boolean) (C := R_M) (T := T_M) (N := 60) hx hb hT in_M ty_M ty_M_ok m_M hown hK hP hD hS 3 rfl rfl 53 (by decide) (hT _ w1157) (fun _ h9 => h9) rfl (by decide +kernel) (bz01 hml9).1 (bz01 hml9).2 (Nat.le_of_ble_eq_true rfl) dM_weigh_332 (fun H locs hP hD hS => ?_)
        have hP : va_P D vwCl [(yr 45, .inl (cT 0, 6336, .inl fr)), (yr 30, .inl (cT 0, 302, .inl f9u4)), (yr 34, .inl (cT 0, 302, .inl f1u4)), (y, .inr (11, MO yr (va_up (va_up (va_up (va_up yi 50 (nI ((lx * rx) * nx))) 51 pc1) 52 pe1) 53 pm1) ysb ybs)), (yr 33, .inl (cT 0, 302, .inl f1u12)), (yr 32, .inl (cT 0, 302, .inl f1u13)), (yr 31, .inl (cT 0, 302, .inl f1u18)), (yr 39, .inl (cT 0, 302, .inl f1u20)), (yr 35, .inl (cT 0, 302, .inl f1u16)), (yr 36, .inl (cT 0, 302, .inl f1u22))] _ := hP
        have hD : va_D A [(yr 45, .inl (cT 0, 6336, .inl fr)), (yr 30, .inl (cT 0, 302, .inl f9u4)), (yr 34, .inl (cT 0, 302, .inl f1u4)), (y, .inr (11, MO yr (va_up (va_up (va_up (va_up yi 50 (nI ((lx * rx) * nx))) 51 pc1) 52 pe1) 53 pm1) ysb ybs)), (yr 33, .inl (cT 0, 302, .inl f1u12)), (yr 32, .inl (cT 0, 302, .inl f1u13)), (yr 31, .inl (cT 0, 302, .inl f1u18)), (yr 39, .inl (cT 0, 302, .inl f1u20)), (yr 35, .inl (cT 0, 302, .inl f1u16)), (yr 36, .inl (cT 0, 302, .inl f1u22))] := hD
        refine lv_aload_n hx hb dM_weigh_335 rfl (lv_at hl 5 rfl) ?_
        refine lv_lload_n hx hb dM_weigh_336 rfl (lv_at hl 7 rfl) ?_
        refine va_put (D := D) (ci := 11) (v := .long S) (ty := .long) (C := R_M) (T := T_M) (N := 60) hx hb hT in_M ty_M ty_M_ok m_M hown hK hP hD hS 3 rfl rfl 54 (by decide) (hT _ w1158) (fun _ h9 => h9) rfl (by decide +kernel) rfl rfl (Nat.le_of_ble_eq_true rfl) dM_weigh_337 (fun H locs hP hD hS => ?_)
        have hP : va_P D vwCl [(yr 45, .inl (cT 0, 6336, .inl fr)), (yr 30, .inl (cT 0, 302, .inl f9u4)), (yr 34, .inl (cT 0, 302, .inl f1u4)), (y, .inr (11, MO yr (va_up (va_up (va_up (va_up yi 50 (nI ((lx * rx) * nx))) 51 pc1) 52 pe1) 53 pm1) ysb S)), (yr 33, .inl (cT 0, 302, .inl f1u12)), (yr 32, .inl (cT 0, 302, .inl f1u13)), (yr 31, .inl (cT 0, 302, .inl f1u18)), (yr 39, .inl (cT 0, 302, .inl f1u20)), (yr 35, .inl (cT 0, 302, .inl f1u16)), (yr 36, .inl (cT 0, 302, .inl f1u22))] _ := hP
        have hD : va_D A [(yr 45, .inl (cT 0, 6336, .inl fr)), (yr 30, .inl (cT 0, 302, .inl f9u4)), (yr 34, .inl (cT 0, 302, .inl f1u4)), (y, .inr (11, MO yr (va_up (va_up (va_up (va_up yi 50 (nI ((lx * rx) * nx))) 51 pc1) 52 pe1) 53 pm1) ysb S)), (yr 33, .inl (cT 0, 302, .inl f1u12)), (yr 32, .inl (cT 0, 302, .inl f1u13)), (yr 31, .inl (cT 0, 302, .inl f1u18)), (yr 39, .inl (cT 0, 302, .inl f1u20)), (yr 35, .inl (cT 0, 302, .inl f1u16)), (yr 36, .inl (cT 0, 302, .inl f1u22))] := hD
        have hP9 := hP.sub (ws' := [(y, .inr (11, MO yr (va_up (va_up (va_up (va_up yi 50 (nI ((lx * rx) * nx))) 51 pc1) 52 pe1) 53 pm1) ysb S)), (yr 45, .inl (cT 0, 6336, .inl fr)), (yr 36, .inl (cT 0, 302, .inl f1u22)), (yr 30, .inl (cT 0, 302, .inl f9u4)), (yr 33, .inl (cT 0, 302, .inl f1u12)), (yr 34, .inl (cT 0, 302, .inl f1u4)), (yr 32, .inl (cT 0, 302, .inl f1u13)), (yr 35, .inl (cT 0, 302, .inl f1u16)), (yr 31, .inl (cT 0, 302, .inl f1u18)), (yr 39, .inl (cT 0, 302, .inl f1u20))]) [3, 0, 9, 1, 4, 2, 5, 8, 6, 7] rfl
        have hD9 := hD.sub (ws' := [(y, .inr (11, MO yr (va_up (va_up (va_up (va_up yi 50 (nI ((lx * rx) * nx))) 51 pc1) 52 pe1) 53 pm1) ysb S)), (yr 45, .inl (cT 0, 6336, .inl fr)), (yr 36, .inl (cT 0, 302, .inl f1u22)), (yr 30, .inl (cT 0, 302, .inl f9u4)), (yr 33, .inl (cT 0, 302, .inl f1u12)), (yr 34, .inl (cT 0, 302, .inl f1u4)), (yr 32, .inl (cT 0, 302, .inl f1u13)), (yr 35, .inl (cT 0, 302, .inl f1u16)), (yr 31, .inl (cT 0, 302, .inl f1u18)), (yr 39, .inl (cT 0, 302, .inl f1u20))]) [3, 0, 9, 1, 4, 2, 5, 8, 6, 7] (by decide) rfl
        refine W.widen (k := 0) (n := 0) (Nat.le_of_ble_eq_true rfl) (Nat.le_of_ble_eq_true rfl) ?_
        exact W.vret hx hb hr (fun t9 ht9 hW9 => ⟨⟨((gg, lx * rx * nx, pc1, pe1, pm1, S), va_up (va_up (va_up (va_up yi 50 (nI ((lx * rx) * nx))) 51 pc1) 52 pe1) 53 pm1, S, f1u22, f9u4, f1u12, f1u4, f1u13, f1u16, f1u18, f1u20), rfl, (show (gg, lx * rx * nx, pc1, pe1, pm1, S) = wgh zr n w lst AA (G0, u0, c0, e0, m0, s0) S pc1 pe1 pm1 ∧ BSF (va_up (va_up (va_up (va_up yi 50 (nI ((lx * rx) * nx))) 51 pc1) 52 pe1) 53 pm1) S f1u22 (gg, lx * rx * nx, pc1, pe1, pm1, S) ((100 * ZB) * (100 * ZB) * 20000) ∧ YKP yi (va_up (va_up (va_up (va_up yi 50 (nI ((lx * rx) * nx))) 51 pc1) 52 pe1) 53 pm1) from ⟨by unfold wgh; rw [← hN, ← hnl, ← hnr, ← hlx, ← hrx, ← hnx, ← hsl, ← hsr, hgz, if_neg (by omega), if_pos (Decidable.not_not.mp (fun q => h21 (cz_le0.mpr q)))], ⟨mB9, by rw [← hQ]; exact hgb, p4, d4, rfl, fun _ => ⟨rfl, rfl, rfl, rfl⟩⟩, fun k h1 h2 h3 h4 => (va_up_ne _ _ h4).trans ((va_up_ne _ _ h3).trans ((va_up_ne _ _ h2).trans (va_up_ne _ _ h1)))⟩), by rw [ht9]; exact hP9, hD9⟩, hS.F ht9⟩) hS.2.2 dM_weigh_340
    · have gh2 : nr < lst := Nat.not_le.mp (fun q => h2 ((nI_leI (a := lst) (b := nr) (by omega) (by omega)).mpr q))
      have hP9 := hP.sub (ws' := [(y, .inr (11, MO yr yi ysb ybs)), (yr 45, .inl (cT 0, 6336, .inl fr)), (yr 36, .inl (cT 0, 302, .inl fb)), (yr 30, .inl (cT 0, 302, .inl k0)), (yr 33, .inl (cT 0, 302, .inl k1)), (yr 34, .inl (cT 0, 302, .inl k2)), (yr 32, .inl (cT 0, 302, .inl k3)), (yr 35, .inl (cT 0, 302, .inl k4)), (yr 31, .inl (cT 0, 302, .inl k5)), (yr 39, .inl (cT 0, 302, .inl k6))]) [0, 1, 2, 3, 4, 5, 6, 7, 8, 9] rfl
      have hD9 := hD.sub (ws' := [(y, .inr (11, MO yr yi ysb ybs)), (yr 45, .inl (cT 0, 6336, .inl fr)), (yr 36, .inl (cT 0, 302, .inl fb)), (yr 30, .inl (cT 0, 302, .inl k0)), (yr 33, .inl (cT 0, 302, .inl k1)), (yr 34, .inl (cT 0, 302, .inl k2)), (yr 32, .inl (cT 0, 302, .inl k3)), (yr 35, .inl (cT 0, 302, .inl k4)), (yr 31, .inl (cT 0, 302, .inl k5)), (yr 39, .inl (cT 0, 302, .inl k6))]) [0, 1, 2, 3, 4, 5, 6, 7, 8, 9] (by decide) rfl
      refine W.widen (k := 0) (n := 0) (Nat.le_of_ble_eq_true rfl) (Nat.le_of_ble_eq_true rfl) ?_
      exact W.vret hx hb hr (fun t9 ht9 hW9 => ⟨⟨((G0, u0, c0, e0, m0, s0), yi, ybs, fb, k0, k1, k2, k3, k4, k5, k6), rfl, (show (G0, u0, c0, e0, m0, s0) = wgh zr n w lst AA (G0, u0, c0, e0, m0, s0) S pc1 pe1 pm1 ∧ BSF yi ybs fb (G0, u0, c0, e0, m0, s0) ((100 * ZB) * (100 * ZB) * 20000) ∧ YKP yi yi from ⟨by unfold wgh; rw [if_pos (by rw [← hN, ← hnl, ← hnr]; omega)], ⟨b1, by rw [← hQ]; exact b2, b3, b4, b5, b6⟩, fun _ _ _ _ _ => rfl⟩), by rw [ht9]; exact hP9, hD9⟩, hS.F ht9⟩) hS.2.2 dM_weigh_36
