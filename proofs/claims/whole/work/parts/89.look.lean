/-! Trees: where a row goes. -/
/-- a value goes to the left: tl, kd, ed of the node -/
def goB (tl kd ed v : Int32) : Bool := if v = -2147483648 then decide (¬ tl = 0) else if kd = 0 then decide (v < ed) else decide ((0 ≤ v ∧ v ≤ 11) ∧ (ed >>> (v &&& 31)) &&& 1 = 1)
def bn (b : Bool) : Int32 := if b = true then 1 else 0
theorem bn_n {b : Bool} : narrow .boolean (.int (bn b)) = .int (bn b) := by cases b <;> rfl
theorem bn_fit {b : Bool} : fits .boolean (.int (bn b)) = true := by cases b <;> rfl
theorem bn_0 {b : Bool} : bn b = 0 ↔ b = false := by cases b <;> decide
theorem goB_m {tl kd ed v : Int32} (h : v = -2147483648) (ht : tl = 0 ∨ tl = 1) : tl = bn (goB tl kd ed v) := by
  unfold goB
  rw [if_pos h]
  rcases ht with r | r
  · rw [r]; decide
  · rw [r]; decide
theorem goB_k {tl kd ed v : Int32} (h : ¬ v = -2147483648) (hk : ¬ kd = 0) (q : (0 ≤ v ∧ v ≤ 11) ∧ (ed >>> (v &&& 31)) &&& 1 = 1) : 1 = bn (goB tl kd ed v) := by
  unfold goB
  rw [if_neg h, if_neg hk, decide_eq_true q]
  rfl
theorem goB_kn {tl kd ed v : Int32} (h : ¬ v = -2147483648) (hk : ¬ kd = 0) (q : ¬ ((0 ≤ v ∧ v ≤ 11) ∧ (ed >>> (v &&& 31)) &&& 1 = 1)) : 0 = bn (goB tl kd ed v) := by
  unfold goB
  rw [if_neg h, if_neg hk, decide_eq_false q]
  rfl
theorem goB_v {tl kd ed v : Int32} (h : ¬ v = -2147483648) (hk : kd = 0) (q : v < ed) : 1 = bn (goB tl kd ed v) := by
  unfold goB
  rw [if_neg h, if_pos hk, decide_eq_true q]
  rfl
theorem goB_vn {tl kd ed v : Int32} (h : ¬ v = -2147483648) (hk : kd = 0) (q : ¬ v < ed) : 0 = bn (goB tl kd ed v) := by
  unfold goB
  rw [if_neg h, if_pos hk, decide_eq_false q]
  rfl
/-- the leaf that is reached from node k within f steps; b: the tree's first place -/
def lfw (nc nl nr : Nat → Int32) (go : Nat → Bool) (b : Nat) : Nat → Nat → Nat
  | 0, k => k
  | f + 1, k => if nc (b + k) < 0 then k else lfw nc nl nr go b f (if go k = true then dg nl (b + k) else dg nr (b + k))
theorem lfw_leaf {nc nl nr : Nat → Int32} {go : Nat → Bool} {b k : Nat} (h : nc (b + k) < 0) : ∀ f, lfw nc nl nr go b f k = k
  | 0 => rfl
  | f + 1 => if_pos h
theorem lfw_s {nc nl nr : Nat → Int32} {go : Nat → Bool} {b k f : Nat} (h : ¬ nc (b + k) < 0) : lfw nc nl nr go b (f + 1) k = lfw nc nl nr go b f (if go k = true then dg nl (b + k) else dg nr (b + k)) := if_neg h
/-- a tree of n nodes: a leaf has the column -1; other nodes lie above both their sides, at most four steps down; dp: the depth -/
def TWF (nc nl nr : Nat → Int32) (dp : Nat → Nat) (b n : Nat) : Prop := 0 < n ∧ n ≤ 31 ∧ dp 0 = 0 ∧ ∀ k, k < n → dp k ≤ 4 ∧ (nc (b + k) = -1 ∨ (∃ c, c < 6 ∧ nc (b + k) = nI c) ∧ dp k < 4 ∧ nl (b + k) = nI (dg nl (b + k)) ∧ nr (b + k) = nI (dg nr (b + k)) ∧ dg nl (b + k) < n ∧ dg nr (b + k) < n ∧ dp (dg nl (b + k)) = dp k + 1 ∧ dp (dg nr (b + k)) = dp k + 1)
theorem tw_in {nc nl nr : Nat → Int32} {dp : Nat → Nat} {b n k : Nat} (h : TWF nc nl nr dp b n) (hk : k < n) (hn : ¬ nc (b + k) < 0) : (∃ c, c < 6 ∧ nc (b + k) = nI c) ∧ dp k < 4 ∧ nl (b + k) = nI (dg nl (b + k)) ∧ nr (b + k) = nI (dg nr (b + k)) ∧ dg nl (b + k) < n ∧ dg nr (b + k) < n ∧ dp (dg nl (b + k)) = dp k + 1 ∧ dp (dg nr (b + k)) = dp k + 1 := by
  rcases (h.2.2.2 k hk).2 with q | q
  · exact absurd (by rw [q]; decide) hn
  · exact q
/-! reduced fractions: the lower part divides any other -/
theorem pr_div : ∀ k, k < 19 → ∀ d, d < 68 → pr k % d = 0 → d = 1 ∨ d = pr k := by decide +kernel
theorem pr_cop : ∀ i, i < 19 → ∀ j, j < i → Nat.gcd (pr i) (pr j) = 1 := by decide +kernel
theorem pr_gcd {k x : Nat} (hk : k < 19) (h : ¬ x % pr k = 0) : Nat.Coprime (pr k) x := by
  have hb := pr_b k hk
  have h1 : Nat.gcd (pr k) x ∣ pr k := Nat.gcd_dvd_left _ _
  have h2 := Nat.le_of_dvd (by omega) h1
  rcases pr_div k hk _ (show Nat.gcd (pr k) x < 68 by omega) (Nat.mod_eq_zero_of_dvd h1) with q | q
  · exact q
  · exfalso
    apply h
    have h3 : Nat.gcd (pr k) x ∣ x := Nat.gcd_dvd_right _ _
    rw [q] at h3
    exact Nat.mod_eq_zero_of_dvd h3
theorem dnk_cop {e : Nat → Nat} {k : Nat} (hk : k < 19) : ∀ j, j ≤ k → Nat.Coprime (pr k) (dnk e j)
  | 0, _ => Nat.coprime_one_right _
  | j + 1, hj => by
    show Nat.Coprime (pr k) (dnk e j * pr j ^ e j)
    exact Nat.Coprime.mul_right (dnk_cop hk j (by omega)) (Nat.Coprime.pow_right _ (pr_cop k hk j (by omega)))
theorem dnk_dvd {e : Nat → Nat} {k j : Nat} (h : j < k) : pr j ^ e j ∣ dnk e k := by
  induction k with
  | zero => omega
  | succ k ih =>
    show _ ∣ dnk e k * pr k ^ e k
    by_cases q : j = k
    · subst q
      exact Nat.dvd_mul_left _ _
    · exact Nat.dvd_mul_right_of_dvd (ih (by omega)) _
theorem red_dvd {z X : Int} {P : Nat} {f : Nat → Int32} (hr : RED z f) (h : z * (P : Int) = X * (dn f : Int)) : dn f ∣ P := by
  have h1 := nat_eq h
  suffices hs : ∀ k, k ≤ 19 → dnk (dg f) k ∣ P from hs 19 (Nat.le_refl _)
  intro k
  induction k with
  | zero => intro _; exact Nat.one_dvd _
  | succ k ih =>
    intro hk
    show dnk (dg f) k * pr k ^ dg f k ∣ P
    refine Nat.Coprime.mul_dvd_of_dvd_of_dvd (Nat.Coprime.pow_right _ (Nat.Coprime.symm (dnk_cop (by omega) k (Nat.le_refl _)))) (ih (by omega)) ?_
    rcases hr k (by omega) with q | q
    · rw [q, Nat.pow_zero]
      exact Nat.one_dvd _
    · have h2 : pr k ^ dg f k ∣ z.natAbs * P := by
        rw [h1]
        exact Nat.dvd_mul_left_of_dvd (dnk_dvd (by omega)) _
      exact Nat.Coprime.dvd_of_dvd_mul_left (Nat.Coprime.pow_left _ (pr_gcd (by omega) q)) h2
theorem red_le {z X : Int} {P : Nat} {f : Nat → Int32} (hP : 0 < P) (hr : RED z f) (h : z * (P : Int) = X * (dn f : Int)) : z.natAbs ≤ X.natAbs ∧ dn f ≤ P := by
  have h1 := Nat.le_of_dvd hP (red_dvd hr h)
  have h2 := nat_eq h
  refine ⟨?_, h1⟩
  refine Nat.le_of_mul_le_mul_right (c := P) ?_ hP
  rw [h2]
  exact Nat.mul_le_mul_left _ h1
/-- a node's fraction is X / Dn -/
def NF (up lw : Nat → Int32) (bb nd : Nat) (X : Int) (Dn : Nat) : Prop := ∃ lz : Int, MR up (132 * nd) lz ∧ LOK (sh (19 * nd) lw) bb ∧ RED lz (sh (19 * nd) lw) ∧ lz * (Dn : Int) = X * (dn (sh (19 * nd) lw) : Int)
theorem lok_cg {f g : Nat → Int32} {b : Nat} (h : LOK f b) (he : ∀ q, q < 19 → g q = f q) : LOK g b := fun k hk => by
  rw [dg_cg (he k hk), he k hk]
  exact h k hk
theorem red_cg {z : Int} {f g : Nat → Int32} (h : RED z f) (he : ∀ q, q < 19 → g q = f q) : RED z g := fun k hk => by
  rw [dg_cg (he k hk)]
  exact h k hk
theorem dn_cg {f g : Nat → Int32} (he : ∀ q, q < 19 → g q = f q) : dn g = dn f := dnk_cg (fun q hq => dg_cg (he q hq))
theorem lok_0 {g : Nat → Int32} {b : Nat} (he : ∀ q, q < 19 → g q = 0) : LOK g b := fun k hk => by
  rw [dg_eq0 (he k hk), he k hk]
  exact ⟨rfl, Nat.zero_le _⟩
theorem red_0 {z : Int} {g : Nat → Int32} (he : ∀ q, q < 19 → g q = 0) : RED z g := fun k hk => Or.inl (dg_eq0 (he k hk))
theorem dn_0 {g : Nat → Int32} (he : ∀ q, q < 19 → g q = 0) : dn g = 1 := by
  have h : ∀ k, k ≤ 19 → dnk (dg g) k = 1 := by
    intro k
    induction k with
    | zero => intro _; rfl
    | succ k ih =>
      intro hk
      show dnk (dg g) k * pr k ^ dg g k = 1
      rw [ih (by omega), dg_eq0 (he k (by omega)), Nat.pow_zero]
  exact h 19 (Nat.le_refl _)
/-- one more tree, subtracted -/
theorem wk_s {z lz z' X LX : Int} {P s d ld d' : Nat} (hd : 0 < d) (hld : 0 < ld) (h1 : z * (P : Int) = X * (d : Int)) (h2 : lz * ((P * s : Nat) : Int) = LX * (ld : Int)) (h3 : z' * ((d * ld : Nat) : Int) = (z * (ld : Int) - lz * (d : Int)) * (d' : Int)) : z' * ((P * s : Nat) : Int) = (X * (s : Int) - LX) * (d' : Int) := by
  apply Int.eq_of_mul_eq_mul_right (a := ((d * ld : Nat) : Int)) (by have := Nat.mul_pos hd hld; omega)
  have e1 : z' * ((P * s : Nat) : Int) * ((d * ld : Nat) : Int) = z' * ((d * ld : Nat) : Int) * ((P * s : Nat) : Int) := by ac_rfl
  have e2 : (z * (ld : Int) - lz * (d : Int)) * (d' : Int) * ((P * s : Nat) : Int) = (z * (P : Int) * (s * ld) - lz * ((P * s : Nat) : Int) * d) * d' := by
    rw [Int.natCast_mul, Int.sub_mul, Int.sub_mul, Int.sub_mul]
    congr 1
    · ac_rfl
    · ac_rfl
  have e3 : (X * (d : Int) * (s * ld) - LX * (ld : Int) * d) * d' = (X * (s : Int) - LX) * (d' : Int) * ((d * ld : Nat) : Int) := by
    rw [Int.natCast_mul, Int.sub_mul, Int.sub_mul, Int.sub_mul]
    congr 1
    · ac_rfl
    · ac_rfl
  rw [e1, h3, e2, h1, h2, e3]
theorem wk_a {z lz z' X LX : Int} {P s d ld d' : Nat} (hd : 0 < d) (hld : 0 < ld) (h1 : z * (P : Int) = X * (d : Int)) (h2 : lz * ((P * s : Nat) : Int) = LX * (ld : Int)) (h3 : z' * ((d * ld : Nat) : Int) = (z * (ld : Int) + lz * (d : Int)) * (d' : Int)) : z' * ((P * s : Nat) : Int) = (X * (s : Int) + LX) * (d' : Int) := by
  have h := wk_s (z := z) (lz := -lz) (z' := z') (X := X) (LX := -LX) (d' := d') hd hld h1 (by rw [Int.neg_mul, Int.neg_mul, h2]) (by rw [Int.neg_mul, Int.sub_neg]; exact h3)
  rw [Int.sub_neg] at h
  exact h
theorem bt_nf {b : Bool} (h : ¬ b = false) : b = true := by
  cases b
  · exact absurd rfl h
  · rfl
set_option maxHeartbeats 4000000 in
set_option maxRecDepth 100000 in
theorem m_in (l : Launch) (D : va_G) (cT : Nat → ClassId) (v : Int32) (lo : Int32) (hi : Int32) : Met l yM_in WM_in ({ frames := 0, cells := 0, slots := 0, locals := 0 } : Room) (RO D vwCl [.int v, .int lo, .int hi] [] (TY cT)) (QcRead (bi (lo ≤ v ∧ v ≤ hi))) 0 0 (fun _ => False) := by
  refine Met.ofW (cc := cM_in) (maxL := 3) (ret := (some .boolean)) (by decide) rfl ?_
  intro p e s m args below meth c s₁ B hml hv
  obtain ⟨rfl, hZ, hP, hK⟩ := hv
  have hx := B.exec
  have hb := B.bytes
  have hr := B.returns
  have hts := atoms_spec (ws := WM_in) B.pre
  have hT : ∀ w ∈ TB, w.before _ s = true := fun w h => hts w (List.mem_cons_of_mem _ h)
  have hown : s.vm.findClass R_M = some m.cls := findClass_of_methodNamed B.named
  have hlocks := B.notSynchronized
  have hS : va_S (fun _ => False) s.heap s.heap [] := va_S.rf
  have hl := lv_entry ([.int v, .int lo, .int hi]) (n := 3) (Nat.le_of_ble_eq_true rfl)
  rw [lg_entry_eq]
  generalize (lg_sl ([.int v, .int lo, .int hi]) ++ List.replicate (3 - (lg_sl ([.int v, .int lo, .int hi])).length) Slot.unset).toArray = ls at hl ⊢
  have hl : lv_has ls 3 [(0, .int v), (1, .int lo), (2, .int hi)] := hl
  refine lv_iload_n hx hb dM_in_0 rfl (lv_at hl 0 rfl) ?_
  refine lv_iload_n hx hb dM_in_1 rfl (lv_at hl 1 rfl) ?_
  refine lv_icmp_lt (tgt := 14) hx hb dM_in_2 rfl (fun h1 => ?_) (fun h1 => ?_)
  · refine lv_iconst (v := 0) hx hb dM_in_14 (by decide) ?_
    exact W.zret (v := 0) hx hb hr rfl (fun t9 ht9 hW9 => ⟨by rw [bi_f (fun q => absurd h1 (Int32.not_lt.mpr q.1))], ht9⟩) (fun q h => nomatch h) dM_in_15
  · refine lv_iload_n hx hb dM_in_5 rfl (lv_at hl 0 rfl) ?_
    refine lv_iload_n hx hb dM_in_6 rfl (lv_at hl 2 rfl) ?_
    refine lv_icmp_gt (tgt := 14) hx hb dM_in_7 rfl (fun h2 => ?_) (fun h2 => ?_)
    · refine lv_iconst (v := 0) hx hb dM_in_14 (by decide) ?_
      exact W.zret (v := 0) hx hb hr rfl (fun t9 ht9 hW9 => ⟨by rw [bi_f (fun q => absurd h2 (Int32.not_lt.mpr q.2))], ht9⟩) (fun q h => nomatch h) dM_in_15
    · refine lv_iconst (v := 1) hx hb dM_in_10 (by decide) ?_
      refine lv_goto (tgt := 15) hx hb dM_in_11 rfl ?_
      exact W.zret (v := 1) hx hb hr rfl (fun t9 ht9 hW9 => ⟨by rw [bi_t ⟨Int32.not_lt.mp h1, Int32.not_lt.mp h2⟩], ht9⟩) (fun q h => nomatch h) dM_in_15
set_option maxHeartbeats 4000000 in
set_option maxRecDepth 100000 in
theorem m_goes (l : Launch) (D : va_G) (cT : Nat → ClassId) (y : Nat) (yr : Nat → Nat) (yi : Nat → Int32) (ysb : Int64) (ybs : Int64) (tl : Nat → Int32) (kd : Nat → Int32) (ed : Nat → Int32) (nd : Nat) (v : Int32) (hnd : nd < 496) (htb : tl nd = 0 ∨ tl nd = 1) : Met l yM_goesLeft WM_goesLeft ({ frames := 1, cells := 0, slots := 0, locals := 22 } : Room) (RO D vwCl [.ref y, .int (nI nd), .int v] [(y, .inr (11, MO yr yi ysb ybs)), (yr 21, .inl (cT 3, 496, .inl tl)), (yr 26, .inl (cT 3, 496, .inl kd)), (yr 20, .inl (cT 0, 496, .inl ed))] (TY cT)) (QcRead (bn (goB (tl nd) (kd nd) (ed nd) v))) 0 0 (fun _ => False) := by
  refine Met.ofW (cc := cM_goesLeft) (maxL := 3) (ret := (some .boolean)) (by decide) rfl ?_
  intro p e s m args below meth c s₁ B hml hv
  obtain ⟨rfl, hZ, hP, hK⟩ := hv
  have hx := B.exec
  have hb := B.bytes
  have hr := B.returns
  have hts := atoms_spec (ws := WM_goesLeft) B.pre
  have hT : ∀ w ∈ TB, w.before _ s = true := fun w h => hts w (List.mem_cons_of_mem _ h)
  have hown : s.vm.findClass R_M = some m.cls := findClass_of_methodNamed B.named
  have hlocks := B.notSynchronized
  have hS : va_S (fun _ => False) s.heap s.heap [] := va_S.rf
  have hl := lv_entry ([.ref y, .int (nI nd), .int v]) (n := 3) (Nat.le_of_ble_eq_true rfl)
  rw [lg_entry_eq]
  generalize (lg_sl ([.ref y, .int (nI nd), .int v]) ++ List.replicate (3 - (lg_sl ([.ref y, .int (nI nd), .int v])).length) Slot.unset).toArray = ls at hl ⊢
  have hl : lv_has ls 3 [(0, .ref y), (1, .int (nI nd)), (2, .int v)] := hl
  refine lv_iload_n hx hb dM_goesLeft_0 rfl (lv_at hl 2 rfl) ?_
  refine lv_ldc (v := (-2147483648)) hx hb hown (hT _ w1103) dM_goesLeft_1 ?_
  refine lv_icmp_ne (tgt := 13) hx hb dM_goesLeft_3 rfl (fun h1 => ?_) (fun h1 => ?_)
  · refine lv_aload_n hx hb dM_goesLeft_13 rfl (lv_at hl 0 rfl) ?_
    refine va_get (D := D) (ci := 11) (v := .ref (yr 26)) (C := R_M) (T := T_M) (N := 60) hx hb hT in_M hown hK hP 0 rfl rfl 26 (by decide) (hT _ w1130) (fun _ h9 => h9) rfl dM_goesLeft_14 ?_
    refine lv_iload_n hx hb dM_goesLeft_17 rfl (lv_at hl 1 rfl) ?_
    refine lq_zald (j := nd) hx hb hK hP 2 3 rfl rfl rfl (by omega) (by omega) dM_goesLeft_18 ?_
    refine lv_if_eq (tgt := 54) hx hb dM_goesLeft_19 rfl (fun h2 => ?_) (fun h2 => ?_)
    · refine lv_iload_n hx hb dM_goesLeft_54 rfl (lv_at hl 2 rfl) ?_
      refine lv_aload_n hx hb dM_goesLeft_55 rfl (lv_at hl 0 rfl) ?_
      refine va_get (D := D) (ci := 11) (v := .ref (yr 20)) (C := R_M) (T := T_M) (N := 60) hx hb hT in_M hown hK hP 0 rfl rfl 20 (by decide) (hT _ w1124) (fun _ h9 => h9) rfl dM_goesLeft_56 ?_
      refine lv_iload_n hx hb dM_goesLeft_59 rfl (lv_at hl 1 rfl) ?_
      refine lq_iald (j := nd) hx hb hK hP 3 0 rfl rfl rfl (by omega) (by omega) dM_goesLeft_60 ?_
      refine lv_icmp_ge (tgt := 68) hx hb dM_goesLeft_61 rfl (fun h3 => ?_) (fun h3 => ?_)
      · refine lv_iconst (v := 0) hx hb dM_goesLeft_68 (by decide) ?_
        exact W.zret (v := 0) hx hb hr rfl (fun t9 ht9 hW9 => ⟨by rw [← goB_vn h1 h2 (Int32.not_lt.mpr h3)], ht9⟩) (fun q h => nomatch h) dM_goesLeft_69
      · refine lv_iconst (v := 1) hx hb dM_goesLeft_64 (by decide) ?_
        refine lv_goto (tgt := 69) hx hb dM_goesLeft_65 rfl ?_
        exact W.zret (v := 1) hx hb hr rfl (fun t9 ht9 hW9 => ⟨by rw [← goB_v h1 h2 (Int32.not_le.mp h3)], ht9⟩) (fun q h => nomatch h) dM_goesLeft_69
    · refine lv_iload_n hx hb dM_goesLeft_22 rfl (lv_at hl 2 rfl) ?_
      refine lv_iconst (v := 0) hx hb dM_goesLeft_23 (by decide) ?_
      refine lv_bipush (v := 11) hx hb dM_goesLeft_24 (by decide) ?_
      refine ro_i (va_Run.run (va_runS (As := [.int v, .int 0, .int 11]) (rest := []) ⟨hx, hb, hml, hown, hT⟩ (m_in l D cT v 0 11) ⟨callB_of 3 hT (tb_gd w1297) rfl rfl rfl (hT _ w13) (hT _ w1295) hM_in ⟨Nat.le_of_ble_eq_true rfl, Nat.le_of_ble_eq_true rfl⟩, (hT _ w1296)⟩ (RO.preS hZ hS ((show va_P D vwCl [] _ from fun _ _ h => nomatch h)) hK) rfl rfl hl.1 rfl (lv_room (Nat.le_of_ble_eq_true rfl)) dM_goesLeft_26 ⟨Nat.le_of_ble_eq_true rfl, Nat.le_of_ble_eq_true rfl⟩)) ?_
      refine lv_if_eq (tgt := 50) hx hb dM_goesLeft_29 rfl (fun h4 => ?_) (fun h4 => ?_)
      · refine lv_iconst (v := 0) hx hb dM_goesLeft_50 (by decide) ?_
        refine lv_goto (tgt := 69) hx hb dM_goesLeft_51 rfl ?_
        exact W.zret (v := 0) hx hb hr rfl (fun t9 ht9 hW9 => ⟨by rw [← goB_kn h1 h2 (fun q => (bi_0 h4) q.1)], ht9⟩) (fun q h => nomatch h) dM_goesLeft_69
      · refine lv_aload_n hx hb dM_goesLeft_32 rfl (lv_at hl 0 rfl) ?_
        refine va_get (D := D) (ci := 11) (v := .ref (yr 20)) (C := R_M) (T := T_M) (N := 60) hx hb hT in_M hown hK hP 0 rfl rfl 20 (by decide) (hT _ w1124) (fun _ h9 => h9) rfl dM_goesLeft_33 ?_
        refine lv_iload_n hx hb dM_goesLeft_36 rfl (lv_at hl 1 rfl) ?_
        refine lq_iald (j := nd) hx hb hK hP 3 0 rfl rfl rfl (by omega) (by omega) dM_goesLeft_37 ?_
        refine lv_iload_n hx hb dM_goesLeft_38 rfl (lv_at hl 2 rfl) ?_
        refine lv_ishr hx hb dM_goesLeft_39 ?_
        refine lv_iconst (v := 1) hx hb dM_goesLeft_40 (by decide) ?_
        refine lv_iand hx hb dM_goesLeft_41 ?_
        refine lv_iconst (v := 1) hx hb dM_goesLeft_42 (by decide) ?_
        refine lv_icmp_ne (tgt := 50) hx hb dM_goesLeft_43 rfl (fun h5 => ?_) (fun h5 => ?_)
        · refine lv_iconst (v := 0) hx hb dM_goesLeft_50 (by decide) ?_
          refine lv_goto (tgt := 69) hx hb dM_goesLeft_51 rfl ?_
          exact W.zret (v := 0) hx hb hr rfl (fun t9 ht9 hW9 => ⟨by rw [← goB_kn h1 h2 (fun q => h5 q.2)], ht9⟩) (fun q h => nomatch h) dM_goesLeft_69
        · refine lv_iconst (v := 1) hx hb dM_goesLeft_46 (by decide) ?_
          refine lv_goto (tgt := 69) hx hb dM_goesLeft_47 rfl ?_
          exact W.zret (v := 1) hx hb hr rfl (fun t9 ht9 hW9 => ⟨by rw [← goB_k h1 h2 ⟨bi_1 h4, h5⟩], ht9⟩) (fun q h => nomatch h) dM_goesLeft_69
  · refine lv_aload_n hx hb dM_goesLeft_6 rfl (lv_at hl 0 rfl) ?_
    refine va_get (D := D) (ci := 11) (v := .ref (yr 21)) (C := R_M) (T := T_M) (N := 60) hx hb hT in_M hown hK hP 0 rfl rfl 21 (by decide) (hT _ w1125) (fun _ h9 => h9) rfl dM_goesLeft_7 ?_
    refine lv_iload_n hx hb dM_goesLeft_10 rfl (lv_at hl 1 rfl) ?_
    refine lq_zald (j := nd) hx hb hK hP 1 3 rfl rfl rfl (by omega) (by omega) dM_goesLeft_11 ?_
    exact W.zret (v := tl nd) hx hb hr (bz01 htb).1 (fun t9 ht9 hW9 => ⟨by rw [← goB_m h1 htb], ht9⟩) (fun q h => nomatch h) dM_goesLeft_12
set_option maxHeartbeats 4000000 in
set_option maxRecDepth 100000 in
theorem m_leafR (l : Launch) (D : va_G) (cT : Nat → ClassId) (y : Nat) (yr : Nat → Nat) (yi : Nat → Int32) (ysb : Int64) (ybs : Int64) (nc : Nat → Int32) (nl : Nat → Int32) (nr : Nat → Int32) (tl : Nat → Int32) (kd : Nat → Int32) (ed : Nat → Int32) (vv : Nat → Int32) (t : Nat) (r : Nat) (n : Nat) (dp : Nat → Nat) (go : Nat → Bool) (lf : Nat) (ht16 : t < 16) (hr48 : r < 48) (hT9 : TWF nc nl nr dp (31 * t) n) (htl : ∀ q, q < 496 → tl q = 0 ∨ tl q = 1) (hgo : ∀ k, k < n → ∀ c, c < 6 → nc (31 * t + k) = nI c → go k = goB (tl (31 * t + k)) (kd (31 * t + k)) (ed (31 * t + k)) (vv (6 * r + c))) (hlf : lf = lfw nc nl nr go (31 * t) 4 0) : Met l yM_leafOf WM_leafOf ({ frames := 2, cells := 0, slots := 0, locals := 44 } : Room) (RO D vwCl [.ref y, .int (nI t), .int (nI r)] [(y, .inr (11, MO yr yi ysb ybs)), (yr 19, .inl (cT 0, 496, .inl nc)), (yr 22, .inl (cT 0, 496, .inl nl)), (yr 23, .inl (cT 0, 496, .inl nr)), (yr 5, .inl (cT 0, 288, .inl vv)), (yr 21, .inl (cT 3, 496, .inl tl)), (yr 26, .inl (cT 3, 496, .inl kd)), (yr 20, .inl (cT 0, 496, .inl ed))] (TY cT)) (QcRead (nI (31 * t + lf))) 0 0 (fun _ => False) := by
  refine Met.ofW (cc := cM_leafOf) (maxL := 5) (ret := (some .int)) (by decide) rfl ?_
  intro p e s m args below meth c s₁ B hml hv
  obtain ⟨rfl, hZ, hP, hK⟩ := hv
  have hx := B.exec
  have hb := B.bytes
  have hr := B.returns
  have hts := atoms_spec (ws := WM_leafOf) B.pre
  have hT : ∀ w ∈ TB, w.before _ s = true := fun w h => hts w (List.mem_cons_of_mem _ h)
  have hown : s.vm.findClass R_M = some m.cls := findClass_of_methodNamed B.named
  have hlocks := B.notSynchronized
  have hS : va_S (fun _ => False) s.heap s.heap [] := va_S.rf
  have hl := lv_entry ([.ref y, .int (nI t), .int (nI r)]) (n := 5) (Nat.le_of_ble_eq_true rfl)
  rw [lg_entry_eq]
  generalize (lg_sl ([.ref y, .int (nI t), .int (nI r)]) ++ List.replicate (5 - (lg_sl ([.ref y, .int (nI t), .int (nI r)])).length) Slot.unset).toArray = ls at hl ⊢
  have hl : lv_has ls 5 [(0, .ref y), (1, .int (nI t)), (2, .int (nI r))] := hl
  refine lv_bipush (v := 31) hx hb dM_leafOf_0 (by decide) ?_
  refine lv_iload_n hx hb dM_leafOf_2 rfl (lv_at hl 1 rfl) ?_
  refine lv_imul hx hb dM_leafOf_3 ?_
  refine lv_topi (fun y9 e9 => ?_)
  cases (show y9 = nI (31 * t) from e9.trans (pk_mul 31 t))
  refine lv_istore_n hx hb dM_leafOf_4 rfl hl (by decide) rfl (fun ls hl => ?_)
  have hl : lv_has ls 5 [(3, .int (nI (31 * t))), (0, .ref y), (1, .int (nI t)), (2, .int (nI r))] := hl
  refine lp_r (α := Nat) (fun a9 => a9 < n ∧ lfw nc nl nr go (31 * t) (4 - dp a9) a9 = lfw nc nl nr go (31 * t) 4 0) (fun a9 => 4 - dp a9) (fun a9 => [(0, .ref y), (1, .int (nI t)), (2, .int (nI r)), (3, .int (nI (31 * t + a9)))]) 5 ?_ 0 (show 0 < n ∧ lfw nc nl nr go (31 * t) (4 - dp 0) 0 = lfw nc nl nr go (31 * t) 4 0 from ⟨hT9.1, by rw [hT9.2.2.1]⟩) (lv_sub hl [1, 2, 3, 0] rfl)
  intro a9 hI5 ih5 ls hl
  obtain ⟨k, rfl⟩ : ∃ q9, q9 = a9 := ⟨_, rfl⟩
  have hI5 : k < n ∧ lfw nc nl nr go (31 * t) (4 - dp k) k = lfw nc nl nr go (31 * t) 4 0 := hI5
  obtain ⟨ik, iv⟩ := hI5
  have hl : lv_has ls 5 [(0, .ref y), (1, .int (nI t)), (2, .int (nI r)), (3, .int (nI (31 * t + k)))] := hl
  have hn31 := hT9.2.1
  refine lv_aload_n hx hb dM_leafOf_5 rfl (lv_at hl 0 rfl) ?_
  refine va_get (D := D) (ci := 11) (v := .ref (yr 19)) (C := R_M) (T := T_M) (N := 60) hx hb hT in_M hown hK hP 0 rfl rfl 19 (by decide) (hT _ w1123) (fun _ h9 => h9) rfl dM_leafOf_6 ?_
  refine lv_iload_n hx hb dM_leafOf_9 rfl (lv_at hl 3 rfl) ?_
  refine lq_iald (j := 31 * t + k) hx hb hK hP 1 0 rfl rfl rfl (by omega) (by omega) dM_leafOf_10 ?_
  refine lv_if_lt (tgt := 84) hx hb dM_leafOf_11 rfl (fun h1 => ?_) (fun h1 => ?_)
  · refine lv_iload_n hx hb dM_leafOf_84 rfl (lv_at hl 3 rfl) ?_
    exact W.iret (v := nI (31 * t + k)) hx hb hr (fun t9 ht9 hW9 => ⟨by rw [hlf, ← iv, lfw_leaf h1], ht9⟩) (fun q h => nomatch h) dM_leafOf_85
  · obtain ⟨⟨cc9, hcc, hcn⟩, hd4, hnl, hnr, hlb, hrb, hld, hrd⟩ := tw_in hT9 ik h1
    refine lv_iload_n hx hb dM_leafOf_14 rfl (lv_at hl 2 rfl) ?_
    refine lv_if_ge (tgt := 32) hx hb dM_leafOf_15 rfl (fun _ => ?_) (fun h2 => absurd (nI_pos' (by omega)) h2)
    refine lv_aload_n hx hb dM_leafOf_32 rfl (lv_at hl 0 rfl) ?_
    refine va_get (D := D) (ci := 11) (v := .ref (yr 5)) (C := R_M) (T := T_M) (N := 60) hx hb hT in_M hown hK hP 0 rfl rfl 5 (by decide) (hT _ w1109) (fun _ h9 => h9) rfl dM_leafOf_33 ?_
    refine lv_bipush (v := 6) hx hb dM_leafOf_36 (by decide) ?_
    refine lv_iload_n hx hb dM_leafOf_38 rfl (lv_at hl 2 rfl) ?_
    refine lv_imul hx hb dM_leafOf_39 ?_
    refine lv_topi (fun y9 e9 => ?_)
    cases (show y9 = nI (6 * r) from e9.trans (pk_mul 6 r))
    refine lv_aload_n hx hb dM_leafOf_40 rfl (lv_at hl 0 rfl) ?_
    refine va_get (D := D) (ci := 11) (v := .ref (yr 19)) (C := R_M) (T := T_M) (N := 60) hx hb hT in_M hown hK hP 0 rfl rfl 19 (by decide) (hT _ w1123) (fun _ h9 => h9) rfl dM_leafOf_41 ?_
    refine lv_iload_n hx hb dM_leafOf_44 rfl (lv_at hl 3 rfl) ?_
    refine lq_iald (j := 31 * t + k) hx hb hK hP 1 0 rfl rfl rfl (by omega) (by omega) dM_leafOf_45 ?_
    refine lv_topi (fun y9 e9 => ?_)
    cases (show y9 = nI cc9 from e9.trans hcn)
    refine lv_iadd hx hb dM_leafOf_46 ?_
    refine lv_topi (fun y9 e9 => ?_)
    cases (show y9 = nI ((6 * r) + cc9) from e9.trans (nI_add (6 * r) cc9))
    refine lq_iald (j := (6 * r) + cc9) hx hb hK hP 4 0 rfl rfl rfl (by omega) (by omega) dM_leafOf_47 ?_
    refine lv_istore hx hb dM_leafOf_48 hl (by decide) rfl (fun ls hl => ?_)
    have hl : lv_has ls 5 [(4, .int (vv ((6 * r) + cc9))), (0, .ref y), (1, .int (nI t)), (2, .int (nI r)), (3, .int (nI (31 * t + k)))] := hl
    refine lv_bipush (v := 31) hx hb dM_leafOf_50 (by decide) ?_
    refine lv_iload_n hx hb dM_leafOf_52 rfl (lv_at hl 2 rfl) ?_
    refine lv_imul hx hb dM_leafOf_53 ?_
    refine lv_topi (fun y9 e9 => ?_)
    cases (show y9 = nI (31 * t) from e9.trans (pk_mul 31 t))
    refine lv_aload_n hx hb dM_leafOf_54 rfl (lv_at hl 1 rfl) ?_
    refine lv_iload_n hx hb dM_leafOf_55 rfl (lv_at hl 4 rfl) ?_
    refine lv_iload hx hb dM_leafOf_56 (lv_at hl 0 rfl) ?_
    refine ro_i (va_Run.run (va_runV (As := [.int (nI (31 * t + k)), .int (vv ((6 * r) + cc9))]) (rest := [.int (nI (31 * t))]) ⟨hx, hb, hml, hown, hT⟩ (m_goes l D cT y yr yi ysb ybs tl kd ed (31 * t + k) (vv ((6 * r) + cc9)) (by omega) (htl _ (by omega))) ⟨callB_of 2 hT (tb_gd w1396) rfl rfl rfl (hT _ w13) (hT _ w1393) hM_goesLeft ⟨Nat.le_of_ble_eq_true rfl, Nat.le_of_ble_eq_true rfl⟩, (hT _ w1395), (hT _ wp38)⟩ (RO.preV (ci := 11) (q0 := 0) hZ hS (hP.sub (ws' := [(y, .inr (11, MO yr yi ysb ybs)), (yr 21, .inl (cT 3, 496, .inl tl)), (yr 26, .inl (cT 3, 496, .inl kd)), (yr 20, .inl (cT 0, 496, .inl ed))]) [0, 5, 6, 7] rfl) hK rfl rfl) rfl rfl hl.1 rfl (lv_room (Nat.le_of_ble_eq_true rfl)) dM_leafOf_58 ⟨Nat.le_of_ble_eq_true rfl, Nat.le_of_ble_eq_true rfl⟩)) ?_
    refine lv_if_eq (tgt := 73) hx hb dM_leafOf_61 rfl (fun h3 => ?_) (fun h3 => ?_)
    · have hg : ¬ go k = true := by rw [hgo k ik cc9 hcc hcn, bn_0.mp h3]; decide
      refine lv_aload_n hx hb dM_leafOf_73 rfl (lv_at hl 1 rfl) ?_
      refine va_get (D := D) (ci := 11) (v := .ref (yr 23)) (C := R_M) (T := T_M) (N := 60) hx hb hT in_M hown hK hP 0 rfl rfl 23 (by decide) (hT _ w1127) (fun _ h9 => h9) rfl dM_leafOf_74 ?_
      refine lv_iload_n hx hb dM_leafOf_77 rfl (lv_at hl 4 rfl) ?_
      refine lq_iald (j := 31 * t + k) hx hb hK hP 3 0 rfl rfl rfl (by omega) (by omega) dM_leafOf_78 ?_
      refine lv_topi (fun y9 e9 => ?_)
      cases (show y9 = nI (dg nr (31 * t + k)) from e9.trans hnr)
      refine lv_iadd hx hb dM_leafOf_79 ?_
      refine lv_topi (fun y9 e9 => ?_)
      cases (show y9 = nI ((31 * t) + (dg nr (31 * t + k))) from e9.trans (nI_add (31 * t) (dg nr (31 * t + k))))
      refine lv_istore_n hx hb dM_leafOf_80 rfl hl (by decide) rfl (fun ls hl => ?_)
      have hl : lv_has ls 5 [(3, .int (nI ((31 * t) + (dg nr (31 * t + k))))), (4, .int (vv ((6 * r) + cc9))), (0, .ref y), (1, .int (nI t)), (2, .int (nI r))] := hl
      refine lv_goto (tgt := 5) hx hb dM_leafOf_81 rfl ?_
      exact ih5 (dg nr (31 * t + k)) (show (dg nr (31 * t + k)) < n ∧ lfw nc nl nr go (31 * t) (4 - dp (dg nr (31 * t + k))) (dg nr (31 * t + k)) = lfw nc nl nr go (31 * t) 4 0 from ⟨hrb, by rw [← iv, show 4 - dp k = (4 - (dp k + 1)) + 1 by omega, lfw_s h1, if_neg hg, hrd]⟩) (show 4 - dp (dg nr (31 * t + k)) < 4 - dp k from (by omega)) ls (lv_sub hl [2, 3, 4, 0] rfl)
    · have hg : go k = true := by rw [hgo k ik cc9 hcc hcn]; exact bt_nf (fun q => h3 (bn_0.mpr q))
      refine lv_aload_n hx hb dM_leafOf_64 rfl (lv_at hl 1 rfl) ?_
      refine va_get (D := D) (ci := 11) (v := .ref (yr 22)) (C := R_M) (T := T_M) (N := 60) hx hb hT in_M hown hK hP 0 rfl rfl 22 (by decide) (hT _ w1126) (fun _ h9 => h9) rfl dM_leafOf_65 ?_
      refine lv_iload_n hx hb dM_leafOf_68 rfl (lv_at hl 4 rfl) ?_
      refine lq_iald (j := 31 * t + k) hx hb hK hP 2 0 rfl rfl rfl (by omega) (by omega) dM_leafOf_69 ?_
      refine lv_topi (fun y9 e9 => ?_)
      cases (show y9 = nI (dg nl (31 * t + k)) from e9.trans hnl)
      refine lv_goto (tgt := 79) hx hb dM_leafOf_70 rfl ?_
      refine lv_iadd hx hb dM_leafOf_79 ?_
      refine lv_topi (fun y9 e9 => ?_)
      cases (show y9 = nI ((31 * t) + (dg nl (31 * t + k))) from e9.trans (nI_add (31 * t) (dg nl (31 * t + k))))
      refine lv_istore_n hx hb dM_leafOf_80 rfl hl (by decide) rfl (fun ls hl => ?_)
      have hl : lv_has ls 5 [(3, .int (nI ((31 * t) + (dg nl (31 * t + k))))), (4, .int (vv ((6 * r) + cc9))), (0, .ref y), (1, .int (nI t)), (2, .int (nI r))] := hl
      refine lv_goto (tgt := 5) hx hb dM_leafOf_81 rfl ?_
      exact ih5 (dg nl (31 * t + k)) (show (dg nl (31 * t + k)) < n ∧ lfw nc nl nr go (31 * t) (4 - dp (dg nl (31 * t + k))) (dg nl (31 * t + k)) = lfw nc nl nr go (31 * t) 4 0 from ⟨hlb, by rw [← iv, show 4 - dp k = (4 - (dp k + 1)) + 1 by omega, lfw_s h1, if_pos hg, hld]⟩) (show 4 - dp (dg nl (31 * t + k)) < 4 - dp k from (by omega)) ls (lv_sub hl [2, 3, 4, 0] rfl)
set_option maxHeartbeats 4000000 in
set_option maxRecDepth 100000 in
theorem m_leafQ (l : Launch) (D : va_G) (cT : Nat → ClassId) (y : Nat) (yr : Nat → Nat) (yi : Nat → Int32) (ysb : Int64) (ybs : Int64) (nc : Nat → Int32) (nl : Nat → Int32) (nr : Nat → Int32) (tl : Nat → Int32) (kd : Nat → Int32) (ed : Nat → Int32) (vv : Nat → Int32) (t : Nat) (r : Nat) (n : Nat) (dp : Nat → Nat) (go : Nat → Bool) (lf : Nat) (ht16 : t < 16) (hr48 : r < 48) (hT9 : TWF nc nl nr dp (31 * t) n) (htl : ∀ q, q < 496 → tl q = 0 ∨ tl q = 1) (hgo : ∀ k, k < n → ∀ c, c < 6 → nc (31 * t + k) = nI c → go k = goB (tl (31 * t + k)) (kd (31 * t + k)) (ed (31 * t + k)) (vv c)) (hlf : lf = lfw nc nl nr go (31 * t) 4 0) : Met l yM_leafOf WM_leafOf ({ frames := 2, cells := 0, slots := 0, locals := 44 } : Room) (RO D vwCl [.ref y, .int (nI t), .int (-1)] [(y, .inr (11, MO yr yi ysb ybs)), (yr 19, .inl (cT 0, 496, .inl nc)), (yr 22, .inl (cT 0, 496, .inl nl)), (yr 23, .inl (cT 0, 496, .inl nr)), (yr 9, .inl (cT 0, 6, .inl vv)), (yr 21, .inl (cT 3, 496, .inl tl)), (yr 26, .inl (cT 3, 496, .inl kd)), (yr 20, .inl (cT 0, 496, .inl ed))] (TY cT)) (QcRead (nI (31 * t + lf))) 0 0 (fun _ => False) := by
  refine Met.ofW (cc := cM_leafOf) (maxL := 5) (ret := (some .int)) (by decide) rfl ?_
  intro p e s m args below meth c s₁ B hml hv
  obtain ⟨rfl, hZ, hP, hK⟩ := hv
  have hx := B.exec
  have hb := B.bytes
  have hr := B.returns
  have hts := atoms_spec (ws := WM_leafOf) B.pre
  have hT : ∀ w ∈ TB, w.before _ s = true := fun w h => hts w (List.mem_cons_of_mem _ h)
  have hown : s.vm.findClass R_M = some m.cls := findClass_of_methodNamed B.named
  have hlocks := B.notSynchronized
  have hS : va_S (fun _ => False) s.heap s.heap [] := va_S.rf
  have hl := lv_entry ([.ref y, .int (nI t), .int (-1)]) (n := 5) (Nat.le_of_ble_eq_true rfl)
  rw [lg_entry_eq]
  generalize (lg_sl ([.ref y, .int (nI t), .int (-1)]) ++ List.replicate (5 - (lg_sl ([.ref y, .int (nI t), .int (-1)])).length) Slot.unset).toArray = ls at hl ⊢
  have hl : lv_has ls 5 [(0, .ref y), (1, .int (nI t)), (2, .int (-1))] := hl
  refine lv_bipush (v := 31) hx hb dM_leafOf_0 (by decide) ?_
  refine lv_iload_n hx hb dM_leafOf_2 rfl (lv_at hl 1 rfl) ?_
  refine lv_imul hx hb dM_leafOf_3 ?_
  refine lv_topi (fun y9 e9 => ?_)
  cases (show y9 = nI (31 * t) from e9.trans (pk_mul 31 t))
  refine lv_istore_n hx hb dM_leafOf_4 rfl hl (by decide) rfl (fun ls hl => ?_)
  have hl : lv_has ls 5 [(3, .int (nI (31 * t))), (0, .ref y), (1, .int (nI t)), (2, .int (-1))] := hl
  refine lp_r (α := Nat) (fun a9 => a9 < n ∧ lfw nc nl nr go (31 * t) (4 - dp a9) a9 = lfw nc nl nr go (31 * t) 4 0) (fun a9 => 4 - dp a9) (fun a9 => [(0, .ref y), (1, .int (nI t)), (2, .int (-1)), (3, .int (nI (31 * t + a9)))]) 5 ?_ 0 (show 0 < n ∧ lfw nc nl nr go (31 * t) (4 - dp 0) 0 = lfw nc nl nr go (31 * t) 4 0 from ⟨hT9.1, by rw [hT9.2.2.1]⟩) (lv_sub hl [1, 2, 3, 0] rfl)
  intro a9 hI5 ih5 ls hl
  obtain ⟨k, rfl⟩ : ∃ q9, q9 = a9 := ⟨_, rfl⟩
  have hI5 : k < n ∧ lfw nc nl nr go (31 * t) (4 - dp k) k = lfw nc nl nr go (31 * t) 4 0 := hI5
  obtain ⟨ik, iv⟩ := hI5
  have hl : lv_has ls 5 [(0, .ref y), (1, .int (nI t)), (2, .int (-1)), (3, .int (nI (31 * t + k)))] := hl
  have hn31 := hT9.2.1
  refine lv_aload_n hx hb dM_leafOf_5 rfl (lv_at hl 0 rfl) ?_
  refine va_get (D := D) (ci := 11) (v := .ref (yr 19)) (C := R_M) (T := T_M) (N := 60) hx hb hT in_M hown hK hP 0 rfl rfl 19 (by decide) (hT _ w1123) (fun _ h9 => h9) rfl dM_leafOf_6 ?_
  refine lv_iload_n hx hb dM_leafOf_9 rfl (lv_at hl 3 rfl) ?_
  refine lq_iald (j := 31 * t + k) hx hb hK hP 1 0 rfl rfl rfl (by omega) (by omega) dM_leafOf_10 ?_
  refine lv_if_lt (tgt := 84) hx hb dM_leafOf_11 rfl (fun h1 => ?_) (fun h1 => ?_)
  · refine lv_iload_n hx hb dM_leafOf_84 rfl (lv_at hl 3 rfl) ?_
    exact W.iret (v := nI (31 * t + k)) hx hb hr (fun t9 ht9 hW9 => ⟨by rw [hlf, ← iv, lfw_leaf h1], ht9⟩) (fun q h => nomatch h) dM_leafOf_85
  · obtain ⟨⟨cc9, hcc, hcn⟩, hd4, hnl, hnr, hlb, hrb, hld, hrd⟩ := tw_in hT9 ik h1
    refine lv_iload_n hx hb dM_leafOf_14 rfl (lv_at hl 2 rfl) ?_
    refine lv_if_ge (tgt := 32) hx hb dM_leafOf_15 rfl (fun h2 => absurd h2 (by decide)) (fun _ => ?_)
    refine lv_aload_n hx hb dM_leafOf_18 rfl (lv_at hl 0 rfl) ?_
    refine va_get (D := D) (ci := 11) (v := .ref (yr 9)) (C := R_M) (T := T_M) (N := 60) hx hb hT in_M hown hK hP 0 rfl rfl 9 (by decide) (hT _ w1113) (fun _ h9 => h9) rfl dM_leafOf_19 ?_
    refine lv_aload_n hx hb dM_leafOf_22 rfl (lv_at hl 0 rfl) ?_
    refine va_get (D := D) (ci := 11) (v := .ref (yr 19)) (C := R_M) (T := T_M) (N := 60) hx hb hT in_M hown hK hP 0 rfl rfl 19 (by decide) (hT _ w1123) (fun _ h9 => h9) rfl dM_leafOf_23 ?_
    refine lv_iload_n hx hb dM_leafOf_26 rfl (lv_at hl 3 rfl) ?_
    refine lq_iald (j := 31 * t + k) hx hb hK hP 1 0 rfl rfl rfl (by omega) (by omega) dM_leafOf_27 ?_
    refine lv_topi (fun y9 e9 => ?_)
    cases (show y9 = nI cc9 from e9.trans hcn)
    refine lq_iald (j := cc9) hx hb hK hP 4 0 rfl rfl rfl (by omega) (by omega) dM_leafOf_28 ?_
    refine lv_goto (tgt := 48) hx hb dM_leafOf_29 rfl ?_
    refine lv_istore hx hb dM_leafOf_48 hl (by decide) rfl (fun ls hl => ?_)
    have hl : lv_has ls 5 [(4, .int (vv cc9)), (0, .ref y), (1, .int (nI t)), (2, .int (-1)), (3, .int (nI (31 * t + k)))] := hl
    refine lv_bipush (v := 31) hx hb dM_leafOf_50 (by decide) ?_
    refine lv_iload_n hx hb dM_leafOf_52 rfl (lv_at hl 2 rfl) ?_
    refine lv_imul hx hb dM_leafOf_53 ?_
    refine lv_topi (fun y9 e9 => ?_)
    cases (show y9 = nI (31 * t) from e9.trans (pk_mul 31 t))
    refine lv_aload_n hx hb dM_leafOf_54 rfl (lv_at hl 1 rfl) ?_
    refine lv_iload_n hx hb dM_leafOf_55 rfl (lv_at hl 4 rfl) ?_
    refine lv_iload hx hb dM_leafOf_56 (lv_at hl 0 rfl) ?_
    refine ro_i (va_Run.run (va_runV (As := [.int (nI (31 * t + k)), .int (vv cc9)]) (rest := [.int (nI (31 * t))]) ⟨hx, hb, hml, hown, hT⟩ (m_goes l D cT y yr yi ysb ybs tl kd ed (31 * t + k) (vv cc9) (by omega) (htl _ (by omega))) ⟨callB_of 2 hT (tb_gd w1396) rfl rfl rfl (hT _ w13) (hT _ w1393) hM_goesLeft ⟨Nat.le_of_ble_eq_true rfl, Nat.le_of_ble_eq_true rfl⟩, (hT _ w1395), (hT _ wp38)⟩ (RO.preV (ci := 11) (q0 := 0) hZ hS (hP.sub (ws' := [(y, .inr (11, MO yr yi ysb ybs)), (yr 21, .inl (cT 3, 496, .inl tl)), (yr 26, .inl (cT 3, 496, .inl kd)), (yr 20, .inl (cT 0, 496, .inl ed))]) [0, 5, 6, 7] rfl) hK rfl rfl) rfl rfl hl.1 rfl (lv_room (Nat.le_of_ble_eq_true rfl)) dM_leafOf_58 ⟨Nat.le_of_ble_eq_true rfl, Nat.le_of_ble_eq_true rfl⟩)) ?_
    refine lv_if_eq (tgt := 73) hx hb dM_leafOf_61 rfl (fun h3 => ?_) (fun h3 => ?_)
    · have hg : ¬ go k = true := by rw [hgo k ik cc9 hcc hcn, bn_0.mp h3]; decide
      refine lv_aload_n hx hb dM_leafOf_73 rfl (lv_at hl 1 rfl) ?_
      refine va_get (D := D) (ci := 11) (v := .ref (yr 23)) (C := R_M) (T := T_M) (N := 60) hx hb hT in_M hown hK hP 0 rfl rfl 23 (by decide) (hT _ w1127) (fun _ h9 => h9) rfl dM_leafOf_74 ?_
      refine lv_iload_n hx hb dM_leafOf_77 rfl (lv_at hl 4 rfl) ?_
      refine lq_iald (j := 31 * t + k) hx hb hK hP 3 0 rfl rfl rfl (by omega) (by omega) dM_leafOf_78 ?_
      refine lv_topi (fun y9 e9 => ?_)
      cases (show y9 = nI (dg nr (31 * t + k)) from e9.trans hnr)
      refine lv_iadd hx hb dM_leafOf_79 ?_
      refine lv_topi (fun y9 e9 => ?_)
      cases (show y9 = nI ((31 * t) + (dg nr (31 * t + k))) from e9.trans (nI_add (31 * t) (dg nr (31 * t + k))))
      refine lv_istore_n hx hb dM_leafOf_80 rfl hl (by decide) rfl (fun ls hl => ?_)
      have hl : lv_has ls 5 [(3, .int (nI ((31 * t) + (dg nr (31 * t + k))))), (4, .int (vv cc9)), (0, .ref y), (1, .int (nI t)), (2, .int (-1))] := hl
      refine lv_goto (tgt := 5) hx hb dM_leafOf_81 rfl ?_
      exact ih5 (dg nr (31 * t + k)) (show (dg nr (31 * t + k)) < n ∧ lfw nc nl nr go (31 * t) (4 - dp (dg nr (31 * t + k))) (dg nr (31 * t + k)) = lfw nc nl nr go (31 * t) 4 0 from ⟨hrb, by rw [← iv, show 4 - dp k = (4 - (dp k + 1)) + 1 by omega, lfw_s h1, if_neg hg, hrd]⟩) (show 4 - dp (dg nr (31 * t + k)) < 4 - dp k from (by omega)) ls (lv_sub hl [2, 3, 4, 0] rfl)
    · have hg : go k = true := by rw [hgo k ik cc9 hcc hcn]; exact bt_nf (fun q => h3 (bn_0.mpr q))
      refine lv_aload_n hx hb dM_leafOf_64 rfl (lv_at hl 1 rfl) ?_
      refine va_get (D := D) (ci := 11) (v := .ref (yr 22)) (C := R_M) (T := T_M) (N := 60) hx hb hT in_M hown hK hP 0 rfl rfl 22 (by decide) (hT _ w1126) (fun _ h9 => h9) rfl dM_leafOf_65 ?_
      refine lv_iload_n hx hb dM_leafOf_68 rfl (lv_at hl 4 rfl) ?_
      refine lq_iald (j := 31 * t + k) hx hb hK hP 2 0 rfl rfl rfl (by omega) (by omega) dM_leafOf_69 ?_
      refine lv_topi (fun y9 e9 => ?_)
      cases (show y9 = nI (dg nl (31 * t + k)) from e9.trans hnl)
      refine lv_goto (tgt := 79) hx hb dM_leafOf_70 rfl ?_
      refine lv_iadd hx hb dM_leafOf_79 ?_
      refine lv_topi (fun y9 e9 => ?_)
      cases (show y9 = nI ((31 * t) + (dg nl (31 * t + k))) from e9.trans (nI_add (31 * t) (dg nl (31 * t + k))))
      refine lv_istore_n hx hb dM_leafOf_80 rfl hl (by decide) rfl (fun ls hl => ?_)
      have hl : lv_has ls 5 [(3, .int (nI ((31 * t) + (dg nl (31 * t + k))))), (4, .int (vv cc9)), (0, .ref y), (1, .int (nI t)), (2, .int (-1))] := hl
      refine lv_goto (tgt := 5) hx hb dM_leafOf_81 rfl ?_
      exact ih5 (dg nl (31 * t + k)) (show (dg nl (31 * t + k)) < n ∧ lfw nc nl nr go (31 * t) (4 - dp (dg nl (31 * t + k))) (dg nl (31 * t + k)) = lfw nc nl nr go (31 * t) 4 0 from ⟨hlb, by rw [← iv, show 4 - dp k = (4 - (dp k + 1)) + 1 by omega, lfw_s h1, if_pos hg, hld]⟩) (show 4 - dp (dg nl (31 * t + k)) < 4 - dp k from (by omega)) ls (lv_sub hl [2, 3, 4, 0] rfl)
set_option maxHeartbeats 4000000 in
set_option maxRecDepth 100000 in
theorem m_take (l : Launch) (D : va_G) (cT : Nat → ClassId) (y : Nat) (yr : Nat → Nat) (yi : Nat → Int32) (ysb : Int64) (ybs : Int64) (up : Nat → Int32) (lw : Nat → Int32) (nd : Nat) (z : Int) (f2 : Nat → Int32) (g2 : Nat → Int32) (hM : MR up (132 * nd) z) (hnd : nd < 496) (sz : Nat) : Met l yM_take WM_take ({ frames := 1, cells := 0, slots := 0, locals := 23 } : Room) (RW D vwCl [.ref y, .int (nI nd)] [(y, .inr (11, MO yr yi ysb ybs)), (yr 27, .inl (cT 0, 65472, .inl up)), (yr 28, .inl (cT 0, 9424, .inl lw)), (yr 30, .inl (cT 0, 302, .inl f2)), (yr 41, .inl (cT 0, 19, .inl g2))] (TY cT) sz) (va_Qv (fun u9 : (Nat → Int32) × (Nat → Int32) => MN u9.1 z ∧ ∀ q8, q8 < 19 → u9.2 q8 = lw (19 * nd + q8)) (BW D vwCl (va_A [(y, .inr (11, MO yr yi ysb ybs)), (yr 27, .inl (cT 0, 65472, .inl up)), (yr 28, .inl (cT 0, 9424, .inl lw)), (yr 30, .inl (cT 0, 302, .inl f2)), (yr 41, .inl (cT 0, 19, .inl g2))] sz) (fun u9 : (Nat → Int32) × (Nat → Int32) => [(y, .inr (11, MO yr yi ysb ybs)), (yr 27, .inl (cT 0, 65472, .inl up)), (yr 28, .inl (cT 0, 9424, .inl lw)), (yr 30, .inl (cT 0, 302, .inl u9.1)), (yr 41, .inl (cT 0, 19, .inl u9.2))])) (va_A [(y, .inr (11, MO yr yi ysb ybs)), (yr 27, .inl (cT 0, 65472, .inl up)), (yr 28, .inl (cT 0, 9424, .inl lw)), (yr 30, .inl (cT 0, 302, .inl f2)), (yr 41, .inl (cT 0, 19, .inl g2))] sz)) 0 0 (va_A [(y, .inr (11, MO yr yi ysb ybs)), (yr 27, .inl (cT 0, 65472, .inl up)), (yr 28, .inl (cT 0, 9424, .inl lw)), (yr 30, .inl (cT 0, 302, .inl f2)), (yr 41, .inl (cT 0, 19, .inl g2))] sz) := by
  refine Met.ofW (cc := cM_take) (maxL := 2) (ret := none) (by decide) rfl ?_
  intro p e s m args below meth c s₁ B hml hv
  obtain ⟨rfl, hsz, hZ, hP, hK, hD0⟩ := hv
  have hx := B.exec
  have hb := B.bytes
  have hr := B.returns
  have hts := atoms_spec (ws := WM_take) B.pre
  have hT : ∀ w ∈ TB, w.before _ s = true := fun w h => hts w (List.mem_cons_of_mem _ h)
  have hown : s.vm.findClass R_M = some m.cls := findClass_of_methodNamed B.named
  have hlocks := B.notSynchronized
  subst hsz
  have hD := hD0.self (sz := s.heap.size)
  generalize hAe : va_A [(y, .inr (11, MO yr yi ysb ybs)), (yr 27, .inl (cT 0, 65472, .inl up)), (yr 28, .inl (cT 0, 9424, .inl lw)), (yr 30, .inl (cT 0, 302, .inl f2)), (yr 41, .inl (cT 0, 19, .inl g2))] s.heap.size = A at hD hZ ⊢
  have hA : ∀ q : Nat, s.heap.size ≤ q → A q := fun q h => by rw [← hAe]; exact Or.inr h
  have hS : va_S A s.heap s.heap [] := va_S.rf
  have hl := lv_entry ([.ref y, .int (nI nd)]) (n := 2) (Nat.le_of_ble_eq_true rfl)
  rw [lg_entry_eq]
  generalize (lg_sl ([.ref y, .int (nI nd)]) ++ List.replicate (2 - (lg_sl ([.ref y, .int (nI nd)])).length) Slot.unset).toArray = ls at hl ⊢
  have hl : lv_has ls 2 [(0, .ref y), (1, .int (nI nd))] := hl
  refine lv_aload_n hx hb dM_take_0 rfl (lv_at hl 0 rfl) ?_
  refine va_get (D := D) (ci := 11) (v := .ref (yr 27)) (C := R_M) (T := T_M) (N := 60) hx hb hT in_M hown hK hP 0 rfl rfl 27 (by decide) (hT _ w1131) (fun _ h9 => h9) rfl dM_take_1 ?_
  refine lv_sipush (v := 132) hx hb dM_take_4 (by decide) ?_
  refine lv_iload_n hx hb dM_take_7 rfl (lv_at hl 1 rfl) ?_
  refine lv_imul hx hb dM_take_8 ?_
  refine lv_topi (fun y9 e9 => ?_)
  cases (show y9 = nI (132 * nd) from e9.trans (pk_mul 132 nd))
  refine lv_aload_n hx hb dM_take_9 rfl (lv_at hl 0 rfl) ?_
  refine va_get (D := D) (ci := 11) (v := .ref (yr 30)) (C := R_M) (T := T_M) (N := 60) hx hb hT in_M hown hK hP 0 rfl rfl 30 (by decide) (hT _ w1134) (fun _ h9 => h9) rfl dM_take_10 ?_
  refine rw_v (wc := [(yr 27, .inl (cT 0, 65472, .inl up)), (yr 30, .inl (cT 0, 302, .inl f2))]) (wr := [(y, .inr (11, MO yr yi ysb ybs)), (yr 28, .inl (cT 0, 9424, .inl lw)), (yr 41, .inl (cT 0, 19, .inl g2))]) hP hD hS hA [1, 3] [0, 2, 4] rfl rfl (by decide) (by decide) (va_runS (As := [.ref (yr 27), .int (nI (132 * nd)), .ref (yr 30)]) (rest := []) ⟨hx, hb, hml, hown, hT⟩ (m_load l D cT (yr 27) 65472 up (132 * nd) z (yr 30) f2 hM (by omega) (by decide) _) ⟨callB_of 3 hT (tb_gd w1403) rfl rfl rfl (hT _ w13) (hT _ w1401) hM_load ⟨Nat.le_of_ble_eq_true rfl, Nat.le_of_ble_eq_true rfl⟩, (hT _ w1402)⟩ (RW.preS hZ hS (va_free (wc := [(yr 27, .inl (cT 0, 65472, .inl up)), (yr 30, .inl (cT 0, 302, .inl f2))]) hD hS hA [1, 3] rfl) (hP.sub (ws' := [(yr 27, .inl (cT 0, 65472, .inl up)), (yr 30, .inl (cT 0, 302, .inl f2))]) [1, 3] rfl) hK (hD.sub (ws' := [(yr 27, .inl (cT 0, 65472, .inl up)), (yr 30, .inl (cT 0, 302, .inl f2))]) [1, 3] (by decide) rfl)) rfl rfl hl.1 rfl (lv_room (Nat.le_of_ble_eq_true rfl)) dM_take_13 ⟨Nat.le_of_ble_eq_true rfl, Nat.le_of_ble_eq_true rfl⟩) (fun u9 H locs hpu1 hP hD hS => ?_)
  obtain ⟨f1u1, rfl⟩ : ∃ q9, q9 = u9 := ⟨_, rfl⟩
  have hpu1 : MN f1u1 z := hpu1
  have hP : va_P D vwCl [(y, .inr (11, MO yr yi ysb ybs)), (yr 28, .inl (cT 0, 9424, .inl lw)), (yr 41, .inl (cT 0, 19, .inl g2)), (yr 27, .inl (cT 0, 65472, .inl up)), (yr 30, .inl (cT 0, 302, .inl f1u1))] _ := hP
  have hD : va_D A [(y, .inr (11, MO yr yi ysb ybs)), (yr 28, .inl (cT 0, 9424, .inl lw)), (yr 41, .inl (cT 0, 19, .inl g2)), (yr 27, .inl (cT 0, 65472, .inl up)), (yr 30, .inl (cT 0, 302, .inl f1u1))] := hD
  refine lv_aload_n hx hb dM_take_16 rfl (lv_at hl 0 rfl) ?_
  refine va_get (D := D) (ci := 11) (v := .ref (yr 28)) (C := R_M) (T := T_M) (N := 60) hx hb hT in_M hown hK hP 0 rfl rfl 28 (by decide) (hT _ w1132) (fun _ h9 => h9) rfl dM_take_17 ?_
  refine lv_bipush (v := 19) hx hb dM_take_20 (by decide) ?_
  refine lv_iload_n hx hb dM_take_22 rfl (lv_at hl 1 rfl) ?_
  refine lv_imul hx hb dM_take_23 ?_
  refine lv_topi (fun y9 e9 => ?_)
  cases (show y9 = nI (19 * nd) from e9.trans (pk_mul 19 nd))
  refine lv_aload_n hx hb dM_take_24 rfl (lv_at hl 0 rfl) ?_
  refine va_get (D := D) (ci := 11) (v := .ref (yr 41)) (C := R_M) (T := T_M) (N := 60) hx hb hT in_M hown hK hP 0 rfl rfl 41 (by decide) (hT _ w1145) (fun _ h9 => h9) rfl dM_take_25 ?_
  refine rw_v (wc := [(yr 28, .inl (cT 0, 9424, .inl lw)), (yr 41, .inl (cT 0, 19, .inl g2))]) (wr := [(y, .inr (11, MO yr yi ysb ybs)), (yr 27, .inl (cT 0, 65472, .inl up)), (yr 30, .inl (cT 0, 302, .inl f1u1))]) hP hD hS hA [1, 2] [0, 3, 4] rfl rfl (by decide) (by decide) (va_runS (As := [.ref (yr 28), .int (nI (19 * nd)), .ref (yr 41)]) (rest := []) ⟨hx, hb, hml, hown, hT⟩ (m_loadL l D cT (yr 28) 9424 lw (19 * nd) (yr 41) g2 (by omega) (by decide) _) ⟨callB_of 3 hT (tb_gd w1406) rfl rfl rfl (hT _ w13) (hT _ w1404) hM_loadLows ⟨Nat.le_of_ble_eq_true rfl, Nat.le_of_ble_eq_true rfl⟩, (hT _ w1405)⟩ (RW.preS hZ hS (va_free (wc := [(yr 28, .inl (cT 0, 9424, .inl lw)), (yr 41, .inl (cT 0, 19, .inl g2))]) hD hS hA [1, 2] rfl) (hP.sub (ws' := [(yr 28, .inl (cT 0, 9424, .inl lw)), (yr 41, .inl (cT 0, 19, .inl g2))]) [1, 2] rfl) hK (hD.sub (ws' := [(yr 28, .inl (cT 0, 9424, .inl lw)), (yr 41, .inl (cT 0, 19, .inl g2))]) [1, 2] (by decide) rfl)) rfl rfl hl.1 rfl (lv_room (Nat.le_of_ble_eq_true rfl)) dM_take_28 ⟨Nat.le_of_ble_eq_true rfl, Nat.le_of_ble_eq_true rfl⟩) (fun u9 H locs hpu2 hP hD hS => ?_)
  obtain ⟨f1u2, rfl⟩ : ∃ q9, q9 = u9 := ⟨_, rfl⟩
  have hpu2 : ∀ q8, q8 < 19 → f1u2 q8 = lw ((19 * nd) + q8) := hpu2
  have hP : va_P D vwCl [(y, .inr (11, MO yr yi ysb ybs)), (yr 27, .inl (cT 0, 65472, .inl up)), (yr 30, .inl (cT 0, 302, .inl f1u1)), (yr 28, .inl (cT 0, 9424, .inl lw)), (yr 41, .inl (cT 0, 19, .inl f1u2))] _ := hP
  have hD : va_D A [(y, .inr (11, MO yr yi ysb ybs)), (yr 27, .inl (cT 0, 65472, .inl up)), (yr 30, .inl (cT 0, 302, .inl f1u1)), (yr 28, .inl (cT 0, 9424, .inl lw)), (yr 41, .inl (cT 0, 19, .inl f1u2))] := hD
  have hP9 := hP.sub (ws' := [(y, .inr (11, MO yr yi ysb ybs)), (yr 27, .inl (cT 0, 65472, .inl up)), (yr 28, .inl (cT 0, 9424, .inl lw)), (yr 30, .inl (cT 0, 302, .inl f1u1)), (yr 41, .inl (cT 0, 19, .inl f1u2))]) [0, 1, 3, 2, 4] rfl
  have hD9 := hD.sub (ws' := [(y, .inr (11, MO yr yi ysb ybs)), (yr 27, .inl (cT 0, 65472, .inl up)), (yr 28, .inl (cT 0, 9424, .inl lw)), (yr 30, .inl (cT 0, 302, .inl f1u1)), (yr 41, .inl (cT 0, 19, .inl f1u2))]) [0, 1, 3, 2, 4] (by decide) rfl
  refine W.widen (k := 0) (n := 0) (Nat.le_of_ble_eq_true rfl) (Nat.le_of_ble_eq_true rfl) ?_
  exact W.vret hx hb hr (fun t9 ht9 hW9 => ⟨⟨(f1u1, f1u2), rfl, (show MN f1u1 z ∧ ∀ q8, q8 < 19 → f1u2 q8 = lw (19 * nd + q8) from ⟨hpu1, hpu2⟩), by rw [ht9]; exact hP9, hD9⟩, hS.F ht9⟩) hS.2.2 dM_take_31
/-- what the trees make of a number: Pp the product of scales, X the number over it, LX the leaves' values -/
def CHN (Pp sc : Nat → Nat) (X LX : Nat → Int) (sub : Bool) (n PB XB : Nat) : Prop := Pp 0 = 1 ∧ (∀ t, t < n → Pp (t + 1) = Pp t * sc t ∧ X (t + 1) = (if sub = true then X t * (sc t : Int) - LX t else X t * (sc t : Int) + LX t) ∧ (LX t).natAbs ≤ XB) ∧ ∀ t, t ≤ n → 0 < Pp t ∧ Pp t ≤ PB ∧ (X t).natAbs ≤ XB
theorem fit_w {z lz d ld XB PB : Nat} (h1 : z ≤ XB) (h2 : lz ≤ XB) (h3 : d ≤ PB) (h4 : ld ≤ PB) (hB : XB * PB + XB * (PB * PB) < 268435456 ^ 130) : z * ld + lz * (d * ld) < 268435456 ^ 250 := by
  have a := Nat.mul_le_mul h1 h4
  have b := Nat.mul_le_mul h2 (Nat.mul_le_mul h3 h4)
  have c : 268435456 ^ 130 ≤ 268435456 ^ 250 := Nat.pow_le_pow_right (by decide) (by decide)
  exact Nat.lt_of_lt_of_le (Nat.lt_of_le_of_lt (Nat.add_le_add a b) hB) c
set_option maxHeartbeats 4000000 in
set_option maxRecDepth 100000 in
theorem m_walkR (l : Launch) (D : va_G) (cT : Nat → ClassId) (y : Nat) (yr : Nat → Nat) (yi : Nat → Int32) (ysb : Int64) (ybs : Int64) (fp : Nat → Int32) (nc : Nat → Int32) (nl : Nat → Int32) (nr : Nat → Int32) (tl : Nat → Int32) (kd : Nat → Int32) (ed : Nat → Int32) (vv : Nat → Int32) (up : Nat → Int32) (lw : Nat → Int32) (f0 : Nat → Int32) (g0 : Nat → Int32) (f2 : Nat → Int32) (g2 : Nat → Int32) (x0 : Int32) (n : Nat) (r : Nat) (bb : Nat) (nm : Nat → Nat) (dp : Nat → Nat → Nat) (go : Nat → Nat → Bool) (lf : Nat → Nat) (Pp : Nat → Nat) (sc : Nat → Nat) (X : Nat → Int) (LX : Nat → Int) (PB : Nat) (XB : Nat) (hPR : PRI fp) (hn16 : n ≤ 16) (hr48 : r < 48) (hbb : bb < 2 ^ 30) (hx0 : X 0 = x0.toInt) (hx1 : -1000000000 ≤ x0.toInt ∧ x0.toInt ≤ 1000000000) (hC : CHN Pp sc X LX true n PB XB) (hBB : XB * PB + XB * (PB * PB) < 268435456 ^ 130) (hT9 : ∀ t, t < n → TWF nc nl nr (dp t) (31 * t) (nm t)) (htl : ∀ q, q < 496 → tl q = 0 ∨ tl q = 1) (hgo : ∀ t, t < n → ∀ k, k < nm t → ∀ c, c < 6 → nc (31 * t + k) = nI c → go t k = goB (tl (31 * t + k)) (kd (31 * t + k)) (ed (31 * t + k)) (vv (6 * r + c))) (hlf : ∀ t, t < n → lf t = lfw nc nl nr (go t) (31 * t) 4 0) (hlfb : ∀ t, t < n → lf t < 31) (hNF : ∀ t, t < n → NF up lw bb (31 * t + lf t) (LX t) (Pp (t + 1))) (sz : Nat) : Met l yM_walk WM_walk ({ frames := 4, cells := 0, slots := 0, locals := 99 } : Room) (RW D vwCl [.ref y, .int (nI r), .int (nI n), .int (-1), .int x0] [(y, .inr (11, MO yr yi ysb ybs)), (yr 0, .inl (cT 0, 19, .inl fp)), (yr 29, .inl (cT 0, 302, .inl f0)), (yr 40, .inl (cT 0, 19, .inl g0)), (yr 30, .inl (cT 0, 302, .inl f2)), (yr 41, .inl (cT 0, 19, .inl g2)), (yr 27, .inl (cT 0, 65472, .inl up)), (yr 28, .inl (cT 0, 9424, .inl lw)), (yr 19, .inl (cT 0, 496, .inl nc)), (yr 22, .inl (cT 0, 496, .inl nl)), (yr 23, .inl (cT 0, 496, .inl nr)), (yr 5, .inl (cT 0, 288, .inl vv)), (yr 21, .inl (cT 3, 496, .inl tl)), (yr 26, .inl (cT 3, 496, .inl kd)), (yr 20, .inl (cT 0, 496, .inl ed))] (TY cT) sz) (va_Qv (fun u9 : Int × (Nat → Int32) × (Nat → Int32) × (Nat → Int32) × (Nat → Int32) => MN u9.2.1 u9.1 ∧ LOK u9.2.2.1 bb ∧ RED u9.1 u9.2.2.1 ∧ u9.1 * (Pp n : Int) = X n * (dn u9.2.2.1 : Int)) (BW D vwCl (va_A [(y, .inr (11, MO yr yi ysb ybs)), (yr 0, .inl (cT 0, 19, .inl fp)), (yr 29, .inl (cT 0, 302, .inl f0)), (yr 40, .inl (cT 0, 19, .inl g0)), (yr 30, .inl (cT 0, 302, .inl f2)), (yr 41, .inl (cT 0, 19, .inl g2)), (yr 27, .inl (cT 0, 65472, .inl up)), (yr 28, .inl (cT 0, 9424, .inl lw)), (yr 19, .inl (cT 0, 496, .inl nc)), (yr 22, .inl (cT 0, 496, .inl nl)), (yr 23, .inl (cT 0, 496, .inl nr)), (yr 5, .inl (cT 0, 288, .inl vv)), (yr 21, .inl (cT 3, 496, .inl tl)), (yr 26, .inl (cT 3, 496, .inl kd)), (yr 20, .inl (cT 0, 496, .inl ed))] sz) (fun u9 : Int × (Nat → Int32) × (Nat → Int32) × (Nat → Int32) × (Nat → Int32) => [(y, .inr (11, MO yr yi ysb ybs)), (yr 0, .inl (cT 0, 19, .inl fp)), (yr 29, .inl (cT 0, 302, .inl u9.2.1)), (yr 40, .inl (cT 0, 19, .inl u9.2.2.1)), (yr 30, .inl (cT 0, 302, .inl u9.2.2.2.1)), (yr 41, .inl (cT 0, 19, .inl u9.2.2.2.2)), (yr 27, .inl (cT 0, 65472, .inl up)), (yr 28, .inl (cT 0, 9424, .inl lw)), (yr 19, .inl (cT 0, 496, .inl nc)), (yr 22, .inl (cT 0, 496, .inl nl)), (yr 23, .inl (cT 0, 496, .inl nr)), (yr 5, .inl (cT 0, 288, .inl vv)), (yr 21, .inl (cT 3, 496, .inl tl)), (yr 26, .inl (cT 3, 496, .inl kd)), (yr 20, .inl (cT 0, 496, .inl ed))])) (va_A [(y, .inr (11, MO yr yi ysb ybs)), (yr 0, .inl (cT 0, 19, .inl fp)), (yr 29, .inl (cT 0, 302, .inl f0)), (yr 40, .inl (cT 0, 19, .inl g0)), (yr 30, .inl (cT 0, 302, .inl f2)), (yr 41, .inl (cT 0, 19, .inl g2)), (yr 27, .inl (cT 0, 65472, .inl up)), (yr 28, .inl (cT 0, 9424, .inl lw)), (yr 19, .inl (cT 0, 496, .inl nc)), (yr 22, .inl (cT 0, 496, .inl nl)), (yr 23, .inl (cT 0, 496, .inl nr)), (yr 5, .inl (cT 0, 288, .inl vv)), (yr 21, .inl (cT 3, 496, .inl tl)), (yr 26, .inl (cT 3, 496, .inl kd)), (yr 20, .inl (cT 0, 496, .inl ed))] sz)) 0 0 (va_A [(y, .inr (11, MO yr yi ysb ybs)), (yr 0, .inl (cT 0, 19, .inl fp)), (yr 29, .inl (cT 0, 302, .inl f0)), (yr 40, .inl (cT 0, 19, .inl g0)), (yr 30, .inl (cT 0, 302, .inl f2)), (yr 41, .inl (cT 0, 19, .inl g2)), (yr 27, .inl (cT 0, 65472, .inl up)), (yr 28, .inl (cT 0, 9424, .inl lw)), (yr 19, .inl (cT 0, 496, .inl nc)), (yr 22, .inl (cT 0, 496, .inl nl)), (yr 23, .inl (cT 0, 496, .inl nr)), (yr 5, .inl (cT 0, 288, .inl vv)), (yr 21, .inl (cT 3, 496, .inl tl)), (yr 26, .inl (cT 3, 496, .inl kd)), (yr 20, .inl (cT 0, 496, .inl ed))] sz) := by
  refine Met.ofW (cc := cM_walk) (maxL := 6) (ret := none) (by decide) rfl ?_
  intro p e s m args below meth c s₁ B hml hv
  obtain ⟨rfl, hsz, hZ, hP, hK, hD0⟩ := hv
  have hx := B.exec
  have hb := B.bytes
  have hr := B.returns
  have hts := atoms_spec (ws := WM_walk) B.pre
  have hT : ∀ w ∈ TB, w.before _ s = true := fun w h => hts w (List.mem_cons_of_mem _ h)
  have hown : s.vm.findClass R_M = some m.cls := findClass_of_methodNamed B.named
  have hlocks := B.notSynchronized
  subst hsz
  have hD := hD0.self (sz := s.heap.size)
  generalize hAe : va_A [(y, .inr (11, MO yr yi ysb ybs)), (yr 0, .inl (cT 0, 19, .inl fp)), (yr 29, .inl (cT 0, 302, .inl f0)), (yr 40, .inl (cT 0, 19, .inl g0)), (yr 30, .inl (cT 0, 302, .inl f2)), (yr 41, .inl (cT 0, 19, .inl g2)), (yr 27, .inl (cT 0, 65472, .inl up)), (yr 28, .inl (cT 0, 9424, .inl lw)), (yr 19, .inl (cT 0, 496, .inl nc)), (yr 22, .inl (cT 0, 496, .inl nl)), (yr 23, .inl (cT 0, 496, .inl nr)), (yr 5, .inl (cT 0, 288, .inl vv)), (yr 21, .inl (cT 3, 496, .inl tl)), (yr 26, .inl (cT 3, 496, .inl kd)), (yr 20, .inl (cT 0, 496, .inl ed))] s.heap.size = A at hD hZ ⊢
  have hA : ∀ q : Nat, s.heap.size ≤ q → A q := fun q h => by rw [← hAe]; exact Or.inr h
  have hS : va_S A s.heap s.heap [] := va_S.rf
  have hl := lv_entry ([.ref y, .int (nI r), .int (nI n), .int (-1), .int x0]) (n := 6) (Nat.le_of_ble_eq_true rfl)
  rw [lg_entry_eq]
  generalize (lg_sl ([.ref y, .int (nI r), .int (nI n), .int (-1), .int x0]) ++ List.replicate (6 - (lg_sl ([.ref y, .int (nI r), .int (nI n), .int (-1), .int x0])).length) Slot.unset).toArray = ls at hl ⊢
  have hl : lv_has ls 6 [(0, .ref y), (1, .int (nI r)), (2, .int (nI n)), (3, .int (-1)), (4, .int x0)] := hl
  refine lv_aload_n hx hb dM_walk_0 rfl (lv_at hl 0 rfl) ?_
  refine va_get (D := D) (ci := 11) (v := .ref (yr 29)) (C := R_M) (T := T_M) (N := 60) hx hb hT in_M hown hK hP 0 rfl rfl 29 (by decide) (hT _ w1133) (fun _ h9 => h9) rfl dM_walk_1 ?_
  refine lv_iload hx hb dM_walk_4 (lv_at hl 4 rfl) ?_
  refine lv_i2l hx hb dM_walk_6 rfl ?_
  refine lv_topl (fun y9 e9 => ?_)
  cases (show y9 = x0.toInt64 from e9.trans rfl)
  refine rw_v (wc := [(yr 29, .inl (cT 0, 302, .inl f0))]) (wr := [(y, .inr (11, MO yr yi ysb ybs)), (yr 0, .inl (cT 0, 19, .inl fp)), (yr 40, .inl (cT 0, 19, .inl g0)), (yr 30, .inl (cT 0, 302, .inl f2)), (yr 41, .inl (cT 0, 19, .inl g2)), (yr 27, .inl (cT 0, 65472, .inl up)), (yr 28, .inl (cT 0, 9424, .inl lw)), (yr 19, .inl (cT 0, 496, .inl nc)), (yr 22, .inl (cT 0, 496, .inl nl)), (yr 23, .inl (cT 0, 496, .inl nr)), (yr 5, .inl (cT 0, 288, .inl vv)), (yr 21, .inl (cT 3, 496, .inl tl)), (yr 26, .inl (cT 3, 496, .inl kd)), (yr 20, .inl (cT 0, 496, .inl ed))]) hP hD hS hA [2] [0, 1, 3, 4, 5, 6, 7, 8, 9, 10, 11, 12, 13, 14] rfl rfl (by decide) (by decide) (va_runS (As := [.ref (yr 29), .long x0.toInt64]) (rest := []) ⟨hx, hb, hml, hown, hT⟩ (m_setInt l D cT (yr 29) f0 x0.toInt64 (by rw [Int32.toInt_toInt64]; omega) _) ⟨callB_of 2 hT (tb_gd w1387) rfl rfl rfl (hT _ w13) (hT _ w1385) hM_setInt ⟨Nat.le_of_ble_eq_true rfl, Nat.le_of_ble_eq_true rfl⟩, (hT _ w1386)⟩ (RW.preS hZ hS (va_free (wc := [(yr 29, .inl (cT 0, 302, .inl f0))]) hD hS hA [2] rfl) (hP.sub (ws' := [(yr 29, .inl (cT 0, 302, .inl f0))]) [2] rfl) hK (hD.sub (ws' := [(yr 29, .inl (cT 0, 302, .inl f0))]) [2] (by decide) rfl)) rfl rfl hl.1 rfl (lv_room (Nat.le_of_ble_eq_true rfl)) dM_walk_7 ⟨Nat.le_of_ble_eq_true rfl, Nat.le_of_ble_eq_true rfl⟩) (fun u9 H locs hpu1 hP hD hS => ?_)
  obtain ⟨f1u1, rfl⟩ : ∃ q9, q9 = u9 := ⟨_, rfl⟩
  have hpu1 : MN f1u1 (x0.toInt64 : Int64).toInt := hpu1
  have hP : va_P D vwCl [(y, .inr (11, MO yr yi ysb ybs)), (yr 0, .inl (cT 0, 19, .inl fp)), (yr 40, .inl (cT 0, 19, .inl g0)), (yr 30, .inl (cT 0, 302, .inl f2)), (yr 41, .inl (cT 0, 19, .inl g2)), (yr 27, .inl (cT 0, 65472, .inl up)), (yr 28, .inl (cT 0, 9424, .inl lw)), (yr 19, .inl (cT 0, 496, .inl nc)), (yr 22, .inl (cT 0, 496, .inl nl)), (yr 23, .inl (cT 0, 496, .inl nr)), (yr 5, .inl (cT 0, 288, .inl vv)), (yr 21, .inl (cT 3, 496, .inl tl)), (yr 26, .inl (cT 3, 496, .inl kd)), (yr 20, .inl (cT 0, 496, .inl ed)), (yr 29, .inl (cT 0, 302, .inl f1u1))] _ := hP
  have hD : va_D A [(y, .inr (11, MO yr yi ysb ybs)), (yr 0, .inl (cT 0, 19, .inl fp)), (yr 40, .inl (cT 0, 19, .inl g0)), (yr 30, .inl (cT 0, 302, .inl f2)), (yr 41, .inl (cT 0, 19, .inl g2)), (yr 27, .inl (cT 0, 65472, .inl up)), (yr 28, .inl (cT 0, 9424, .inl lw)), (yr 19, .inl (cT 0, 496, .inl nc)), (yr 22, .inl (cT 0, 496, .inl nl)), (yr 23, .inl (cT 0, 496, .inl nr)), (yr 5, .inl (cT 0, 288, .inl vv)), (yr 21, .inl (cT 3, 496, .inl tl)), (yr 26, .inl (cT 3, 496, .inl kd)), (yr 20, .inl (cT 0, 496, .inl ed)), (yr 29, .inl (cT 0, 302, .inl f1u1))] := hD
  have a1N : MN f1u1 (X 0) := by have q0 := hpu1; rw [Int32.toInt_toInt64, ← hx0] at q0; exact q0
  refine lv_aload_n hx hb dM_walk_10 rfl (lv_at hl 0 rfl) ?_
  refine va_get (D := D) (ci := 11) (v := .ref (yr 40)) (C := R_M) (T := T_M) (N := 60) hx hb hT in_M hown hK hP 0 rfl rfl 40 (by decide) (hT _ w1144) (fun _ h9 => h9) rfl dM_walk_11 ?_
  refine rw_v (wc := [(yr 40, .inl (cT 0, 19, .inl g0))]) (wr := [(y, .inr (11, MO yr yi ysb ybs)), (yr 0, .inl (cT 0, 19, .inl fp)), (yr 30, .inl (cT 0, 302, .inl f2)), (yr 41, .inl (cT 0, 19, .inl g2)), (yr 27, .inl (cT 0, 65472, .inl up)), (yr 28, .inl (cT 0, 9424, .inl lw)), (yr 19, .inl (cT 0, 496, .inl nc)), (yr 22, .inl (cT 0, 496, .inl nl)), (yr 23, .inl (cT 0, 496, .inl nr)), (yr 5, .inl (cT 0, 288, .inl vv)), (yr 21, .inl (cT 3, 496, .inl tl)), (yr 26, .inl (cT 3, 496, .inl kd)), (yr 20, .inl (cT 0, 496, .inl ed)), (yr 29, .inl (cT 0, 302, .inl f1u1))]) hP hD hS hA [2] [0, 1, 3, 4, 5, 6, 7, 8, 9, 10, 11, 12, 13, 14] rfl rfl (by decide) (by decide) (va_runS (As := [.ref (yr 40)]) (rest := []) ⟨hx, hb, hml, hown, hT⟩ (m_zero l D cT (yr 40) g0 _) ⟨callB_of 1 hT (tb_gd w1380) rfl rfl rfl (hT _ w13) (hT _ w1378) hM_zero ⟨Nat.le_of_ble_eq_true rfl, Nat.le_of_ble_eq_true rfl⟩, (hT _ w1379)⟩ (RW.preS hZ hS (va_free (wc := [(yr 40, .inl (cT 0, 19, .inl g0))]) hD hS hA [2] rfl) (hP.sub (ws' := [(yr 40, .inl (cT 0, 19, .inl g0))]) [2] rfl) hK (hD.sub (ws' := [(yr 40, .inl (cT 0, 19, .inl g0))]) [2] (by decide) rfl)) rfl rfl hl.1 rfl (lv_room (Nat.le_of_ble_eq_true rfl)) dM_walk_14 ⟨Nat.le_of_ble_eq_true rfl, Nat.le_of_ble_eq_true rfl⟩) (fun u9 H locs hpu2 hP hD hS => ?_)
  obtain ⟨f1u2, rfl⟩ : ∃ q9, q9 = u9 := ⟨_, rfl⟩
  have hpu2 : ∀ q8, q8 < 19 → f1u2 q8 = 0 := hpu2
  have hP : va_P D vwCl [(y, .inr (11, MO yr yi ysb ybs)), (yr 0, .inl (cT 0, 19, .inl fp)), (yr 30, .inl (cT 0, 302, .inl f2)), (yr 41, .inl (cT 0, 19, .inl g2)), (yr 27, .inl (cT 0, 65472, .inl up)), (yr 28, .inl (cT 0, 9424, .inl lw)), (yr 19, .inl (cT 0, 496, .inl nc)), (yr 22, .inl (cT 0, 496, .inl nl)), (yr 23, .inl (cT 0, 496, .inl nr)), (yr 5, .inl (cT 0, 288, .inl vv)), (yr 21, .inl (cT 3, 496, .inl tl)), (yr 26, .inl (cT 3, 496, .inl kd)), (yr 20, .inl (cT 0, 496, .inl ed)), (yr 29, .inl (cT 0, 302, .inl f1u1)), (yr 40, .inl (cT 0, 19, .inl f1u2))] _ := hP
  have hD : va_D A [(y, .inr (11, MO yr yi ysb ybs)), (yr 0, .inl (cT 0, 19, .inl fp)), (yr 30, .inl (cT 0, 302, .inl f2)), (yr 41, .inl (cT 0, 19, .inl g2)), (yr 27, .inl (cT 0, 65472, .inl up)), (yr 28, .inl (cT 0, 9424, .inl lw)), (yr 19, .inl (cT 0, 496, .inl nc)), (yr 22, .inl (cT 0, 496, .inl nl)), (yr 23, .inl (cT 0, 496, .inl nr)), (yr 5, .inl (cT 0, 288, .inl vv)), (yr 21, .inl (cT 3, 496, .inl tl)), (yr 26, .inl (cT 3, 496, .inl kd)), (yr 20, .inl (cT 0, 496, .inl ed)), (yr 29, .inl (cT 0, 302, .inl f1u1)), (yr 40, .inl (cT 0, 19, .inl f1u2))] := hD
  refine lv_iconst (v := 0) hx hb dM_walk_17 (by decide) ?_
  refine lv_istore hx hb dM_walk_18 hl (by decide) rfl (fun ls hl => ?_)
  have hl : lv_has ls 6 [(5, .int 0), (0, .ref y), (1, .int (nI r)), (2, .int (nI n)), (3, .int (-1)), (4, .int x0)] := hl
  refine lp_w (α := Nat × Int × (Nat → Int32) × (Nat → Int32) × (Nat → Int32) × (Nat → Int32)) (fun a9 => a9.1 ≤ n ∧ MN a9.2.2.1 a9.2.1 ∧ LOK a9.2.2.2.1 bb ∧ RED a9.2.1 a9.2.2.2.1 ∧ a9.2.1 * (Pp a9.1 : Int) = X a9.1 * (dn a9.2.2.2.1 : Int)) (fun a9 => n - a9.1) (fun a9 => [(0, .ref y), (1, .int (nI r)), (2, .int (nI n)), (3, .int (-1)), (5, .int (nI a9.1))]) (fun a9 => [(y, .inr (11, MO yr yi ysb ybs)), (yr 0, .inl (cT 0, 19, .inl fp)), (yr 30, .inl (cT 0, 302, .inl a9.2.2.2.2.1)), (yr 41, .inl (cT 0, 19, .inl a9.2.2.2.2.2)), (yr 27, .inl (cT 0, 65472, .inl up)), (yr 28, .inl (cT 0, 9424, .inl lw)), (yr 19, .inl (cT 0, 496, .inl nc)), (yr 22, .inl (cT 0, 496, .inl nl)), (yr 23, .inl (cT 0, 496, .inl nr)), (yr 5, .inl (cT 0, 288, .inl vv)), (yr 21, .inl (cT 3, 496, .inl tl)), (yr 26, .inl (cT 3, 496, .inl kd)), (yr 20, .inl (cT 0, 496, .inl ed)), (yr 29, .inl (cT 0, 302, .inl a9.2.2.1)), (yr 40, .inl (cT 0, 19, .inl a9.2.2.2.1))]) 20 ?_ (0, X 0, f1u1, f1u2, f2, g2) (show 0 ≤ n ∧ MN f1u1 (X 0) ∧ LOK f1u2 bb ∧ RED (X 0) f1u2 ∧ (X 0) * (Pp 0 : Int) = X 0 * (dn f1u2 : Int) from ⟨by omega, a1N, lok_0 hpu2, red_0 hpu2, by rw [hC.1, dn_0 hpu2]⟩) (lv_sub hl [1, 2, 3, 4, 0] rfl) hP hD hS
  intro a9 hI20 ih20 ls H locs hl hP hD hS
  obtain ⟨t, z, f1, g1, f2, g2⟩ := a9
  have hI20 : t ≤ n ∧ MN f1 z ∧ LOK g1 bb ∧ RED z g1 ∧ z * (Pp t : Int) = X t * (dn g1 : Int) := hI20
  obtain ⟨it, iN, iL, iR, iv⟩ := hI20
  have hl : lv_has ls 6 [(0, .ref y), (1, .int (nI r)), (2, .int (nI n)), (3, .int (-1)), (5, .int (nI t))] := hl
  have hP : va_P D vwCl [(y, .inr (11, MO yr yi ysb ybs)), (yr 0, .inl (cT 0, 19, .inl fp)), (yr 30, .inl (cT 0, 302, .inl f2)), (yr 41, .inl (cT 0, 19, .inl g2)), (yr 27, .inl (cT 0, 65472, .inl up)), (yr 28, .inl (cT 0, 9424, .inl lw)), (yr 19, .inl (cT 0, 496, .inl nc)), (yr 22, .inl (cT 0, 496, .inl nl)), (yr 23, .inl (cT 0, 496, .inl nr)), (yr 5, .inl (cT 0, 288, .inl vv)), (yr 21, .inl (cT 3, 496, .inl tl)), (yr 26, .inl (cT 3, 496, .inl kd)), (yr 20, .inl (cT 0, 496, .inl ed)), (yr 29, .inl (cT 0, 302, .inl f1)), (yr 40, .inl (cT 0, 19, .inl g1))] _ := hP
  have hD : va_D A [(y, .inr (11, MO yr yi ysb ybs)), (yr 0, .inl (cT 0, 19, .inl fp)), (yr 30, .inl (cT 0, 302, .inl f2)), (yr 41, .inl (cT 0, 19, .inl g2)), (yr 27, .inl (cT 0, 65472, .inl up)), (yr 28, .inl (cT 0, 9424, .inl lw)), (yr 19, .inl (cT 0, 496, .inl nc)), (yr 22, .inl (cT 0, 496, .inl nl)), (yr 23, .inl (cT 0, 496, .inl nr)), (yr 5, .inl (cT 0, 288, .inl vv)), (yr 21, .inl (cT 3, 496, .inl tl)), (yr 26, .inl (cT 3, 496, .inl kd)), (yr 20, .inl (cT 0, 496, .inl ed)), (yr 29, .inl (cT 0, 302, .inl f1)), (yr 40, .inl (cT 0, 19, .inl g1))] := hD
  refine lv_iload hx hb dM_walk_20 (lv_at hl 4 rfl) ?_
  refine lv_iload_n hx hb dM_walk_22 rfl (lv_at hl 2 rfl) ?_
  refine lv_icmp_ge (tgt := 64) hx hb dM_walk_23 rfl (fun h3 => ?_) (fun h3 => ?_)
  · have gh3 : n ≤ t := (nI_leI (a := n) (b := t) (by omega) (by omega)).mp h3
    have et : t = n := by omega
    subst et
    have hP9 := hP.sub (ws' := [(y, .inr (11, MO yr yi ysb ybs)), (yr 0, .inl (cT 0, 19, .inl fp)), (yr 29, .inl (cT 0, 302, .inl f1)), (yr 40, .inl (cT 0, 19, .inl g1)), (yr 30, .inl (cT 0, 302, .inl f2)), (yr 41, .inl (cT 0, 19, .inl g2)), (yr 27, .inl (cT 0, 65472, .inl up)), (yr 28, .inl (cT 0, 9424, .inl lw)), (yr 19, .inl (cT 0, 496, .inl nc)), (yr 22, .inl (cT 0, 496, .inl nl)), (yr 23, .inl (cT 0, 496, .inl nr)), (yr 5, .inl (cT 0, 288, .inl vv)), (yr 21, .inl (cT 3, 496, .inl tl)), (yr 26, .inl (cT 3, 496, .inl kd)), (yr 20, .inl (cT 0, 496, .inl ed))]) [0, 1, 13, 14, 2, 3, 4, 5, 6, 7, 8, 9, 10, 11, 12] rfl
    have hD9 := hD.sub (ws' := [(y, .inr (11, MO yr yi ysb ybs)), (yr 0, .inl (cT 0, 19, .inl fp)), (yr 29, .inl (cT 0, 302, .inl f1)), (yr 40, .inl (cT 0, 19, .inl g1)), (yr 30, .inl (cT 0, 302, .inl f2)), (yr 41, .inl (cT 0, 19, .inl g2)), (yr 27, .inl (cT 0, 65472, .inl up)), (yr 28, .inl (cT 0, 9424, .inl lw)), (yr 19, .inl (cT 0, 496, .inl nc)), (yr 22, .inl (cT 0, 496, .inl nl)), (yr 23, .inl (cT 0, 496, .inl nr)), (yr 5, .inl (cT 0, 288, .inl vv)), (yr 21, .inl (cT 3, 496, .inl tl)), (yr 26, .inl (cT 3, 496, .inl kd)), (yr 20, .inl (cT 0, 496, .inl ed))]) [0, 1, 13, 14, 2, 3, 4, 5, 6, 7, 8, 9, 10, 11, 12] (by decide) rfl
    refine W.widen (k := 0) (n := 0) (Nat.le_of_ble_eq_true rfl) (Nat.le_of_ble_eq_true rfl) ?_
    exact W.vret hx hb hr (fun t9 ht9 hW9 => ⟨⟨(z, f1, g1, f2, g2), rfl, (show MN f1 z ∧ LOK g1 bb ∧ RED z g1 ∧ z * (Pp t : Int) = X t * (dn g1 : Int) from ⟨iN, iL, iR, iv⟩), by rw [ht9]; exact hP9, hD9⟩, hS.F ht9⟩) hS.2.2 dM_walk_64
  · have gh3 : t < n := Nat.not_le.mp (fun q => h3 ((nI_leI (a := n) (b := t) (by omega) (by omega)).mpr q))
    have hCt := hC.2.1 t (by omega)
    have hCa := hC.2.2 t (by omega)
    have hCb := hC.2.2 (t + 1) (by omega)
    obtain ⟨lz, dM, dL, dR, dv⟩ := hNF t (by omega)
    have hlt : lf t < 31 := hlfb t (by omega)
    refine lv_aload_n hx hb dM_walk_26 rfl (lv_at hl 0 rfl) ?_
    refine lv_aload_n hx hb dM_walk_27 rfl (lv_at hl 0 rfl) ?_
    refine lv_iload hx hb dM_walk_28 (lv_at hl 4 rfl) ?_
    refine lv_iload_n hx hb dM_walk_30 rfl (lv_at hl 1 rfl) ?_
    refine ro_i (va_Run.run (va_runV (As := [.int (nI t), .int (nI r)]) (rest := [.ref y]) ⟨hx, hb, hml, hown, hT⟩ (m_leafR l D cT y yr yi ysb ybs nc nl nr tl kd ed vv t r (nm t) (dp t) (go t) (lf t) (by omega) hr48 (hT9 t (by omega)) htl (hgo t (by omega)) (hlf t (by omega))) ⟨callB_of 2 hT (tb_gd w1392) rfl rfl rfl (hT _ w13) (hT _ w1389) hM_leafOf ⟨Nat.le_of_ble_eq_true rfl, Nat.le_of_ble_eq_true rfl⟩, (hT _ w1391), (hT _ wp37)⟩ (RO.preV (ci := 11) (q0 := 0) hZ hS (hP.sub (ws' := [(y, .inr (11, MO yr yi ysb ybs)), (yr 19, .inl (cT 0, 496, .inl nc)), (yr 22, .inl (cT 0, 496, .inl nl)), (yr 23, .inl (cT 0, 496, .inl nr)), (yr 5, .inl (cT 0, 288, .inl vv)), (yr 21, .inl (cT 3, 496, .inl tl)), (yr 26, .inl (cT 3, 496, .inl kd)), (yr 20, .inl (cT 0, 496, .inl ed))]) [0, 6, 7, 8, 9, 10, 11, 12] rfl) hK rfl rfl) rfl rfl hl.1 rfl (lv_room (Nat.le_of_ble_eq_true rfl)) dM_walk_31 ⟨Nat.le_of_ble_eq_true rfl, Nat.le_of_ble_eq_true rfl⟩)) ?_
    refine rw_v (wc := [(y, .inr (11, MO yr yi ysb ybs)), (yr 27, .inl (cT 0, 65472, .inl up)), (yr 28, .inl (cT 0, 9424, .inl lw)), (yr 30, .inl (cT 0, 302, .inl f2)), (yr 41, .inl (cT 0, 19, .inl g2))]) (wr := [(yr 0, .inl (cT 0, 19, .inl fp)), (yr 19, .inl (cT 0, 496, .inl nc)), (yr 22, .inl (cT 0, 496, .inl nl)), (yr 23, .inl (cT 0, 496, .inl nr)), (yr 5, .inl (cT 0, 288, .inl vv)), (yr 21, .inl (cT 3, 496, .inl tl)), (yr 26, .inl (cT 3, 496, .inl kd)), (yr 20, .inl (cT 0, 496, .inl ed)), (yr 29, .inl (cT 0, 302, .inl f1)), (yr 40, .inl (cT 0, 19, .inl g1))]) hP hD hS hA [0, 4, 5, 2, 3] [1, 6, 7, 8, 9, 10, 11, 12, 13, 14] rfl rfl (by decide) (by decide) (va_runV (As := [.int (nI (31 * t + (lf t)))]) (rest := []) ⟨hx, hb, hml, hown, hT⟩ (m_take l D cT y yr yi ysb ybs up lw (31 * t + lf t) lz f2 g2 dM (by omega) _) ⟨callB_of 1 hT (tb_gd w1400) rfl rfl rfl (hT _ w13) (hT _ w1397) hM_take ⟨Nat.le_of_ble_eq_true rfl, Nat.le_of_ble_eq_true rfl⟩, (hT _ w1399), (hT _ wp39)⟩ (RW.preV (ci := 11) (q0 := 0) hZ hS (va_free (wc := [(y, .inr (11, MO yr yi ysb ybs)), (yr 27, .inl (cT 0, 65472, .inl up)), (yr 28, .inl (cT 0, 9424, .inl lw)), (yr 30, .inl (cT 0, 302, .inl f2)), (yr 41, .inl (cT 0, 19, .inl g2))]) hD hS hA [0, 4, 5, 2, 3] rfl) (hP.sub (ws' := [(y, .inr (11, MO yr yi ysb ybs)), (yr 27, .inl (cT 0, 65472, .inl up)), (yr 28, .inl (cT 0, 9424, .inl lw)), (yr 30, .inl (cT 0, 302, .inl f2)), (yr 41, .inl (cT 0, 19, .inl g2))]) [0, 4, 5, 2, 3] rfl) hK (hD.sub (ws' := [(y, .inr (11, MO yr yi ysb ybs)), (yr 27, .inl (cT 0, 65472, .inl up)), (yr 28, .inl (cT 0, 9424, .inl lw)), (yr 30, .inl (cT 0, 302, .inl f2)), (yr 41, .inl (cT 0, 19, .inl g2))]) [0, 4, 5, 2, 3] (by decide) rfl) rfl rfl) rfl rfl hl.1 rfl (lv_room (Nat.le_of_ble_eq_true rfl)) dM_walk_34 ⟨Nat.le_of_ble_eq_true rfl, Nat.le_of_ble_eq_true rfl⟩) (fun u9 H locs hpu4 hP hD hS => ?_)
    obtain ⟨f1u4, g1u4⟩ := u9
    have hpu4 : MN f1u4 lz ∧ ∀ q8, q8 < 19 → g1u4 q8 = lw (19 * (31 * t + lf t) + q8) := hpu4
    have hP : va_P D vwCl [(yr 0, .inl (cT 0, 19, .inl fp)), (yr 19, .inl (cT 0, 496, .inl nc)), (yr 22, .inl (cT 0, 496, .inl nl)), (yr 23, .inl (cT 0, 496, .inl nr)), (yr 5, .inl (cT 0, 288, .inl vv)), (yr 21, .inl (cT 3, 496, .inl tl)), (yr 26, .inl (cT 3, 496, .inl kd)), (yr 20, .inl (cT 0, 496, .inl ed)), (yr 29, .inl (cT 0, 302, .inl f1)), (yr 40, .inl (cT 0, 19, .inl g1)), (y, .inr (11, MO yr yi ysb ybs)), (yr 27, .inl (cT 0, 65472, .inl up)), (yr 28, .inl (cT 0, 9424, .inl lw)), (yr 30, .inl (cT 0, 302, .inl f1u4)), (yr 41, .inl (cT 0, 19, .inl g1u4))] _ := hP
    have hD : va_D A [(yr 0, .inl (cT 0, 19, .inl fp)), (yr 19, .inl (cT 0, 496, .inl nc)), (yr 22, .inl (cT 0, 496, .inl nl)), (yr 23, .inl (cT 0, 496, .inl nr)), (yr 5, .inl (cT 0, 288, .inl vv)), (yr 21, .inl (cT 3, 496, .inl tl)), (yr 26, .inl (cT 3, 496, .inl kd)), (yr 20, .inl (cT 0, 496, .inl ed)), (yr 29, .inl (cT 0, 302, .inl f1)), (yr 40, .inl (cT 0, 19, .inl g1)), (y, .inr (11, MO yr yi ysb ybs)), (yr 27, .inl (cT 0, 65472, .inl up)), (yr 28, .inl (cT 0, 9424, .inl lw)), (yr 30, .inl (cT 0, 302, .inl f1u4)), (yr 41, .inl (cT 0, 19, .inl g1u4))] := hD
    obtain ⟨eN, eG⟩ := hpu4
    have eL : LOK g1u4 bb := lok_cg dL eG
    have eR : RED lz g1u4 := red_cg dR eG
    have eD : dn g1u4 = dn (sh (19 * (31 * t + lf t)) lw) := dn_cg eG
    rw [← eD, hCt.1] at dv
    have b1 := red_le hCa.1 iR iv
    have b2 := red_le (by rw [← hCt.1]; exact hCb.1) eR dv
    have b3 : Pp t * sc t ≤ PB := by rw [← hCt.1]; exact hCb.2.1
    refine lv_aload_n hx hb dM_walk_37 rfl (lv_at hl 0 rfl) ?_
    refine lv_aload_n hx hb dM_walk_38 rfl (lv_at hl 0 rfl) ?_
    refine va_get (D := D) (ci := 11) (v := .ref (yr 29)) (C := R_M) (T := T_M) (N := 60) hx hb hT in_M hown hK hP 10 rfl rfl 29 (by decide) (hT _ w1133) (fun _ h9 => h9) rfl dM_walk_39 ?_
    refine lv_aload_n hx hb dM_walk_42 rfl (lv_at hl 0 rfl) ?_
    refine va_get (D := D) (ci := 11) (v := .ref (yr 40)) (C := R_M) (T := T_M) (N := 60) hx hb hT in_M hown hK hP 10 rfl rfl 40 (by decide) (hT _ w1144) (fun _ h9 => h9) rfl dM_walk_43 ?_
    refine lv_aload_n hx hb dM_walk_46 rfl (lv_at hl 0 rfl) ?_
    refine va_get (D := D) (ci := 11) (v := .ref (yr 30)) (C := R_M) (T := T_M) (N := 60) hx hb hT in_M hown hK hP 10 rfl rfl 30 (by decide) (hT _ w1134) (fun _ h9 => h9) rfl dM_walk_47 ?_
    refine lv_aload_n hx hb dM_walk_50 rfl (lv_at hl 0 rfl) ?_
    refine va_get (D := D) (ci := 11) (v := .ref (yr 41)) (C := R_M) (T := T_M) (N := 60) hx hb hT in_M hown hK hP 10 rfl rfl 41 (by decide) (hT _ w1145) (fun _ h9 => h9) rfl dM_walk_51 ?_
    refine lv_iload_n hx hb dM_walk_54 rfl (lv_at hl 3 rfl) ?_
    refine rw_v (wc := [(y, .inr (11, MO yr yi ysb ybs)), (yr 0, .inl (cT 0, 19, .inl fp)), (yr 29, .inl (cT 0, 302, .inl f1)), (yr 40, .inl (cT 0, 19, .inl g1)), (yr 30, .inl (cT 0, 302, .inl f1u4)), (yr 41, .inl (cT 0, 19, .inl g1u4))]) (wr := [(yr 19, .inl (cT 0, 496, .inl nc)), (yr 22, .inl (cT 0, 496, .inl nl)), (yr 23, .inl (cT 0, 496, .inl nr)), (yr 5, .inl (cT 0, 288, .inl vv)), (yr 21, .inl (cT 3, 496, .inl tl)), (yr 26, .inl (cT 3, 496, .inl kd)), (yr 20, .inl (cT 0, 496, .inl ed)), (yr 27, .inl (cT 0, 65472, .inl up)), (yr 28, .inl (cT 0, 9424, .inl lw))]) hP hD hS hA [10, 0, 8, 9, 13, 14] [1, 2, 3, 4, 5, 6, 7, 11, 12] rfl rfl (by decide) (by decide) (va_runV (As := [.ref (yr 29), .ref (yr 40), .ref (yr 30), .ref (yr 41), .int (-1)]) (rest := []) ⟨hx, hb, hml, hown, hT⟩ (m_addF1 l D cT y yr yi ysb ybs fp (yr 29) f1 z (yr 40) g1 (yr 30) f1u4 lz (yr 41) g1u4 bb hPR iN iL eN eL hbb (fit_w (Nat.le_trans b1.1 hCa.2.2) (Nat.le_trans b2.1 hCt.2.2) (Nat.le_trans b1.2 hCa.2.1) (Nat.le_trans b2.2 b3) hBB) _) ⟨callB_of 5 hT (tb_gd w1410) rfl rfl rfl (hT _ w13) (hT _ w1407) hM_addFractions ⟨Nat.le_of_ble_eq_true rfl, Nat.le_of_ble_eq_true rfl⟩, (hT _ w1409), (hT _ wp40)⟩ (RW.preV (ci := 11) (q0 := 0) hZ hS (va_free (wc := [(y, .inr (11, MO yr yi ysb ybs)), (yr 0, .inl (cT 0, 19, .inl fp)), (yr 29, .inl (cT 0, 302, .inl f1)), (yr 40, .inl (cT 0, 19, .inl g1)), (yr 30, .inl (cT 0, 302, .inl f1u4)), (yr 41, .inl (cT 0, 19, .inl g1u4))]) hD hS hA [10, 0, 8, 9, 13, 14] rfl) (hP.sub (ws' := [(y, .inr (11, MO yr yi ysb ybs)), (yr 0, .inl (cT 0, 19, .inl fp)), (yr 29, .inl (cT 0, 302, .inl f1)), (yr 40, .inl (cT 0, 19, .inl g1)), (yr 30, .inl (cT 0, 302, .inl f1u4)), (yr 41, .inl (cT 0, 19, .inl g1u4))]) [10, 0, 8, 9, 13, 14] rfl) hK (hD.sub (ws' := [(y, .inr (11, MO yr yi ysb ybs)), (yr 0, .inl (cT 0, 19, .inl fp)), (yr 29, .inl (cT 0, 302, .inl f1)), (yr 40, .inl (cT 0, 19, .inl g1)), (yr 30, .inl (cT 0, 302, .inl f1u4)), (yr 41, .inl (cT 0, 19, .inl g1u4))]) [10, 0, 8, 9, 13, 14] (by decide) rfl) rfl rfl) rfl rfl hl.1 rfl (lv_room (Nat.le_of_ble_eq_true rfl)) dM_walk_55 ⟨Nat.le_of_ble_eq_true rfl, Nat.le_of_ble_eq_true rfl⟩) (fun u9 H locs hpu5 hP hD hS => ?_)
    obtain ⟨z9u5, f9u5, g9u5, fb9u5, gb9u5⟩ := u9
    have hpu5 : MN f9u5 z9u5 ∧ LOK g9u5 bb ∧ RED z9u5 g9u5 ∧ z9u5 * ((dn g1 * dn g1u4 : Nat) : Int) = (z * (dn g1u4 : Int) - lz * (dn g1 : Int)) * (dn g9u5 : Int) := hpu5
    have hP : va_P D vwCl [(yr 19, .inl (cT 0, 496, .inl nc)), (yr 22, .inl (cT 0, 496, .inl nl)), (yr 23, .inl (cT 0, 496, .inl nr)), (yr 5, .inl (cT 0, 288, .inl vv)), (yr 21, .inl (cT 3, 496, .inl tl)), (yr 26, .inl (cT 3, 496, .inl kd)), (yr 20, .inl (cT 0, 496, .inl ed)), (yr 27, .inl (cT 0, 65472, .inl up)), (yr 28, .inl (cT 0, 9424, .inl lw)), (y, .inr (11, MO yr yi ysb ybs)), (yr 0, .inl (cT 0, 19, .inl fp)), (yr 29, .inl (cT 0, 302, .inl f9u5)), (yr 40, .inl (cT 0, 19, .inl g9u5)), (yr 30, .inl (cT 0, 302, .inl fb9u5)), (yr 41, .inl (cT 0, 19, .inl gb9u5))] _ := hP
    have hD : va_D A [(yr 19, .inl (cT 0, 496, .inl nc)), (yr 22, .inl (cT 0, 496, .inl nl)), (yr 23, .inl (cT 0, 496, .inl nr)), (yr 5, .inl (cT 0, 288, .inl vv)), (yr 21, .inl (cT 3, 496, .inl tl)), (yr 26, .inl (cT 3, 496, .inl kd)), (yr 20, .inl (cT 0, 496, .inl ed)), (yr 27, .inl (cT 0, 65472, .inl up)), (yr 28, .inl (cT 0, 9424, .inl lw)), (y, .inr (11, MO yr yi ysb ybs)), (yr 0, .inl (cT 0, 19, .inl fp)), (yr 29, .inl (cT 0, 302, .inl f9u5)), (yr 40, .inl (cT 0, 19, .inl g9u5)), (yr 30, .inl (cT 0, 302, .inl fb9u5)), (yr 41, .inl (cT 0, 19, .inl gb9u5))] := hD
    obtain ⟨cN, cL, cR, cv⟩ := hpu5
    refine lv_iinc (k := 4) (v := nI (t + 1)) hx hb dM_walk_58 hl rfl (nI_1 t) (by decide) rfl (fun ls hl => ?_)
    have hl : lv_has ls 6 [(5, .int (nI (t + 1))), (0, .ref y), (1, .int (nI r)), (2, .int (nI n)), (3, .int (-1))] := hl
    refine lv_goto (tgt := 20) hx hb dM_walk_61 rfl ?_
    exact ih20 (t + 1, z9u5, f9u5, g9u5, fb9u5, gb9u5) (show (t + 1) ≤ n ∧ MN f9u5 z9u5 ∧ LOK g9u5 bb ∧ RED z9u5 g9u5 ∧ z9u5 * (Pp (t + 1) : Int) = X (t + 1) * (dn g9u5 : Int) from ⟨by omega, cN, cL, cR, by rw [hCt.1, hCt.2.1]; rw [if_pos rfl]; exact wk_s dn_pos dn_pos iv dv cv⟩) (show n - (t + 1) < n - t from (by omega)) ls H locs (lv_sub hl [1, 2, 3, 4, 0] rfl) (hP.sub (ws' := [(y, .inr (11, MO yr yi ysb ybs)), (yr 0, .inl (cT 0, 19, .inl fp)), (yr 30, .inl (cT 0, 302, .inl fb9u5)), (yr 41, .inl (cT 0, 19, .inl gb9u5)), (yr 27, .inl (cT 0, 65472, .inl up)), (yr 28, .inl (cT 0, 9424, .inl lw)), (yr 19, .inl (cT 0, 496, .inl nc)), (yr 22, .inl (cT 0, 496, .inl nl)), (yr 23, .inl (cT 0, 496, .inl nr)), (yr 5, .inl (cT 0, 288, .inl vv)), (yr 21, .inl (cT 3, 496, .inl tl)), (yr 26, .inl (cT 3, 496, .inl kd)), (yr 20, .inl (cT 0, 496, .inl ed)), (yr 29, .inl (cT 0, 302, .inl f9u5)), (yr 40, .inl (cT 0, 19, .inl g9u5))]) [9, 10, 13, 14, 7, 8, 0, 1, 2, 3, 4, 5, 6, 11, 12] rfl) (hD.sub (ws' := [(y, .inr (11, MO yr yi ysb ybs)), (yr 0, .inl (cT 0, 19, .inl fp)), (yr 30, .inl (cT 0, 302, .inl fb9u5)), (yr 41, .inl (cT 0, 19, .inl gb9u5)), (yr 27, .inl (cT 0, 65472, .inl up)), (yr 28, .inl (cT 0, 9424, .inl lw)), (yr 19, .inl (cT 0, 496, .inl nc)), (yr 22, .inl (cT 0, 496, .inl nl)), (yr 23, .inl (cT 0, 496, .inl nr)), (yr 5, .inl (cT 0, 288, .inl vv)), (yr 21, .inl (cT 3, 496, .inl tl)), (yr 26, .inl (cT 3, 496, .inl kd)), (yr 20, .inl (cT 0, 496, .inl ed)), (yr 29, .inl (cT 0, 302, .inl f9u5)), (yr 40, .inl (cT 0, 19, .inl g9u5))]) [9, 10, 13, 14, 7, 8, 0, 1, 2, 3, 4, 5, 6, 11, 12] (by decide) rfl) hS
set_option maxHeartbeats 4000000 in
set_option maxRecDepth 100000 in
theorem m_walkQ (l : Launch) (D : va_G) (cT : Nat → ClassId) (y : Nat) (yr : Nat → Nat) (yi : Nat → Int32) (ysb : Int64) (ybs : Int64) (fp : Nat → Int32) (nc : Nat → Int32) (nl : Nat → Int32) (nr : Nat → Int32) (tl : Nat → Int32) (kd : Nat → Int32) (ed : Nat → Int32) (vv : Nat → Int32) (up : Nat → Int32) (lw : Nat → Int32) (f0 : Nat → Int32) (g0 : Nat → Int32) (f2 : Nat → Int32) (g2 : Nat → Int32) (x0 : Int32) (n : Nat) (r : Nat) (bb : Nat) (nm : Nat → Nat) (dp : Nat → Nat → Nat) (go : Nat → Nat → Bool) (lf : Nat → Nat) (Pp : Nat → Nat) (sc : Nat → Nat) (X : Nat → Int) (LX : Nat → Int) (PB : Nat) (XB : Nat) (hPR : PRI fp) (hn16 : n ≤ 16) (hr48 : r < 48) (hbb : bb < 2 ^ 30) (hx0 : X 0 = x0.toInt) (hx1 : -1000000000 ≤ x0.toInt ∧ x0.toInt ≤ 1000000000) (hC : CHN Pp sc X LX false n PB XB) (hBB : XB * PB + XB * (PB * PB) < 268435456 ^ 130) (hT9 : ∀ t, t < n → TWF nc nl nr (dp t) (31 * t) (nm t)) (htl : ∀ q, q < 496 → tl q = 0 ∨ tl q = 1) (hgo : ∀ t, t < n → ∀ k, k < nm t → ∀ c, c < 6 → nc (31 * t + k) = nI c → go t k = goB (tl (31 * t + k)) (kd (31 * t + k)) (ed (31 * t + k)) (vv c)) (hlf : ∀ t, t < n → lf t = lfw nc nl nr (go t) (31 * t) 4 0) (hlfb : ∀ t, t < n → lf t < 31) (hNF : ∀ t, t < n → NF up lw bb (31 * t + lf t) (LX t) (Pp (t + 1))) (sz : Nat) : Met l yM_walk WM_walk ({ frames := 4, cells := 0, slots := 0, locals := 99 } : Room) (RW D vwCl [.ref y, .int (-1), .int (nI n), .int 1, .int x0] [(y, .inr (11, MO yr yi ysb ybs)), (yr 0, .inl (cT 0, 19, .inl fp)), (yr 29, .inl (cT 0, 302, .inl f0)), (yr 40, .inl (cT 0, 19, .inl g0)), (yr 30, .inl (cT 0, 302, .inl f2)), (yr 41, .inl (cT 0, 19, .inl g2)), (yr 27, .inl (cT 0, 65472, .inl up)), (yr 28, .inl (cT 0, 9424, .inl lw)), (yr 19, .inl (cT 0, 496, .inl nc)), (yr 22, .inl (cT 0, 496, .inl nl)), (yr 23, .inl (cT 0, 496, .inl nr)), (yr 9, .inl (cT 0, 6, .inl vv)), (yr 21, .inl (cT 3, 496, .inl tl)), (yr 26, .inl (cT 3, 496, .inl kd)), (yr 20, .inl (cT 0, 496, .inl ed))] (TY cT) sz) (va_Qv (fun u9 : Int × (Nat → Int32) × (Nat → Int32) × (Nat → Int32) × (Nat → Int32) => MN u9.2.1 u9.1 ∧ LOK u9.2.2.1 bb ∧ RED u9.1 u9.2.2.1 ∧ u9.1 * (Pp n : Int) = X n * (dn u9.2.2.1 : Int)) (BW D vwCl (va_A [(y, .inr (11, MO yr yi ysb ybs)), (yr 0, .inl (cT 0, 19, .inl fp)), (yr 29, .inl (cT 0, 302, .inl f0)), (yr 40, .inl (cT 0, 19, .inl g0)), (yr 30, .inl (cT 0, 302, .inl f2)), (yr 41, .inl (cT 0, 19, .inl g2)), (yr 27, .inl (cT 0, 65472, .inl up)), (yr 28, .inl (cT 0, 9424, .inl lw)), (yr 19, .inl (cT 0, 496, .inl nc)), (yr 22, .inl (cT 0, 496, .inl nl)), (yr 23, .inl (cT 0, 496, .inl nr)), (yr 9, .inl (cT 0, 6, .inl vv)), (yr 21, .inl (cT 3, 496, .inl tl)), (yr 26, .inl (cT 3, 496, .inl kd)), (yr 20, .inl (cT 0, 496, .inl ed))] sz) (fun u9 : Int × (Nat → Int32) × (Nat → Int32) × (Nat → Int32) × (Nat → Int32) => [(y, .inr (11, MO yr yi ysb ybs)), (yr 0, .inl (cT 0, 19, .inl fp)), (yr 29, .inl (cT 0, 302, .inl u9.2.1)), (yr 40, .inl (cT 0, 19, .inl u9.2.2.1)), (yr 30, .inl (cT 0, 302, .inl u9.2.2.2.1)), (yr 41, .inl (cT 0, 19, .inl u9.2.2.2.2)), (yr 27, .inl (cT 0, 65472, .inl up)), (yr 28, .inl (cT 0, 9424, .inl lw)), (yr 19, .inl (cT 0, 496, .inl nc)), (yr 22, .inl (cT 0, 496, .inl nl)), (yr 23, .inl (cT 0, 496, .inl nr)), (yr 9, .inl (cT 0, 6, .inl vv)), (yr 21, .inl (cT 3, 496, .inl tl)), (yr 26, .inl (cT 3, 496, .inl kd)), (yr 20, .inl (cT 0, 496, .inl ed))])) (va_A [(y, .inr (11, MO yr yi ysb ybs)), (yr 0, .inl (cT 0, 19, .inl fp)), (yr 29, .inl (cT 0, 302, .inl f0)), (yr 40, .inl (cT 0, 19, .inl g0)), (yr 30, .inl (cT 0, 302, .inl f2)), (yr 41, .inl (cT 0, 19, .inl g2)), (yr 27, .inl (cT 0, 65472, .inl up)), (yr 28, .inl (cT 0, 9424, .inl lw)), (yr 19, .inl (cT 0, 496, .inl nc)), (yr 22, .inl (cT 0, 496, .inl nl)), (yr 23, .inl (cT 0, 496, .inl nr)), (yr 9, .inl (cT 0, 6, .inl vv)), (yr 21, .inl (cT 3, 496, .inl tl)), (yr 26, .inl (cT 3, 496, .inl kd)), (yr 20, .inl (cT 0, 496, .inl ed))] sz)) 0 0 (va_A [(y, .inr (11, MO yr yi ysb ybs)), (yr 0, .inl (cT 0, 19, .inl fp)), (yr 29, .inl (cT 0, 302, .inl f0)), (yr 40, .inl (cT 0, 19, .inl g0)), (yr 30, .inl (cT 0, 302, .inl f2)), (yr 41, .inl (cT 0, 19, .inl g2)), (yr 27, .inl (cT 0, 65472, .inl up)), (yr 28, .inl (cT 0, 9424, .inl lw)), (yr 19, .inl (cT 0, 496, .inl nc)), (yr 22, .inl (cT 0, 496, .inl nl)), (yr 23, .inl (cT 0, 496, .inl nr)), (yr 9, .inl (cT 0, 6, .inl vv)), (yr 21, .inl (cT 3, 496, .inl tl)), (yr 26, .inl (cT 3, 496, .inl kd)), (yr 20, .inl (cT 0, 496, .inl ed))] sz) := by
  refine Met.ofW (cc := cM_walk) (maxL := 6) (ret := none) (by decide) rfl ?_
  intro p e s m args below meth c s₁ B hml hv
  obtain ⟨rfl, hsz, hZ, hP, hK, hD0⟩ := hv
  have hx := B.exec
  have hb := B.bytes
  have hr := B.returns
  have hts := atoms_spec (ws := WM_walk) B.pre
  have hT : ∀ w ∈ TB, w.before _ s = true := fun w h => hts w (List.mem_cons_of_mem _ h)
  have hown : s.vm.findClass R_M = some m.cls := findClass_of_methodNamed B.named
  have hlocks := B.notSynchronized
  subst hsz
  have hD := hD0.self (sz := s.heap.size)
  generalize hAe : va_A [(y, .inr (11, MO yr yi ysb ybs)), (yr 0, .inl (cT 0, 19, .inl fp)), (yr 29, .inl (cT 0, 302, .inl f0)), (yr 40, .inl (cT 0, 19, .inl g0)), (yr 30, .inl (cT 0, 302, .inl f2)), (yr 41, .inl (cT 0, 19, .inl g2)), (yr 27, .inl (cT 0, 65472, .inl up)), (yr 28, .inl (cT 0, 9424, .inl lw)), (yr 19, .inl (cT 0, 496, .inl nc)), (yr 22, .inl (cT 0, 496, .inl nl)), (yr 23, .inl (cT 0, 496, .inl nr)), (yr 9, .inl (cT 0, 6, .inl vv)), (yr 21, .inl (cT 3, 496, .inl tl)), (yr 26, .inl (cT 3, 496, .inl kd)), (yr 20, .inl (cT 0, 496, .inl ed))] s.heap.size = A at hD hZ ⊢
  have hA : ∀ q : Nat, s.heap.size ≤ q → A q := fun q h => by rw [← hAe]; exact Or.inr h
  have hS : va_S A s.heap s.heap [] := va_S.rf
  have hl := lv_entry ([.ref y, .int (-1), .int (nI n), .int 1, .int x0]) (n := 6) (Nat.le_of_ble_eq_true rfl)
  rw [lg_entry_eq]
  generalize (lg_sl ([.ref y, .int (-1), .int (nI n), .int 1, .int x0]) ++ List.replicate (6 - (lg_sl ([.ref y, .int (-1), .int (nI n), .int 1, .int x0])).length) Slot.unset).toArray = ls at hl ⊢
  have hl : lv_has ls 6 [(0, .ref y), (1, .int (-1)), (2, .int (nI n)), (3, .int 1), (4, .int x0)] := hl
  refine lv_aload_n hx hb dM_walk_0 rfl (lv_at hl 0 rfl) ?_
  refine va_get (D := D) (ci := 11) (v := .ref (yr 29)) (C := R_M) (T := T_M) (N := 60) hx hb hT in_M hown hK hP 0 rfl rfl 29 (by decide) (hT _ w1133) (fun _ h9 => h9) rfl dM_walk_1 ?_
  refine lv_iload hx hb dM_walk_4 (lv_at hl 4 rfl) ?_
  refine lv_i2l hx hb dM_walk_6 rfl ?_
  refine lv_topl (fun y9 e9 => ?_)
  cases (show y9 = x0.toInt64 from e9.trans rfl)
  refine rw_v (wc := [(yr 29, .inl (cT 0, 302, .inl f0))]) (wr := [(y, .inr (11, MO yr yi ysb ybs)), (yr 0, .inl (cT 0, 19, .inl fp)), (yr 40, .inl (cT 0, 19, .inl g0)), (yr 30, .inl (cT 0, 302, .inl f2)), (yr 41, .inl (cT 0, 19, .inl g2)), (yr 27, .inl (cT 0, 65472, .inl up)), (yr 28, .inl (cT 0, 9424, .inl lw)), (yr 19, .inl (cT 0, 496, .inl nc)), (yr 22, .inl (cT 0, 496, .inl nl)), (yr 23, .inl (cT 0, 496, .inl nr)), (yr 9, .inl (cT 0, 6, .inl vv)), (yr 21, .inl (cT 3, 496, .inl tl)), (yr 26, .inl (cT 3, 496, .inl kd)), (yr 20, .inl (cT 0, 496, .inl ed))]) hP hD hS hA [2] [0, 1, 3, 4, 5, 6, 7, 8, 9, 10, 11, 12, 13, 14] rfl rfl (by decide) (by decide) (va_runS (As := [.ref (yr 29), .long x0.toInt64]) (rest := []) ⟨hx, hb, hml, hown, hT⟩ (m_setInt l D cT (yr 29) f0 x0.toInt64 (by rw [Int32.toInt_toInt64]; omega) _) ⟨callB_of 2 hT (tb_gd w1387) rfl rfl rfl (hT _ w13) (hT _ w1385) hM_setInt ⟨Nat.le_of_ble_eq_true rfl, Nat.le_of_ble_eq_true rfl⟩, (hT _ w1386)⟩ (RW.preS hZ hS (va_free (wc := [(yr 29, .inl (cT 0, 302, .inl f0))]) hD hS hA [2] rfl) (hP.sub (ws' := [(yr 29, .inl (cT 0, 302, .inl f0))]) [2] rfl) hK (hD.sub (ws' := [(yr 29, .inl (cT 0, 302, .inl f0))]) [2] (by decide) rfl)) rfl rfl hl.1 rfl (lv_room (Nat.le_of_ble_eq_true rfl)) dM_walk_7 ⟨Nat.le_of_ble_eq_true rfl, Nat.le_of_ble_eq_true rfl⟩) (fun u9 H locs hpu1 hP hD hS => ?_)
  obtain ⟨f1u1, rfl⟩ : ∃ q9, q9 = u9 := ⟨_, rfl⟩
  have hpu1 : MN f1u1 (x0.toInt64 : Int64).toInt := hpu1
  have hP : va_P D vwCl [(y, .inr (11, MO yr yi ysb ybs)), (yr 0, .inl (cT 0, 19, .inl fp)), (yr 40, .inl (cT 0, 19, .inl g0)), (yr 30, .inl (cT 0, 302, .inl f2)), (yr 41, .inl (cT 0, 19, .inl g2)), (yr 27, .inl (cT 0, 65472, .inl up)), (yr 28, .inl (cT 0, 9424, .inl lw)), (yr 19, .inl (cT 0, 496, .inl nc)), (yr 22, .inl (cT 0, 496, .inl nl)), (yr 23, .inl (cT 0, 496, .inl nr)), (yr 9, .inl (cT 0, 6, .inl vv)), (yr 21, .inl (cT 3, 496, .inl tl)), (yr 26, .inl (cT 3, 496, .inl kd)), (yr 20, .inl (cT 0, 496, .inl ed)), (yr 29, .inl (cT 0, 302, .inl f1u1))] _ := hP
  have hD : va_D A [(y, .inr (11, MO yr yi ysb ybs)), (yr 0, .inl (cT 0, 19, .inl fp)), (yr 40, .inl (cT 0, 19, .inl g0)), (yr 30, .inl (cT 0, 302, .inl f2)), (yr 41, .inl (cT 0, 19, .inl g2)), (yr 27, .inl (cT 0, 65472, .inl up)), (yr 28, .inl (cT 0, 9424, .inl lw)), (yr 19, .inl (cT 0, 496, .inl nc)), (yr 22, .inl (cT 0, 496, .inl nl)), (yr 23, .inl (cT 0, 496, .inl nr)), (yr 9, .inl (cT 0, 6, .inl vv)), (yr 21, .inl (cT 3, 496, .inl tl)), (yr 26, .inl (cT 3, 496, .inl kd)), (yr 20, .inl (cT 0, 496, .inl ed)), (yr 29, .inl (cT 0, 302, .inl f1u1))] := hD
  have a1N : MN f1u1 (X 0) := by have q0 := hpu1; rw [Int32.toInt_toInt64, ← hx0] at q0; exact q0
  refine lv_aload_n hx hb dM_walk_10 rfl (lv_at hl 0 rfl) ?_
  refine va_get (D := D) (ci := 11) (v := .ref (yr 40)) (C := R_M) (T := T_M) (N := 60) hx hb hT in_M hown hK hP 0 rfl rfl 40 (by decide) (hT _ w1144) (fun _ h9 => h9) rfl dM_walk_11 ?_
  refine rw_v (wc := [(yr 40, .inl (cT 0, 19, .inl g0))]) (wr := [(y, .inr (11, MO yr yi ysb ybs)), (yr 0, .inl (cT 0, 19, .inl fp)), (yr 30, .inl (cT 0, 302, .inl f2)), (yr 41, .inl (cT 0, 19, .inl g2)), (yr 27, .inl (cT 0, 65472, .inl up)), (yr 28, .inl (cT 0, 9424, .inl lw)), (yr 19, .inl (cT 0, 496, .inl nc)), (yr 22, .inl (cT 0, 496, .inl nl)), (yr 23, .inl (cT 0, 496, .inl nr)), (yr 9, .inl (cT 0, 6, .inl vv)), (yr 21, .inl (cT 3, 496, .inl tl)), (yr 26, .inl (cT 3, 496, .inl kd)), (yr 20, .inl (cT 0, 496, .inl ed)), (yr 29, .inl (cT 0, 302, .inl f1u1))]) hP hD hS hA [2] [0, 1, 3, 4, 5, 6, 7, 8, 9, 10, 11, 12, 13, 14] rfl rfl (by decide) (by decide) (va_runS (As := [.ref (yr 40)]) (rest := []) ⟨hx, hb, hml, hown, hT⟩ (m_zero l D cT (yr 40) g0 _) ⟨callB_of 1 hT (tb_gd w1380) rfl rfl rfl (hT _ w13) (hT _ w1378) hM_zero ⟨Nat.le_of_ble_eq_true rfl, Nat.le_of_ble_eq_true rfl⟩, (hT _ w1379)⟩ (RW.preS hZ hS (va_free (wc := [(yr 40, .inl (cT 0, 19, .inl g0))]) hD hS hA [2] rfl) (hP.sub (ws' := [(yr 40, .inl (cT 0, 19, .inl g0))]) [2] rfl) hK (hD.sub (ws' := [(yr 40, .inl (cT 0, 19, .inl g0))]) [2] (by decide) rfl)) rfl rfl hl.1 rfl (lv_room (Nat.le_of_ble_eq_true rfl)) dM_walk_14 ⟨Nat.le_of_ble_eq_true rfl, Nat.le_of_ble_eq_true rfl⟩) (fun u9 H locs hpu2 hP hD hS => ?_)
  obtain ⟨f1u2, rfl⟩ : ∃ q9, q9 = u9 := ⟨_, rfl⟩
  have hpu2 : ∀ q8, q8 < 19 → f1u2 q8 = 0 := hpu2
  have hP : va_P D vwCl [(y, .inr (11, MO yr yi ysb ybs)), (yr 0, .inl (cT 0, 19, .inl fp)), (yr 30, .inl (cT 0, 302, .inl f2)), (yr 41, .inl (cT 0, 19, .inl g2)), (yr 27, .inl (cT 0, 65472, .inl up)), (yr 28, .inl (cT 0, 9424, .inl lw)), (yr 19, .inl (cT 0, 496, .inl nc)), (yr 22, .inl (cT 0, 496, .inl nl)), (yr 23, .inl (cT 0, 496, .inl nr)), (yr 9, .inl (cT 0, 6, .inl vv)), (yr 21, .inl (cT 3, 496, .inl tl)), (yr 26, .inl (cT 3, 496, .inl kd)), (yr 20, .inl (cT 0, 496, .inl ed)), (yr 29, .inl (cT 0, 302, .inl f1u1)), (yr 40, .inl (cT 0, 19, .inl f1u2))] _ := hP
  have hD : va_D A [(y, .inr (11, MO yr yi ysb ybs)), (yr 0, .inl (cT 0, 19, .inl fp)), (yr 30, .inl (cT 0, 302, .inl f2)), (yr 41, .inl (cT 0, 19, .inl g2)), (yr 27, .inl (cT 0, 65472, .inl up)), (yr 28, .inl (cT 0, 9424, .inl lw)), (yr 19, .inl (cT 0, 496, .inl nc)), (yr 22, .inl (cT 0, 496, .inl nl)), (yr 23, .inl (cT 0, 496, .inl nr)), (yr 9, .inl (cT 0, 6, .inl vv)), (yr 21, .inl (cT 3, 496, .inl tl)), (yr 26, .inl (cT 3, 496, .inl kd)), (yr 20, .inl (cT 0, 496, .inl ed)), (yr 29, .inl (cT 0, 302, .inl f1u1)), (yr 40, .inl (cT 0, 19, .inl f1u2))] := hD
  refine lv_iconst (v := 0) hx hb dM_walk_17 (by decide) ?_
  refine lv_istore hx hb dM_walk_18 hl (by decide) rfl (fun ls hl => ?_)
  have hl : lv_has ls 6 [(5, .int 0), (0, .ref y), (1, .int (-1)), (2, .int (nI n)), (3, .int 1), (4, .int x0)] := hl
  refine lp_w (α := Nat × Int × (Nat → Int32) × (Nat → Int32) × (Nat → Int32) × (Nat → Int32)) (fun a9 => a9.1 ≤ n ∧ MN a9.2.2.1 a9.2.1 ∧ LOK a9.2.2.2.1 bb ∧ RED a9.2.1 a9.2.2.2.1 ∧ a9.2.1 * (Pp a9.1 : Int) = X a9.1 * (dn a9.2.2.2.1 : Int)) (fun a9 => n - a9.1) (fun a9 => [(0, .ref y), (1, .int (-1)), (2, .int (nI n)), (3, .int 1), (5, .int (nI a9.1))]) (fun a9 => [(y, .inr (11, MO yr yi ysb ybs)), (yr 0, .inl (cT 0, 19, .inl fp)), (yr 30, .inl (cT 0, 302, .inl a9.2.2.2.2.1)), (yr 41, .inl (cT 0, 19, .inl a9.2.2.2.2.2)), (yr 27, .inl (cT 0, 65472, .inl up)), (yr 28, .inl (cT 0, 9424, .inl lw)), (yr 19, .inl (cT 0, 496, .inl nc)), (yr 22, .inl (cT 0, 496, .inl nl)), (yr 23, .inl (cT 0, 496, .inl nr)), (yr 9, .inl (cT 0, 6, .inl vv)), (yr 21, .inl (cT 3, 496, .inl tl)), (yr 26, .inl (cT 3, 496, .inl kd)), (yr 20, .inl (cT 0, 496, .inl ed)), (yr 29, .inl (cT 0, 302, .inl a9.2.2.1)), (yr 40, .inl (cT 0, 19, .inl a9.2.2.2.1))]) 20 ?_ (0, X 0, f1u1, f1u2, f2, g2) (show 0 ≤ n ∧ MN f1u1 (X 0) ∧ LOK f1u2 bb ∧ RED (X 0) f1u2 ∧ (X 0) * (Pp 0 : Int) = X 0 * (dn f1u2 : Int) from ⟨by omega, a1N, lok_0 hpu2, red_0 hpu2, by rw [hC.1, dn_0 hpu2]⟩) (lv_sub hl [1, 2, 3, 4, 0] rfl) hP hD hS
  intro a9 hI20 ih20 ls H locs hl hP hD hS
  obtain ⟨t, z, f1, g1, f2, g2⟩ := a9
  have hI20 : t ≤ n ∧ MN f1 z ∧ LOK g1 bb ∧ RED z g1 ∧ z * (Pp t : Int) = X t * (dn g1 : Int) := hI20
  obtain ⟨it, iN, iL, iR, iv⟩ := hI20
  have hl : lv_has ls 6 [(0, .ref y), (1, .int (-1)), (2, .int (nI n)), (3, .int 1), (5, .int (nI t))] := hl
  have hP : va_P D vwCl [(y, .inr (11, MO yr yi ysb ybs)), (yr 0, .inl (cT 0, 19, .inl fp)), (yr 30, .inl (cT 0, 302, .inl f2)), (yr 41, .inl (cT 0, 19, .inl g2)), (yr 27, .inl (cT 0, 65472, .inl up)), (yr 28, .inl (cT 0, 9424, .inl lw)), (yr 19, .inl (cT 0, 496, .inl nc)), (yr 22, .inl (cT 0, 496, .inl nl)), (yr 23, .inl (cT 0, 496, .inl nr)), (yr 9, .inl (cT 0, 6, .inl vv)), (yr 21, .inl (cT 3, 496, .inl tl)), (yr 26, .inl (cT 3, 496, .inl kd)), (yr 20, .inl (cT 0, 496, .inl ed)), (yr 29, .inl (cT 0, 302, .inl f1)), (yr 40, .inl (cT 0, 19, .inl g1))] _ := hP
  have hD : va_D A [(y, .inr (11, MO yr yi ysb ybs)), (yr 0, .inl (cT 0, 19, .inl fp)), (yr 30, .inl (cT 0, 302, .inl f2)), (yr 41, .inl (cT 0, 19, .inl g2)), (yr 27, .inl (cT 0, 65472, .inl up)), (yr 28, .inl (cT 0, 9424, .inl lw)), (yr 19, .inl (cT 0, 496, .inl nc)), (yr 22, .inl (cT 0, 496, .inl nl)), (yr 23, .inl (cT 0, 496, .inl nr)), (yr 9, .inl (cT 0, 6, .inl vv)), (yr 21, .inl (cT 3, 496, .inl tl)), (yr 26, .inl (cT 3, 496, .inl kd)), (yr 20, .inl (cT 0, 496, .inl ed)), (yr 29, .inl (cT 0, 302, .inl f1)), (yr 40, .inl (cT 0, 19, .inl g1))] := hD
  refine lv_iload hx hb dM_walk_20 (lv_at hl 4 rfl) ?_
  refine lv_iload_n hx hb dM_walk_22 rfl (lv_at hl 2 rfl) ?_
  refine lv_icmp_ge (tgt := 64) hx hb dM_walk_23 rfl (fun h3 => ?_) (fun h3 => ?_)
  · have gh3 : n ≤ t := (nI_leI (a := n) (b := t) (by omega) (by omega)).mp h3
    have et : t = n := by omega
    subst et
    have hP9 := hP.sub (ws' := [(y, .inr (11, MO yr yi ysb ybs)), (yr 0, .inl (cT 0, 19, .inl fp)), (yr 29, .inl (cT 0, 302, .inl f1)), (yr 40, .inl (cT 0, 19, .inl g1)), (yr 30, .inl (cT 0, 302, .inl f2)), (yr 41, .inl (cT 0, 19, .inl g2)), (yr 27, .inl (cT 0, 65472, .inl up)), (yr 28, .inl (cT 0, 9424, .inl lw)), (yr 19, .inl (cT 0, 496, .inl nc)), (yr 22, .inl (cT 0, 496, .inl nl)), (yr 23, .inl (cT 0, 496, .inl nr)), (yr 9, .inl (cT 0, 6, .inl vv)), (yr 21, .inl (cT 3, 496, .inl tl)), (yr 26, .inl (cT 3, 496, .inl kd)), (yr 20, .inl (cT 0, 496, .inl ed))]) [0, 1, 13, 14, 2, 3, 4, 5, 6, 7, 8, 9, 10, 11, 12] rfl
    have hD9 := hD.sub (ws' := [(y, .inr (11, MO yr yi ysb ybs)), (yr 0, .inl (cT 0, 19, .inl fp)), (yr 29, .inl (cT 0, 302, .inl f1)), (yr 40, .inl (cT 0, 19, .inl g1)), (yr 30, .inl (cT 0, 302, .inl f2)), (yr 41, .inl (cT 0, 19, .inl g2)), (yr 27, .inl (cT 0, 65472, .inl up)), (yr 28, .inl (cT 0, 9424, .inl lw)), (yr 19, .inl (cT 0, 496, .inl nc)), (yr 22, .inl (cT 0, 496, .inl nl)), (yr 23, .inl (cT 0, 496, .inl nr)), (yr 9, .inl (cT 0, 6, .inl vv)), (yr 21, .inl (cT 3, 496, .inl tl)), (yr 26, .inl (cT 3, 496, .inl kd)), (yr 20, .inl (cT 0, 496, .inl ed))]) [0, 1, 13, 14, 2, 3, 4, 5, 6, 7, 8, 9, 10, 11, 12] (by decide) rfl
    refine W.widen (k := 0) (n := 0) (Nat.le_of_ble_eq_true rfl) (Nat.le_of_ble_eq_true rfl) ?_
    exact W.vret hx hb hr (fun t9 ht9 hW9 => ⟨⟨(z, f1, g1, f2, g2), rfl, (show MN f1 z ∧ LOK g1 bb ∧ RED z g1 ∧ z * (Pp t : Int) = X t * (dn g1 : Int) from ⟨iN, iL, iR, iv⟩), by rw [ht9]; exact hP9, hD9⟩, hS.F ht9⟩) hS.2.2 dM_walk_64
  · have gh3 : t < n := Nat.not_le.mp (fun q => h3 ((nI_leI (a := n) (b := t) (by omega) (by omega)).mpr q))
    have hCt := hC.2.1 t (by omega)
    have hCa := hC.2.2 t (by omega)
    have hCb := hC.2.2 (t + 1) (by omega)
    obtain ⟨lz, dM, dL, dR, dv⟩ := hNF t (by omega)
    have hlt : lf t < 31 := hlfb t (by omega)
    refine lv_aload_n hx hb dM_walk_26 rfl (lv_at hl 0 rfl) ?_
    refine lv_aload_n hx hb dM_walk_27 rfl (lv_at hl 0 rfl) ?_
    refine lv_iload hx hb dM_walk_28 (lv_at hl 4 rfl) ?_
    refine lv_iload_n hx hb dM_walk_30 rfl (lv_at hl 1 rfl) ?_
    refine ro_i (va_Run.run (va_runV (As := [.int (nI t), .int (-1)]) (rest := [.ref y]) ⟨hx, hb, hml, hown, hT⟩ (m_leafQ l D cT y yr yi ysb ybs nc nl nr tl kd ed vv t r (nm t) (dp t) (go t) (lf t) (by omega) hr48 (hT9 t (by omega)) htl (hgo t (by omega)) (hlf t (by omega))) ⟨callB_of 2 hT (tb_gd w1392) rfl rfl rfl (hT _ w13) (hT _ w1389) hM_leafOf ⟨Nat.le_of_ble_eq_true rfl, Nat.le_of_ble_eq_true rfl⟩, (hT _ w1391), (hT _ wp37)⟩ (RO.preV (ci := 11) (q0 := 0) hZ hS (hP.sub (ws' := [(y, .inr (11, MO yr yi ysb ybs)), (yr 19, .inl (cT 0, 496, .inl nc)), (yr 22, .inl (cT 0, 496, .inl nl)), (yr 23, .inl (cT 0, 496, .inl nr)), (yr 9, .inl (cT 0, 6, .inl vv)), (yr 21, .inl (cT 3, 496, .inl tl)), (yr 26, .inl (cT 3, 496, .inl kd)), (yr 20, .inl (cT 0, 496, .inl ed))]) [0, 6, 7, 8, 9, 10, 11, 12] rfl) hK rfl rfl) rfl rfl hl.1 rfl (lv_room (Nat.le_of_ble_eq_true rfl)) dM_walk_31 ⟨Nat.le_of_ble_eq_true rfl, Nat.le_of_ble_eq_true rfl⟩)) ?_
    refine rw_v (wc := [(y, .inr (11, MO yr yi ysb ybs)), (yr 27, .inl (cT 0, 65472, .inl up)), (yr 28, .inl (cT 0, 9424, .inl lw)), (yr 30, .inl (cT 0, 302, .inl f2)), (yr 41, .inl (cT 0, 19, .inl g2))]) (wr := [(yr 0, .inl (cT 0, 19, .inl fp)), (yr 19, .inl (cT 0, 496, .inl nc)), (yr 22, .inl (cT 0, 496, .inl nl)), (yr 23, .inl (cT 0, 496, .inl nr)), (yr 9, .inl (cT 0, 6, .inl vv)), (yr 21, .inl (cT 3, 496, .inl tl)), (yr 26, .inl (cT 3, 496, .inl kd)), (yr 20, .inl (cT 0, 496, .inl ed)), (yr 29, .inl (cT 0, 302, .inl f1)), (yr 40, .inl (cT 0, 19, .inl g1))]) hP hD hS hA [0, 4, 5, 2, 3] [1, 6, 7, 8, 9, 10, 11, 12, 13, 14] rfl rfl (by decide) (by decide) (va_runV (As := [.int (nI (31 * t + (lf t)))]) (rest := []) ⟨hx, hb, hml, hown, hT⟩ (m_take l D cT y yr yi ysb ybs up lw (31 * t + lf t) lz f2 g2 dM (by omega) _) ⟨callB_of 1 hT (tb_gd w1400) rfl rfl rfl (hT _ w13) (hT _ w1397) hM_take ⟨Nat.le_of_ble_eq_true rfl, Nat.le_of_ble_eq_true rfl⟩, (hT _ w1399), (hT _ wp39)⟩ (RW.preV (ci := 11) (q0 := 0) hZ hS (va_free (wc := [(y, .inr (11, MO yr yi ysb ybs)), (yr 27, .inl (cT 0, 65472, .inl up)), (yr 28, .inl (cT 0, 9424, .inl lw)), (yr 30, .inl (cT 0, 302, .inl f2)), (yr 41, .inl (cT 0, 19, .inl g2))]) hD hS hA [0, 4, 5, 2, 3] rfl) (hP.sub (ws' := [(y, .inr (11, MO yr yi ysb ybs)), (yr 27, .inl (cT 0, 65472, .inl up)), (yr 28, .inl (cT 0, 9424, .inl lw)), (yr 30, .inl (cT 0, 302, .inl f2)), (yr 41, .inl (cT 0, 19, .inl g2))]) [0, 4, 5, 2, 3] rfl) hK (hD.sub (ws' := [(y, .inr (11, MO yr yi ysb ybs)), (yr 27, .inl (cT 0, 65472, .inl up)), (yr 28, .inl (cT 0, 9424, .inl lw)), (yr 30, .inl (cT 0, 302, .inl f2)), (yr 41, .inl (cT 0, 19, .inl g2))]) [0, 4, 5, 2, 3] (by decide) rfl) rfl rfl) rfl rfl hl.1 rfl (lv_room (Nat.le_of_ble_eq_true rfl)) dM_walk_34 ⟨Nat.le_of_ble_eq_true rfl, Nat.le_of_ble_eq_true rfl⟩) (fun u9 H locs hpu4 hP hD hS => ?_)
    obtain ⟨f1u4, g1u4⟩ := u9
    have hpu4 : MN f1u4 lz ∧ ∀ q8, q8 < 19 → g1u4 q8 = lw (19 * (31 * t + lf t) + q8) := hpu4
    have hP : va_P D vwCl [(yr 0, .inl (cT 0, 19, .inl fp)), (yr 19, .inl (cT 0, 496, .inl nc)), (yr 22, .inl (cT 0, 496, .inl nl)), (yr 23, .inl (cT 0, 496, .inl nr)), (yr 9, .inl (cT 0, 6, .inl vv)), (yr 21, .inl (cT 3, 496, .inl tl)), (yr 26, .inl (cT 3, 496, .inl kd)), (yr 20, .inl (cT 0, 496, .inl ed)), (yr 29, .inl (cT 0, 302, .inl f1)), (yr 40, .inl (cT 0, 19, .inl g1)), (y, .inr (11, MO yr yi ysb ybs)), (yr 27, .inl (cT 0, 65472, .inl up)), (yr 28, .inl (cT 0, 9424, .inl lw)), (yr 30, .inl (cT 0, 302, .inl f1u4)), (yr 41, .inl (cT 0, 19, .inl g1u4))] _ := hP
    have hD : va_D A [(yr 0, .inl (cT 0, 19, .inl fp)), (yr 19, .inl (cT 0, 496, .inl nc)), (yr 22, .inl (cT 0, 496, .inl nl)), (yr 23, .inl (cT 0, 496, .inl nr)), (yr 9, .inl (cT 0, 6, .inl vv)), (yr 21, .inl (cT 3, 496, .inl tl)), (yr 26, .inl (cT 3, 496, .inl kd)), (yr 20, .inl (cT 0, 496, .inl ed)), (yr 29, .inl (cT 0, 302, .inl f1)), (yr 40, .inl (cT 0, 19, .inl g1)), (y, .inr (11, MO yr yi ysb ybs)), (yr 27, .inl (cT 0, 65472, .inl up)), (yr 28, .inl (cT 0, 9424, .inl lw)), (yr 30, .inl (cT 0, 302, .inl f1u4)), (yr 41, .inl (cT 0, 19, .inl g1u4))] := hD
    obtain ⟨eN, eG⟩ := hpu4
    have eL : LOK g1u4 bb := lok_cg dL eG
    have eR : RED lz g1u4 := red_cg dR eG
    have eD : dn g1u4 = dn (sh (19 * (31 * t + lf t)) lw) := dn_cg eG
    rw [← eD, hCt.1] at dv
    have b1 := red_le hCa.1 iR iv
    have b2 := red_le (by rw [← hCt.1]; exact hCb.1) eR dv
    have b3 : Pp t * sc t ≤ PB := by rw [← hCt.1]; exact hCb.2.1
    refine lv_aload_n hx hb dM_walk_37 rfl (lv_at hl 0 rfl) ?_
    refine lv_aload_n hx hb dM_walk_38 rfl (lv_at hl 0 rfl) ?_
    refine va_get (D := D) (ci := 11) (v := .ref (yr 29)) (C := R_M) (T := T_M) (N := 60) hx hb hT in_M hown hK hP 10 rfl rfl 29 (by decide) (hT _ w1133) (fun _ h9 => h9) rfl dM_walk_39 ?_
    refine lv_aload_n hx hb dM_walk_42 rfl (lv_at hl 0 rfl) ?_
    refine va_get (D := D) (ci := 11) (v := .ref (yr 40)) (C := R_M) (T := T_M) (N := 60) hx hb hT in_M hown hK hP 10 rfl rfl 40 (by decide) (hT _ w1144) (fun _ h9 => h9) rfl dM_walk_43 ?_
    refine lv_aload_n hx hb dM_walk_46 rfl (lv_at hl 0 rfl) ?_
    refine va_get (D := D) (ci := 11) (v := .ref (yr 30)) (C := R_M) (T := T_M) (N := 60) hx hb hT in_M hown hK hP 10 rfl rfl 30 (by decide) (hT _ w1134) (fun _ h9 => h9) rfl dM_walk_47 ?_
    refine lv_aload_n hx hb dM_walk_50 rfl (lv_at hl 0 rfl) ?_
    refine va_get (D := D) (ci := 11) (v := .ref (yr 41)) (C := R_M) (T := T_M) (N := 60) hx hb hT in_M hown hK hP 10 rfl rfl 41 (by decide) (hT _ w1145) (fun _ h9 => h9) rfl dM_walk_51 ?_
    refine lv_iload_n hx hb dM_walk_54 rfl (lv_at hl 3 rfl) ?_
    refine rw_v (wc := [(y, .inr (11, MO yr yi ysb ybs)), (yr 0, .inl (cT 0, 19, .inl fp)), (yr 29, .inl (cT 0, 302, .inl f1)), (yr 40, .inl (cT 0, 19, .inl g1)), (yr 30, .inl (cT 0, 302, .inl f1u4)), (yr 41, .inl (cT 0, 19, .inl g1u4))]) (wr := [(yr 19, .inl (cT 0, 496, .inl nc)), (yr 22, .inl (cT 0, 496, .inl nl)), (yr 23, .inl (cT 0, 496, .inl nr)), (yr 9, .inl (cT 0, 6, .inl vv)), (yr 21, .inl (cT 3, 496, .inl tl)), (yr 26, .inl (cT 3, 496, .inl kd)), (yr 20, .inl (cT 0, 496, .inl ed)), (yr 27, .inl (cT 0, 65472, .inl up)), (yr 28, .inl (cT 0, 9424, .inl lw))]) hP hD hS hA [10, 0, 8, 9, 13, 14] [1, 2, 3, 4, 5, 6, 7, 11, 12] rfl rfl (by decide) (by decide) (va_runV (As := [.ref (yr 29), .ref (yr 40), .ref (yr 30), .ref (yr 41), .int 1]) (rest := []) ⟨hx, hb, hml, hown, hT⟩ (m_addF0 l D cT y yr yi ysb ybs fp (yr 29) f1 z (yr 40) g1 (yr 30) f1u4 lz (yr 41) g1u4 bb hPR iN iL eN eL hbb (fit_w (Nat.le_trans b1.1 hCa.2.2) (Nat.le_trans b2.1 hCt.2.2) (Nat.le_trans b1.2 hCa.2.1) (Nat.le_trans b2.2 b3) hBB) _) ⟨callB_of 5 hT (tb_gd w1410) rfl rfl rfl (hT _ w13) (hT _ w1407) hM_addFractions ⟨Nat.le_of_ble_eq_true rfl, Nat.le_of_ble_eq_true rfl⟩, (hT _ w1409), (hT _ wp40)⟩ (RW.preV (ci := 11) (q0 := 0) hZ hS (va_free (wc := [(y, .inr (11, MO yr yi ysb ybs)), (yr 0, .inl (cT 0, 19, .inl fp)), (yr 29, .inl (cT 0, 302, .inl f1)), (yr 40, .inl (cT 0, 19, .inl g1)), (yr 30, .inl (cT 0, 302, .inl f1u4)), (yr 41, .inl (cT 0, 19, .inl g1u4))]) hD hS hA [10, 0, 8, 9, 13, 14] rfl) (hP.sub (ws' := [(y, .inr (11, MO yr yi ysb ybs)), (yr 0, .inl (cT 0, 19, .inl fp)), (yr 29, .inl (cT 0, 302, .inl f1)), (yr 40, .inl (cT 0, 19, .inl g1)), (yr 30, .inl (cT 0, 302, .inl f1u4)), (yr 41, .inl (cT 0, 19, .inl g1u4))]) [10, 0, 8, 9, 13, 14] rfl) hK (hD.sub (ws' := [(y, .inr (11, MO yr yi ysb ybs)), (yr 0, .inl (cT 0, 19, .inl fp)), (yr 29, .inl (cT 0, 302, .inl f1)), (yr 40, .inl (cT 0, 19, .inl g1)), (yr 30, .inl (cT 0, 302, .inl f1u4)), (yr 41, .inl (cT 0, 19, .inl g1u4))]) [10, 0, 8, 9, 13, 14] (by decide) rfl) rfl rfl) rfl rfl hl.1 rfl (lv_room (Nat.le_of_ble_eq_true rfl)) dM_walk_55 ⟨Nat.le_of_ble_eq_true rfl, Nat.le_of_ble_eq_true rfl⟩) (fun u9 H locs hpu5 hP hD hS => ?_)
    obtain ⟨z9u5, f9u5, g9u5, fb9u5, gb9u5⟩ := u9
    have hpu5 : MN f9u5 z9u5 ∧ LOK g9u5 bb ∧ RED z9u5 g9u5 ∧ z9u5 * ((dn g1 * dn g1u4 : Nat) : Int) = (z * (dn g1u4 : Int) + lz * (dn g1 : Int)) * (dn g9u5 : Int) := hpu5
    have hP : va_P D vwCl [(yr 19, .inl (cT 0, 496, .inl nc)), (yr 22, .inl (cT 0, 496, .inl nl)), (yr 23, .inl (cT 0, 496, .inl nr)), (yr 9, .inl (cT 0, 6, .inl vv)), (yr 21, .inl (cT 3, 496, .inl tl)), (yr 26, .inl (cT 3, 496, .inl kd)), (yr 20, .inl (cT 0, 496, .inl ed)), (yr 27, .inl (cT 0, 65472, .inl up)), (yr 28, .inl (cT 0, 9424, .inl lw)), (y, .inr (11, MO yr yi ysb ybs)), (yr 0, .inl (cT 0, 19, .inl fp)), (yr 29, .inl (cT 0, 302, .inl f9u5)), (yr 40, .inl (cT 0, 19, .inl g9u5)), (yr 30, .inl (cT 0, 302, .inl fb9u5)), (yr 41, .inl (cT 0, 19, .inl gb9u5))] _ := hP
    have hD : va_D A [(yr 19, .inl (cT 0, 496, .inl nc)), (yr 22, .inl (cT 0, 496, .inl nl)), (yr 23, .inl (cT 0, 496, .inl nr)), (yr 9, .inl (cT 0, 6, .inl vv)), (yr 21, .inl (cT 3, 496, .inl tl)), (yr 26, .inl (cT 3, 496, .inl kd)), (yr 20, .inl (cT 0, 496, .inl ed)), (yr 27, .inl (cT 0, 65472, .inl up)), (yr 28, .inl (cT 0, 9424, .inl lw)), (y, .inr (11, MO yr yi ysb ybs)), (yr 0, .inl (cT 0, 19, .inl fp)), (yr 29, .inl (cT 0, 302, .inl f9u5)), (yr 40, .inl (cT 0, 19, .inl g9u5)), (yr 30, .inl (cT 0, 302, .inl fb9u5)), (yr 41, .inl (cT 0, 19, .inl gb9u5))] := hD
    obtain ⟨cN, cL, cR, cv⟩ := hpu5
    refine lv_iinc (k := 4) (v := nI (t + 1)) hx hb dM_walk_58 hl rfl (nI_1 t) (by decide) rfl (fun ls hl => ?_)
    have hl : lv_has ls 6 [(5, .int (nI (t + 1))), (0, .ref y), (1, .int (-1)), (2, .int (nI n)), (3, .int 1)] := hl
    refine lv_goto (tgt := 20) hx hb dM_walk_61 rfl ?_
    exact ih20 (t + 1, z9u5, f9u5, g9u5, fb9u5, gb9u5) (show (t + 1) ≤ n ∧ MN f9u5 z9u5 ∧ LOK g9u5 bb ∧ RED z9u5 g9u5 ∧ z9u5 * (Pp (t + 1) : Int) = X (t + 1) * (dn g9u5 : Int) from ⟨by omega, cN, cL, cR, by rw [hCt.1, hCt.2.1]; rw [if_neg (by decide)]; exact wk_a dn_pos dn_pos iv dv cv⟩) (show n - (t + 1) < n - t from (by omega)) ls H locs (lv_sub hl [1, 2, 3, 4, 0] rfl) (hP.sub (ws' := [(y, .inr (11, MO yr yi ysb ybs)), (yr 0, .inl (cT 0, 19, .inl fp)), (yr 30, .inl (cT 0, 302, .inl fb9u5)), (yr 41, .inl (cT 0, 19, .inl gb9u5)), (yr 27, .inl (cT 0, 65472, .inl up)), (yr 28, .inl (cT 0, 9424, .inl lw)), (yr 19, .inl (cT 0, 496, .inl nc)), (yr 22, .inl (cT 0, 496, .inl nl)), (yr 23, .inl (cT 0, 496, .inl nr)), (yr 9, .inl (cT 0, 6, .inl vv)), (yr 21, .inl (cT 3, 496, .inl tl)), (yr 26, .inl (cT 3, 496, .inl kd)), (yr 20, .inl (cT 0, 496, .inl ed)), (yr 29, .inl (cT 0, 302, .inl f9u5)), (yr 40, .inl (cT 0, 19, .inl g9u5))]) [9, 10, 13, 14, 7, 8, 0, 1, 2, 3, 4, 5, 6, 11, 12] rfl) (hD.sub (ws' := [(y, .inr (11, MO yr yi ysb ybs)), (yr 0, .inl (cT 0, 19, .inl fp)), (yr 30, .inl (cT 0, 302, .inl fb9u5)), (yr 41, .inl (cT 0, 19, .inl gb9u5)), (yr 27, .inl (cT 0, 65472, .inl up)), (yr 28, .inl (cT 0, 9424, .inl lw)), (yr 19, .inl (cT 0, 496, .inl nc)), (yr 22, .inl (cT 0, 496, .inl nl)), (yr 23, .inl (cT 0, 496, .inl nr)), (yr 9, .inl (cT 0, 6, .inl vv)), (yr 21, .inl (cT 3, 496, .inl tl)), (yr 26, .inl (cT 3, 496, .inl kd)), (yr 20, .inl (cT 0, 496, .inl ed)), (yr 29, .inl (cT 0, 302, .inl f9u5)), (yr 40, .inl (cT 0, 19, .inl g9u5))]) [9, 10, 13, 14, 7, 8, 0, 1, 2, 3, 4, 5, 6, 11, 12] (by decide) rfl) hS
