/-! Sums of squares, and the number of trees with the smallest. -/
abbrev sqs (X : Nat → Nat → Int) (x : Int64) (n t : Nat) : Int := smv (fun j => X j t * X j t) x n
abbrev sqd (Pp : Nat → Nat) (t : Nat) : Nat := Pp t * Pp t
def bst (S : Nat → Int) (Q : Nat → Nat) : Nat → Nat
  | 0 => 0
  | k + 1 => if S (k + 1) * (Q (bst S Q k) : Int) < S (bst S Q k) * (Q (k + 1) : Int) then k + 1 else bst S Q k
theorem bst_y {S : Nat → Int} {Q : Nat → Nat} {k : Nat} (h : S (k + 1) * (Q (bst S Q k) : Int) < S (bst S Q k) * (Q (k + 1) : Int)) : bst S Q (k + 1) = k + 1 := if_pos h
theorem bst_n {S : Nat → Int} {Q : Nat → Nat} {k : Nat} (h : ¬ S (k + 1) * (Q (bst S Q k) : Int) < S (bst S Q k) * (Q (k + 1) : Int)) : bst S Q (k + 1) = bst S Q k := if_neg h
theorem bst_le (S : Nat → Int) (Q : Nat → Nat) : ∀ k, bst S Q k ≤ k
  | 0 => Nat.le_refl _
  | k + 1 => by
    have h0 := bst_le S Q k
    by_cases h : S (k + 1) * (Q (bst S Q k) : Int) < S (bst S Q k) * (Q (k + 1) : Int)
    · rw [bst_y h]; exact Nat.le_refl _
    · rw [bst_n h]; omega
theorem chn_le {Pp sc : Nat → Nat} {X LX : Nat → Int} {s : Bool} {T t PB XB : Nat} (h : CHN Pp sc X LX s T PB XB) (ht : t ≤ T) : CHN Pp sc X LX s t PB XB := ⟨h.1, fun u hu => h.2.1 u (by omega), fun u hu => h.2.2 u (by omega)⟩
theorem sq_a {z lz z' S L : Int} {P d ld d' : Nat} (hd : 0 < d) (hld : 0 < ld) (h1 : z * (P : Int) = S * (d : Int)) (h2 : lz * (P : Int) = L * (ld : Int)) (h3 : z' * ((d * ld : Nat) : Int) = (z * (ld : Int) + lz * (d : Int)) * (d' : Int)) : z' * (P : Int) = (S + L) * (d' : Int) := by
  have h := wk_a (s := 1) hd hld h1 (by rw [Nat.mul_one]; exact h2) h3
  rw [Nat.mul_one, show ((1 : Nat) : Int) = 1 from rfl, Int.mul_one] at h
  exact h
theorem sq_v {z X : Int} {P d D : Nat} (hD : D = d * d) (h : z * (P : Int) = X * (d : Int)) : z * z * ((P * P : Nat) : Int) = X * X * (D : Int) := by
  rw [hD, Int.natCast_mul, Int.natCast_mul, show z * z * ((P : Int) * P) = (z * P) * (z * P) by ac_rfl, h]
  ac_rfl
theorem sqn_le {z : Int} {B : Nat} (h : z.natAbs ≤ B) : (z * z).natAbs ≤ B * B := by
  rw [Int.natAbs_mul]
  exact Nat.mul_le_mul h h
theorem sqs_le {X : Nat → Nat → Int} {x : Int64} {n t XB : Nat} (h : ∀ i, i < n → (X i t).natAbs ≤ XB) (hn : n ≤ 48) (r : Nat) (hr : r ≤ n) : (smv (fun j => X j t * X j t) x r).natAbs ≤ 48 * (XB * XB) :=
  Nat.le_trans (smv_le (x := x) (zr := fun j => X j t * X j t) (fun k hk => sqn_le (h k hk)) r hr) (Nat.mul_le_mul_right _ (by omega))
theorem sq_fit {z l d ld XX PP : Nat} (h1 : z ≤ 48 * XX) (h2 : l ≤ XX) (h3 : d ≤ PP) (h4 : ld ≤ PP) (hB : 48 * XX * PP + XX * (PP * PP) < 268435456 ^ 250) : z * ld + l * (d * ld) < 268435456 ^ 250 :=
  Nat.lt_of_le_of_lt (Nat.add_le_add (Nat.mul_le_mul h1 h4) (Nat.mul_le_mul h2 (Nat.mul_le_mul h3 h4))) hB
theorem sq_fit1 {z d XX PP : Nat} (h1 : z ≤ 48 * XX) (h3 : d ≤ PP) (hB : 48 * XX * PP + XX * (PP * PP) < 268435456 ^ 250) : z * d < 268435456 ^ 250 :=
  Nat.lt_of_le_of_lt (Nat.le_trans (Nat.mul_le_mul h1 h3) (Nat.le_add_right _ _)) hB
theorem sq_fit2 {z XX PP : Nat} (h1 : z ≤ 48 * XX) (hP : 0 < PP) (hB : 48 * XX * PP + XX * (PP * PP) < 268435456 ^ 250) : z < 268435456 ^ 250 :=
  Nat.lt_of_le_of_lt (Nat.le_mul_of_pos_right z hP) (sq_fit1 h1 (Nat.le_refl _) hB)
theorem bst_cmp {za z1 zc zb S1 Sb : Int} {d1 db D Q1 Qb : Nat} (hd1 : 0 < d1) (hdb : 0 < db) (hD : 0 < D) (hQ1 : 0 < Q1) (hQb : 0 < Qb) (h1 : za * (d1 : Int) = z1 * (D : Int)) (h2 : zc * (db : Int) = zb * (D : Int)) (h3 : z1 * (Q1 : Int) = S1 * (d1 : Int)) (h4 : zb * (Qb : Int) = Sb * (db : Int)) : za < zc ↔ S1 * (Qb : Int) < Sb * (Q1 : Int) := by
  have e1 := raise_v hd1 h3 h1
  have e2 := raise_v hdb h4 h2
  have k1 : za * ((Q1 : Int) * Qb) = S1 * Qb * D := by
    rw [← Int.mul_assoc, e1]
    ac_rfl
  have k2 : zc * ((Q1 : Int) * Qb) = Sb * Q1 * D := by
    rw [show zc * ((Q1 : Int) * Qb) = zc * Qb * Q1 by ac_rfl, e2]
    ac_rfl
  have pQ : (0 : Int) < (Q1 : Int) * Qb := Int.mul_pos (by omega) (by omega)
  constructor
  · intro h
    have h5 := Int.mul_lt_mul_of_pos_right h pQ
    rw [k1, k2] at h5
    exact Int.lt_of_mul_lt_mul_right h5 (by omega)
  · intro h
    have h5 := Int.mul_lt_mul_of_pos_right h (show (0 : Int) < (D : Int) by omega)
    rw [← k1, ← k2] at h5
    exact Int.lt_of_mul_lt_mul_right h5 (by omega)
theorem cz_neg {x y : Int} : cz x y < 0 ↔ x < y := by
  rcases Int.lt_trichotomy x y with h | h | h
  · rw [cz_lt h]; exact ⟨fun _ => h, fun _ => by decide⟩
  · rw [cz_rf h]; exact ⟨fun q => absurd q (by decide), fun q => absurd q (by omega)⟩
  · rw [cz_gt h]; exact ⟨fun q => absurd q (by decide), fun q => absurd q (by omega)⟩
theorem max_dn {g1 g2 a c : Nat → Int32} (h1 : ∀ q, q < 19 → dg a q = max (dg g1 q) (dg g2 q)) (h2 : ∀ q, q < 19 → dg c q = max (dg g2 q) (dg g1 q)) : dn a = dn c := dnk_cg (fun q hq => by rw [h1 q hq, h2 q hq]; omega)
set_option maxHeartbeats 4000000 in
set_option maxRecDepth 100000 in
theorem m_ssq (l : Launch) (D : va_G) (cT : Nat → ClassId) (y : Nat) (yr : Nat → Nat) (yi : Nat → Int32) (ysb : Int64) (ybs : Int64) (fp : Nat → Int32) (nc : Nat → Int32) (nl : Nat → Int32) (nr : Nat → Int32) (tl : Nat → Int32) (kd : Nat → Int32) (ed : Nat → Int32) (vv : Nat → Int32) (up : Nat → Int32) (lw : Nat → Int32) (f0 : Nat → Int32) (g0 : Nat → Int32) (f2 : Nat → Int32) (g2 : Nat → Int32) (ft0 : Nat → Int32) (gt0 : Nat → Int32) (fq0 : Nat → Int32) (T : Nat) (n : Nat) (bb : Nat) (nm : Nat → Nat) (dp : Nat → Nat → Nat) (go : Nat → Nat → Nat → Bool) (lf : Nat → Nat → Nat) (Pp : Nat → Nat) (sc : Nat → Nat) (X : Nat → Nat → Int) (LX : Nat → Nat → Int) (PB : Nat) (XB : Nat) (tg : Nat → Int32) (x : Int64) (nt : Nat) (hPR : PRI fp) (hn : yi 3 = nI n) (hn48 : n ≤ 48) (hT16 : T ≤ 16) (htg0 : ∀ i, i < n → X i 0 = (tg i).toInt ∧ -1000 ≤ (tg i).toInt ∧ (tg i).toInt ≤ 1000) (hC : ∀ i, i < n → CHN Pp sc (X i) (LX i) true T PB XB) (hBB : XB * PB + XB * (PB * PB) < 268435456 ^ 130) (hT9 : ∀ t, t < T → TWF nc nl nr (dp t) (31 * t) (nm t)) (htl : ∀ q, q < 496 → tl q = 0 ∨ tl q = 1) (hgo : ∀ i, i < n → ∀ t, t < T → ∀ k, k < nm t → ∀ c, c < 6 → nc (31 * t + k) = nI c → go i t k = goB (tl (31 * t + k)) (kd (31 * t + k)) (ed (31 * t + k)) (vv (6 * i + c))) (hlf : ∀ i, i < n → ∀ t, t < T → lf i t = lfw nc nl nr (go i t) (31 * t) 4 0) (hlfb : ∀ i, i < n → ∀ t, t < T → lf i t < 31) (hNF : ∀ i, i < n → ∀ t, t < T → NF up lw bb (31 * t + lf i t) (LX i t) (Pp (t + 1))) (hbb : bb < 2 ^ 29) (hPB0 : 0 < PB) (hSB : 48 * (XB * XB) * (PB * PB) + (XB * XB) * ((PB * PB) * (PB * PB)) < 268435456 ^ 250) (hnt : nt ≤ T) (sz : Nat) : Met l yM_sumSquares WM_sumSquares ({ frames := 5, cells := 0, slots := 0, locals := 124 } : Room) (RW D vwCl [.ref y, .long x, .int (nI nt)] [(y, .inr (11, MO yr yi ysb ybs)), (yr 0, .inl (cT 0, 19, .inl fp)), (yr 29, .inl (cT 0, 302, .inl f0)), (yr 40, .inl (cT 0, 19, .inl g0)), (yr 30, .inl (cT 0, 302, .inl f2)), (yr 41, .inl (cT 0, 19, .inl g2)), (yr 37, .inl (cT 0, 302, .inl ft0)), (yr 42, .inl (cT 0, 19, .inl gt0)), (yr 32, .inl (cT 0, 302, .inl fq0)), (yr 4, .inl (cT 0, 48, .inl tg)), (yr 27, .inl (cT 0, 65472, .inl up)), (yr 28, .inl (cT 0, 9424, .inl lw)), (yr 19, .inl (cT 0, 496, .inl nc)), (yr 22, .inl (cT 0, 496, .inl nl)), (yr 23, .inl (cT 0, 496, .inl nr)), (yr 5, .inl (cT 0, 288, .inl vv)), (yr 21, .inl (cT 3, 496, .inl tl)), (yr 26, .inl (cT 3, 496, .inl kd)), (yr 20, .inl (cT 0, 496, .inl ed))] (TY cT) sz) (va_Qv (fun u9 : Int × (Nat → Int32) × (Nat → Int32) × (Nat → Int32) × (Nat → Int32) × (Nat → Int32) × (Nat → Int32) × (Nat → Int32) => MN u9.2.1 u9.1 ∧ LOK u9.2.2.1 (2 * bb) ∧ RED u9.1 u9.2.2.1 ∧ u9.1 * ((sqd Pp nt : Nat) : Int) = sqs X x n nt * (dn u9.2.2.1 : Int)) (BW D vwCl (va_A [(y, .inr (11, MO yr yi ysb ybs)), (yr 0, .inl (cT 0, 19, .inl fp)), (yr 29, .inl (cT 0, 302, .inl f0)), (yr 40, .inl (cT 0, 19, .inl g0)), (yr 30, .inl (cT 0, 302, .inl f2)), (yr 41, .inl (cT 0, 19, .inl g2)), (yr 37, .inl (cT 0, 302, .inl ft0)), (yr 42, .inl (cT 0, 19, .inl gt0)), (yr 32, .inl (cT 0, 302, .inl fq0)), (yr 4, .inl (cT 0, 48, .inl tg)), (yr 27, .inl (cT 0, 65472, .inl up)), (yr 28, .inl (cT 0, 9424, .inl lw)), (yr 19, .inl (cT 0, 496, .inl nc)), (yr 22, .inl (cT 0, 496, .inl nl)), (yr 23, .inl (cT 0, 496, .inl nr)), (yr 5, .inl (cT 0, 288, .inl vv)), (yr 21, .inl (cT 3, 496, .inl tl)), (yr 26, .inl (cT 3, 496, .inl kd)), (yr 20, .inl (cT 0, 496, .inl ed))] sz) (fun u9 : Int × (Nat → Int32) × (Nat → Int32) × (Nat → Int32) × (Nat → Int32) × (Nat → Int32) × (Nat → Int32) × (Nat → Int32) => [(y, .inr (11, MO yr yi ysb ybs)), (yr 0, .inl (cT 0, 19, .inl fp)), (yr 29, .inl (cT 0, 302, .inl u9.2.2.2.2.1)), (yr 40, .inl (cT 0, 19, .inl u9.2.2.2.2.2.1)), (yr 30, .inl (cT 0, 302, .inl u9.2.2.2.2.2.2.1)), (yr 41, .inl (cT 0, 19, .inl u9.2.2.2.2.2.2.2)), (yr 37, .inl (cT 0, 302, .inl u9.2.1)), (yr 42, .inl (cT 0, 19, .inl u9.2.2.1)), (yr 32, .inl (cT 0, 302, .inl u9.2.2.2.1)), (yr 4, .inl (cT 0, 48, .inl tg)), (yr 27, .inl (cT 0, 65472, .inl up)), (yr 28, .inl (cT 0, 9424, .inl lw)), (yr 19, .inl (cT 0, 496, .inl nc)), (yr 22, .inl (cT 0, 496, .inl nl)), (yr 23, .inl (cT 0, 496, .inl nr)), (yr 5, .inl (cT 0, 288, .inl vv)), (yr 21, .inl (cT 3, 496, .inl tl)), (yr 26, .inl (cT 3, 496, .inl kd)), (yr 20, .inl (cT 0, 496, .inl ed))])) (va_A [(y, .inr (11, MO yr yi ysb ybs)), (yr 0, .inl (cT 0, 19, .inl fp)), (yr 29, .inl (cT 0, 302, .inl f0)), (yr 40, .inl (cT 0, 19, .inl g0)), (yr 30, .inl (cT 0, 302, .inl f2)), (yr 41, .inl (cT 0, 19, .inl g2)), (yr 37, .inl (cT 0, 302, .inl ft0)), (yr 42, .inl (cT 0, 19, .inl gt0)), (yr 32, .inl (cT 0, 302, .inl fq0)), (yr 4, .inl (cT 0, 48, .inl tg)), (yr 27, .inl (cT 0, 65472, .inl up)), (yr 28, .inl (cT 0, 9424, .inl lw)), (yr 19, .inl (cT 0, 496, .inl nc)), (yr 22, .inl (cT 0, 496, .inl nl)), (yr 23, .inl (cT 0, 496, .inl nr)), (yr 5, .inl (cT 0, 288, .inl vv)), (yr 21, .inl (cT 3, 496, .inl tl)), (yr 26, .inl (cT 3, 496, .inl kd)), (yr 20, .inl (cT 0, 496, .inl ed))] sz)) 0 0 (va_A [(y, .inr (11, MO yr yi ysb ybs)), (yr 0, .inl (cT 0, 19, .inl fp)), (yr 29, .inl (cT 0, 302, .inl f0)), (yr 40, .inl (cT 0, 19, .inl g0)), (yr 30, .inl (cT 0, 302, .inl f2)), (yr 41, .inl (cT 0, 19, .inl g2)), (yr 37, .inl (cT 0, 302, .inl ft0)), (yr 42, .inl (cT 0, 19, .inl gt0)), (yr 32, .inl (cT 0, 302, .inl fq0)), (yr 4, .inl (cT 0, 48, .inl tg)), (yr 27, .inl (cT 0, 65472, .inl up)), (yr 28, .inl (cT 0, 9424, .inl lw)), (yr 19, .inl (cT 0, 496, .inl nc)), (yr 22, .inl (cT 0, 496, .inl nl)), (yr 23, .inl (cT 0, 496, .inl nr)), (yr 5, .inl (cT 0, 288, .inl vv)), (yr 21, .inl (cT 3, 496, .inl tl)), (yr 26, .inl (cT 3, 496, .inl kd)), (yr 20, .inl (cT 0, 496, .inl ed))] sz) := by
  refine Met.ofW (cc := cM_sumSquares) (maxL := 6) (ret := none) (by decide) rfl ?_
  intro p e s m args below meth c s₁ B hml hv
  obtain ⟨rfl, hsz, hZ, hP, hK, hD0⟩ := hv
  have hx := B.exec
  have hb := B.bytes
  have hr := B.returns
  have hts := atoms_spec (ws := WM_sumSquares) B.pre
  have hT : ∀ w ∈ TB, w.before _ s = true := fun w h => hts w (List.mem_cons_of_mem _ h)
  have hown : s.vm.findClass R_M = some m.cls := findClass_of_methodNamed B.named
  have hlocks := B.notSynchronized
  subst hsz
  have hD := hD0.self (sz := s.heap.size)
  generalize hAe : va_A [(y, .inr (11, MO yr yi ysb ybs)), (yr 0, .inl (cT 0, 19, .inl fp)), (yr 29, .inl (cT 0, 302, .inl f0)), (yr 40, .inl (cT 0, 19, .inl g0)), (yr 30, .inl (cT 0, 302, .inl f2)), (yr 41, .inl (cT 0, 19, .inl g2)), (yr 37, .inl (cT 0, 302, .inl ft0)), (yr 42, .inl (cT 0, 19, .inl gt0)), (yr 32, .inl (cT 0, 302, .inl fq0)), (yr 4, .inl (cT 0, 48, .inl tg)), (yr 27, .inl (cT 0, 65472, .inl up)), (yr 28, .inl (cT 0, 9424, .inl lw)), (yr 19, .inl (cT 0, 496, .inl nc)), (yr 22, .inl (cT 0, 496, .inl nl)), (yr 23, .inl (cT 0, 496, .inl nr)), (yr 5, .inl (cT 0, 288, .inl vv)), (yr 21, .inl (cT 3, 496, .inl tl)), (yr 26, .inl (cT 3, 496, .inl kd)), (yr 20, .inl (cT 0, 496, .inl ed))] s.heap.size = A at hD hZ ⊢
  have hA : ∀ q : Nat, s.heap.size ≤ q → A q := fun q h => by rw [← hAe]; exact Or.inr h
  have hS : va_S A s.heap s.heap [] := va_S.rf
  have hl := lv_entry ([.ref y, .long x, .int (nI nt)]) (n := 6) (Nat.le_of_ble_eq_true rfl)
  rw [lg_entry_eq]
  generalize (lg_sl ([.ref y, .long x, .int (nI nt)]) ++ List.replicate (6 - (lg_sl ([.ref y, .long x, .int (nI nt)])).length) Slot.unset).toArray = ls at hl ⊢
  have hl : lv_has ls 6 [(0, .ref y), (1, .long x), (3, .int (nI nt))] := hl
  have hcx : ∀ i, i < n → (X i nt).natAbs ≤ XB := fun i hi => ((hC i hi).2.2 nt hnt).2.2
  refine lv_aload_n hx hb dM_sumSquares_0 rfl (lv_at hl 0 rfl) ?_
  refine va_get (D := D) (ci := 11) (v := .ref (yr 37)) (C := R_M) (T := T_M) (N := 60) hx hb hT in_M hown hK hP 0 rfl rfl 37 (by decide) (hT _ w1141) (fun _ h9 => h9) rfl dM_sumSquares_1 ?_
  refine lv_lconst (v := 0) hx hb dM_sumSquares_4 (by decide) ?_
  refine rw_v (wc := [(yr 37, .inl (cT 0, 302, .inl ft0))]) (wr := [(y, .inr (11, MO yr yi ysb ybs)), (yr 0, .inl (cT 0, 19, .inl fp)), (yr 29, .inl (cT 0, 302, .inl f0)), (yr 40, .inl (cT 0, 19, .inl g0)), (yr 30, .inl (cT 0, 302, .inl f2)), (yr 41, .inl (cT 0, 19, .inl g2)), (yr 42, .inl (cT 0, 19, .inl gt0)), (yr 32, .inl (cT 0, 302, .inl fq0)), (yr 4, .inl (cT 0, 48, .inl tg)), (yr 27, .inl (cT 0, 65472, .inl up)), (yr 28, .inl (cT 0, 9424, .inl lw)), (yr 19, .inl (cT 0, 496, .inl nc)), (yr 22, .inl (cT 0, 496, .inl nl)), (yr 23, .inl (cT 0, 496, .inl nr)), (yr 5, .inl (cT 0, 288, .inl vv)), (yr 21, .inl (cT 3, 496, .inl tl)), (yr 26, .inl (cT 3, 496, .inl kd)), (yr 20, .inl (cT 0, 496, .inl ed))]) hP hD hS hA [6] [0, 1, 2, 3, 4, 5, 7, 8, 9, 10, 11, 12, 13, 14, 15, 16, 17, 18] rfl rfl (by decide) (by decide) (va_runS (As := [.ref (yr 37), .long 0]) (rest := []) ⟨hx, hb, hml, hown, hT⟩ (m_setInt l D cT (yr 37) ft0 0 (by decide) _) ⟨callB_of 2 hT (tb_gd w1387) rfl rfl rfl (hT _ w13) (hT _ w1385) hM_setInt ⟨Nat.le_of_ble_eq_true rfl, Nat.le_of_ble_eq_true rfl⟩, (hT _ w1386)⟩ (RW.preS hZ hS (va_free (wc := [(yr 37, .inl (cT 0, 302, .inl ft0))]) hD hS hA [6] rfl) (hP.sub (ws' := [(yr 37, .inl (cT 0, 302, .inl ft0))]) [6] rfl) hK (hD.sub (ws' := [(yr 37, .inl (cT 0, 302, .inl ft0))]) [6] (by decide) rfl)) rfl rfl hl.1 rfl (lv_room (Nat.le_of_ble_eq_true rfl)) dM_sumSquares_5 ⟨Nat.le_of_ble_eq_true rfl, Nat.le_of_ble_eq_true rfl⟩) (fun u9 H locs hpu1 hP hD hS => ?_)
  obtain ⟨f1u1, rfl⟩ : ∃ q9, q9 = u9 := ⟨_, rfl⟩
  have hpu1 : MN f1u1 (0 : Int64).toInt := hpu1
  have hP : va_P D vwCl [(y, .inr (11, MO yr yi ysb ybs)), (yr 0, .inl (cT 0, 19, .inl fp)), (yr 29, .inl (cT 0, 302, .inl f0)), (yr 40, .inl (cT 0, 19, .inl g0)), (yr 30, .inl (cT 0, 302, .inl f2)), (yr 41, .inl (cT 0, 19, .inl g2)), (yr 42, .inl (cT 0, 19, .inl gt0)), (yr 32, .inl (cT 0, 302, .inl fq0)), (yr 4, .inl (cT 0, 48, .inl tg)), (yr 27, .inl (cT 0, 65472, .inl up)), (yr 28, .inl (cT 0, 9424, .inl lw)), (yr 19, .inl (cT 0, 496, .inl nc)), (yr 22, .inl (cT 0, 496, .inl nl)), (yr 23, .inl (cT 0, 496, .inl nr)), (yr 5, .inl (cT 0, 288, .inl vv)), (yr 21, .inl (cT 3, 496, .inl tl)), (yr 26, .inl (cT 3, 496, .inl kd)), (yr 20, .inl (cT 0, 496, .inl ed)), (yr 37, .inl (cT 0, 302, .inl f1u1))] _ := hP
  have hD : va_D A [(y, .inr (11, MO yr yi ysb ybs)), (yr 0, .inl (cT 0, 19, .inl fp)), (yr 29, .inl (cT 0, 302, .inl f0)), (yr 40, .inl (cT 0, 19, .inl g0)), (yr 30, .inl (cT 0, 302, .inl f2)), (yr 41, .inl (cT 0, 19, .inl g2)), (yr 42, .inl (cT 0, 19, .inl gt0)), (yr 32, .inl (cT 0, 302, .inl fq0)), (yr 4, .inl (cT 0, 48, .inl tg)), (yr 27, .inl (cT 0, 65472, .inl up)), (yr 28, .inl (cT 0, 9424, .inl lw)), (yr 19, .inl (cT 0, 496, .inl nc)), (yr 22, .inl (cT 0, 496, .inl nl)), (yr 23, .inl (cT 0, 496, .inl nr)), (yr 5, .inl (cT 0, 288, .inl vv)), (yr 21, .inl (cT 3, 496, .inl tl)), (yr 26, .inl (cT 3, 496, .inl kd)), (yr 20, .inl (cT 0, 496, .inl ed)), (yr 37, .inl (cT 0, 302, .inl f1u1))] := hD
  have h0N : MN f1u1 (0 : Int) := hpu1
  refine lv_aload_n hx hb dM_sumSquares_8 rfl (lv_at hl 0 rfl) ?_
  refine va_get (D := D) (ci := 11) (v := .ref (yr 42)) (C := R_M) (T := T_M) (N := 60) hx hb hT in_M hown hK hP 0 rfl rfl 42 (by decide) (hT _ w1146) (fun _ h9 => h9) rfl dM_sumSquares_9 ?_
  refine rw_v (wc := [(yr 42, .inl (cT 0, 19, .inl gt0))]) (wr := [(y, .inr (11, MO yr yi ysb ybs)), (yr 0, .inl (cT 0, 19, .inl fp)), (yr 29, .inl (cT 0, 302, .inl f0)), (yr 40, .inl (cT 0, 19, .inl g0)), (yr 30, .inl (cT 0, 302, .inl f2)), (yr 41, .inl (cT 0, 19, .inl g2)), (yr 32, .inl (cT 0, 302, .inl fq0)), (yr 4, .inl (cT 0, 48, .inl tg)), (yr 27, .inl (cT 0, 65472, .inl up)), (yr 28, .inl (cT 0, 9424, .inl lw)), (yr 19, .inl (cT 0, 496, .inl nc)), (yr 22, .inl (cT 0, 496, .inl nl)), (yr 23, .inl (cT 0, 496, .inl nr)), (yr 5, .inl (cT 0, 288, .inl vv)), (yr 21, .inl (cT 3, 496, .inl tl)), (yr 26, .inl (cT 3, 496, .inl kd)), (yr 20, .inl (cT 0, 496, .inl ed)), (yr 37, .inl (cT 0, 302, .inl f1u1))]) hP hD hS hA [6] [0, 1, 2, 3, 4, 5, 7, 8, 9, 10, 11, 12, 13, 14, 15, 16, 17, 18] rfl rfl (by decide) (by decide) (va_runS (As := [.ref (yr 42)]) (rest := []) ⟨hx, hb, hml, hown, hT⟩ (m_zero l D cT (yr 42) gt0 _) ⟨callB_of 1 hT (tb_gd w1380) rfl rfl rfl (hT _ w13) (hT _ w1378) hM_zero ⟨Nat.le_of_ble_eq_true rfl, Nat.le_of_ble_eq_true rfl⟩, (hT _ w1379)⟩ (RW.preS hZ hS (va_free (wc := [(yr 42, .inl (cT 0, 19, .inl gt0))]) hD hS hA [6] rfl) (hP.sub (ws' := [(yr 42, .inl (cT 0, 19, .inl gt0))]) [6] rfl) hK (hD.sub (ws' := [(yr 42, .inl (cT 0, 19, .inl gt0))]) [6] (by decide) rfl)) rfl rfl hl.1 rfl (lv_room (Nat.le_of_ble_eq_true rfl)) dM_sumSquares_12 ⟨Nat.le_of_ble_eq_true rfl, Nat.le_of_ble_eq_true rfl⟩) (fun u9 H locs hpu2 hP hD hS => ?_)
  obtain ⟨f1u2, rfl⟩ : ∃ q9, q9 = u9 := ⟨_, rfl⟩
  have hpu2 : ∀ q8, q8 < 19 → f1u2 q8 = 0 := hpu2
  have hP : va_P D vwCl [(y, .inr (11, MO yr yi ysb ybs)), (yr 0, .inl (cT 0, 19, .inl fp)), (yr 29, .inl (cT 0, 302, .inl f0)), (yr 40, .inl (cT 0, 19, .inl g0)), (yr 30, .inl (cT 0, 302, .inl f2)), (yr 41, .inl (cT 0, 19, .inl g2)), (yr 32, .inl (cT 0, 302, .inl fq0)), (yr 4, .inl (cT 0, 48, .inl tg)), (yr 27, .inl (cT 0, 65472, .inl up)), (yr 28, .inl (cT 0, 9424, .inl lw)), (yr 19, .inl (cT 0, 496, .inl nc)), (yr 22, .inl (cT 0, 496, .inl nl)), (yr 23, .inl (cT 0, 496, .inl nr)), (yr 5, .inl (cT 0, 288, .inl vv)), (yr 21, .inl (cT 3, 496, .inl tl)), (yr 26, .inl (cT 3, 496, .inl kd)), (yr 20, .inl (cT 0, 496, .inl ed)), (yr 37, .inl (cT 0, 302, .inl f1u1)), (yr 42, .inl (cT 0, 19, .inl f1u2))] _ := hP
  have hD : va_D A [(y, .inr (11, MO yr yi ysb ybs)), (yr 0, .inl (cT 0, 19, .inl fp)), (yr 29, .inl (cT 0, 302, .inl f0)), (yr 40, .inl (cT 0, 19, .inl g0)), (yr 30, .inl (cT 0, 302, .inl f2)), (yr 41, .inl (cT 0, 19, .inl g2)), (yr 32, .inl (cT 0, 302, .inl fq0)), (yr 4, .inl (cT 0, 48, .inl tg)), (yr 27, .inl (cT 0, 65472, .inl up)), (yr 28, .inl (cT 0, 9424, .inl lw)), (yr 19, .inl (cT 0, 496, .inl nc)), (yr 22, .inl (cT 0, 496, .inl nl)), (yr 23, .inl (cT 0, 496, .inl nr)), (yr 5, .inl (cT 0, 288, .inl vv)), (yr 21, .inl (cT 3, 496, .inl tl)), (yr 26, .inl (cT 3, 496, .inl kd)), (yr 20, .inl (cT 0, 496, .inl ed)), (yr 37, .inl (cT 0, 302, .inl f1u1)), (yr 42, .inl (cT 0, 19, .inl f1u2))] := hD
  refine lv_iconst (v := 0) hx hb dM_sumSquares_15 (by decide) ?_
  refine lv_istore hx hb dM_sumSquares_16 hl (by decide) rfl (fun ls hl => ?_)
  have hl : lv_has ls 6 [(4, .int 0), (0, .ref y), (1, .long x), (3, .int (nI nt))] := hl
  refine lp_w (α := Nat × Int × (Nat → Int32) × (Nat → Int32) × (Nat → Int32) × (Nat → Int32) × (Nat → Int32) × (Nat → Int32) × (Nat → Int32)) (fun a9 => a9.1 ≤ n ∧ MN a9.2.2.1 a9.2.1 ∧ LOK a9.2.2.2.1 (2 * bb) ∧ RED a9.2.1 a9.2.2.2.1 ∧ a9.2.1 * ((Pp nt * Pp nt : Nat) : Int) = smv (fun j8 => X j8 nt * X j8 nt) x a9.1 * (dn a9.2.2.2.1 : Int)) (fun a9 => n - a9.1) (fun a9 => [(0, .ref y), (1, .long x), (3, .int (nI nt)), (4, .int (nI a9.1))]) (fun a9 => [(y, .inr (11, MO yr yi ysb ybs)), (yr 0, .inl (cT 0, 19, .inl fp)), (yr 29, .inl (cT 0, 302, .inl a9.2.2.2.2.2.1)), (yr 40, .inl (cT 0, 19, .inl a9.2.2.2.2.2.2.1)), (yr 30, .inl (cT 0, 302, .inl a9.2.2.2.2.2.2.2.1)), (yr 41, .inl (cT 0, 19, .inl a9.2.2.2.2.2.2.2.2)), (yr 32, .inl (cT 0, 302, .inl a9.2.2.2.2.1)), (yr 4, .inl (cT 0, 48, .inl tg)), (yr 27, .inl (cT 0, 65472, .inl up)), (yr 28, .inl (cT 0, 9424, .inl lw)), (yr 19, .inl (cT 0, 496, .inl nc)), (yr 22, .inl (cT 0, 496, .inl nl)), (yr 23, .inl (cT 0, 496, .inl nr)), (yr 5, .inl (cT 0, 288, .inl vv)), (yr 21, .inl (cT 3, 496, .inl tl)), (yr 26, .inl (cT 3, 496, .inl kd)), (yr 20, .inl (cT 0, 496, .inl ed)), (yr 37, .inl (cT 0, 302, .inl a9.2.2.1)), (yr 42, .inl (cT 0, 19, .inl a9.2.2.2.1))]) 18 ?_ (0, 0, f1u1, f1u2, fq0, f0, g0, f2, g2) (show 0 ≤ n ∧ MN f1u1 0 ∧ LOK f1u2 (2 * bb) ∧ RED 0 f1u2 ∧ 0 * ((Pp nt * Pp nt : Nat) : Int) = smv (fun j8 => X j8 nt * X j8 nt) x 0 * (dn f1u2 : Int) from ⟨by omega, h0N, lok_0 hpu2, red_0 hpu2, (Int.zero_mul _).trans (Int.zero_mul _).symm⟩) (lv_sub hl [1, 2, 3, 0] rfl) hP hD hS
  intro a9 hI18 ih18 ls H locs hl hP hD hS
  obtain ⟨r, zt, ft, gt, fq, f1, g1, f3, g3⟩ := a9
  have hI18 : r ≤ n ∧ MN ft zt ∧ LOK gt (2 * bb) ∧ RED zt gt ∧ zt * ((Pp nt * Pp nt : Nat) : Int) = smv (fun j8 => X j8 nt * X j8 nt) x r * (dn gt : Int) := hI18
  obtain ⟨ir, iN, iL, iR, iv⟩ := hI18
  have hl : lv_has ls 6 [(0, .ref y), (1, .long x), (3, .int (nI nt)), (4, .int (nI r))] := hl
  have hP : va_P D vwCl [(y, .inr (11, MO yr yi ysb ybs)), (yr 0, .inl (cT 0, 19, .inl fp)), (yr 29, .inl (cT 0, 302, .inl f1)), (yr 40, .inl (cT 0, 19, .inl g1)), (yr 30, .inl (cT 0, 302, .inl f3)), (yr 41, .inl (cT 0, 19, .inl g3)), (yr 32, .inl (cT 0, 302, .inl fq)), (yr 4, .inl (cT 0, 48, .inl tg)), (yr 27, .inl (cT 0, 65472, .inl up)), (yr 28, .inl (cT 0, 9424, .inl lw)), (yr 19, .inl (cT 0, 496, .inl nc)), (yr 22, .inl (cT 0, 496, .inl nl)), (yr 23, .inl (cT 0, 496, .inl nr)), (yr 5, .inl (cT 0, 288, .inl vv)), (yr 21, .inl (cT 3, 496, .inl tl)), (yr 26, .inl (cT 3, 496, .inl kd)), (yr 20, .inl (cT 0, 496, .inl ed)), (yr 37, .inl (cT 0, 302, .inl ft)), (yr 42, .inl (cT 0, 19, .inl gt))] _ := hP
  have hD : va_D A [(y, .inr (11, MO yr yi ysb ybs)), (yr 0, .inl (cT 0, 19, .inl fp)), (yr 29, .inl (cT 0, 302, .inl f1)), (yr 40, .inl (cT 0, 19, .inl g1)), (yr 30, .inl (cT 0, 302, .inl f3)), (yr 41, .inl (cT 0, 19, .inl g3)), (yr 32, .inl (cT 0, 302, .inl fq)), (yr 4, .inl (cT 0, 48, .inl tg)), (yr 27, .inl (cT 0, 65472, .inl up)), (yr 28, .inl (cT 0, 9424, .inl lw)), (yr 19, .inl (cT 0, 496, .inl nc)), (yr 22, .inl (cT 0, 496, .inl nl)), (yr 23, .inl (cT 0, 496, .inl nr)), (yr 5, .inl (cT 0, 288, .inl vv)), (yr 21, .inl (cT 3, 496, .inl tl)), (yr 26, .inl (cT 3, 496, .inl kd)), (yr 20, .inl (cT 0, 496, .inl ed)), (yr 37, .inl (cT 0, 302, .inl ft)), (yr 42, .inl (cT 0, 19, .inl gt))] := hD
  refine lv_iload hx hb dM_sumSquares_18 (lv_at hl 3 rfl) ?_
  refine lv_aload_n hx hb dM_sumSquares_20 rfl (lv_at hl 0 rfl) ?_
  refine va_get (D := D) (ci := 11) (v := .int (yi 3)) (C := R_M) (T := T_M) (N := 60) hx hb hT in_M hown hK hP 0 rfl rfl 3 (by decide) (hT _ w1107) (fun _ h9 => h9) rfl dM_sumSquares_21 ?_
  refine lv_topi (fun y9 e9 => ?_)
  cases (show y9 = nI n from e9.trans hn)
  refine lv_icmp_ge (tgt := 135) hx hb dM_sumSquares_24 rfl (fun h3 => ?_) (fun h3 => ?_)
  · have gh3 : n ≤ r := (nI_leI (a := n) (b := r) (by omega) (by omega)).mp h3
    have er : r = n := by omega
    rw [er] at iv
    have hP9 := hP.sub (ws' := [(y, .inr (11, MO yr yi ysb ybs)), (yr 0, .inl (cT 0, 19, .inl fp)), (yr 29, .inl (cT 0, 302, .inl f1)), (yr 40, .inl (cT 0, 19, .inl g1)), (yr 30, .inl (cT 0, 302, .inl f3)), (yr 41, .inl (cT 0, 19, .inl g3)), (yr 37, .inl (cT 0, 302, .inl ft)), (yr 42, .inl (cT 0, 19, .inl gt)), (yr 32, .inl (cT 0, 302, .inl fq)), (yr 4, .inl (cT 0, 48, .inl tg)), (yr 27, .inl (cT 0, 65472, .inl up)), (yr 28, .inl (cT 0, 9424, .inl lw)), (yr 19, .inl (cT 0, 496, .inl nc)), (yr 22, .inl (cT 0, 496, .inl nl)), (yr 23, .inl (cT 0, 496, .inl nr)), (yr 5, .inl (cT 0, 288, .inl vv)), (yr 21, .inl (cT 3, 496, .inl tl)), (yr 26, .inl (cT 3, 496, .inl kd)), (yr 20, .inl (cT 0, 496, .inl ed))]) [0, 1, 2, 3, 4, 5, 17, 18, 6, 7, 8, 9, 10, 11, 12, 13, 14, 15, 16] rfl
    have hD9 := hD.sub (ws' := [(y, .inr (11, MO yr yi ysb ybs)), (yr 0, .inl (cT 0, 19, .inl fp)), (yr 29, .inl (cT 0, 302, .inl f1)), (yr 40, .inl (cT 0, 19, .inl g1)), (yr 30, .inl (cT 0, 302, .inl f3)), (yr 41, .inl (cT 0, 19, .inl g3)), (yr 37, .inl (cT 0, 302, .inl ft)), (yr 42, .inl (cT 0, 19, .inl gt)), (yr 32, .inl (cT 0, 302, .inl fq)), (yr 4, .inl (cT 0, 48, .inl tg)), (yr 27, .inl (cT 0, 65472, .inl up)), (yr 28, .inl (cT 0, 9424, .inl lw)), (yr 19, .inl (cT 0, 496, .inl nc)), (yr 22, .inl (cT 0, 496, .inl nl)), (yr 23, .inl (cT 0, 496, .inl nr)), (yr 5, .inl (cT 0, 288, .inl vv)), (yr 21, .inl (cT 3, 496, .inl tl)), (yr 26, .inl (cT 3, 496, .inl kd)), (yr 20, .inl (cT 0, 496, .inl ed))]) [0, 1, 2, 3, 4, 5, 17, 18, 6, 7, 8, 9, 10, 11, 12, 13, 14, 15, 16] (by decide) rfl
    refine W.widen (k := 0) (n := 0) (Nat.le_of_ble_eq_true rfl) (Nat.le_of_ble_eq_true rfl) ?_
    exact W.vret hx hb hr (fun t9 ht9 hW9 => ⟨⟨(zt, ft, gt, fq, f1, g1, f3, g3), rfl, (show MN ft zt ∧ LOK gt (2 * bb) ∧ RED zt gt ∧ zt * ((sqd Pp nt : Nat) : Int) = sqs X x n nt * (dn gt : Int) from ⟨iN, iL, iR, iv⟩), by rw [ht9]; exact hP9, hD9⟩, hS.F ht9⟩) hS.2.2 dM_sumSquares_135
  · have gh3 : r < n := Nat.not_le.mp (fun q => h3 ((nI_leI (a := n) (b := r) (by omega) (by omega)).mpr q))
    refine lv_lload_n hx hb dM_sumSquares_27 rfl (lv_at hl 1 rfl) ?_
    refine lv_iload hx hb dM_sumSquares_28 (lv_at hl 3 rfl) ?_
    refine lv_lshr hx hb dM_sumSquares_30 rfl ?_
    refine lv_lconst (v := 1) hx hb dM_sumSquares_31 (by decide) ?_
    refine lv_land hx hb dM_sumSquares_32 ?_
    refine lv_lconst (v := 1) hx hb dM_sumSquares_33 (by decide) ?_
    refine W.lcmp hx hb dM_sumSquares_34 ?_
    refine lv_if_ne (tgt := 129) hx hb dM_sumSquares_35 rfl (fun h4 => ?_) (fun h4 => ?_)
    · have gb : ¬ bx x r = true := fun q => h4 ((bx_t x (by omega)).mpr q)
      refine lv_iinc (k := 3) (v := nI (r + 1)) hx hb dM_sumSquares_129 hl rfl (nI_1 r) (by decide) rfl (fun ls hl => ?_)
      have hl : lv_has ls 6 [(4, .int (nI (r + 1))), (0, .ref y), (1, .long x), (3, .int (nI nt))] := hl
      refine lv_goto (tgt := 18) hx hb dM_sumSquares_132 rfl ?_
      exact ih18 (r + 1, zt, ft, gt, fq, f1, g1, f3, g3) (show (r + 1) ≤ n ∧ MN ft zt ∧ LOK gt (2 * bb) ∧ RED zt gt ∧ zt * ((Pp nt * Pp nt : Nat) : Int) = smv (fun j8 => X j8 nt * X j8 nt) x (r + 1) * (dn gt : Int) from ⟨by omega, iN, iL, iR, by rw [smv_f gb]; exact iv⟩) (show n - (r + 1) < n - r from (by omega)) ls H locs (lv_sub hl [1, 2, 3, 0] rfl) hP hD hS
    · have gb : bx x r = true := (bx_t x (by omega)).mp h4
      have htg := htg0 r (by omega)
      refine lv_aload_n hx hb dM_sumSquares_38 rfl (lv_at hl 0 rfl) ?_
      refine lv_iload hx hb dM_sumSquares_39 (lv_at hl 3 rfl) ?_
      refine lv_iload_n hx hb dM_sumSquares_41 rfl (lv_at hl 2 rfl) ?_
      refine lv_iconst (v := (-1)) hx hb dM_sumSquares_42 (by decide) ?_
      refine lv_aload_n hx hb dM_sumSquares_43 rfl (lv_at hl 0 rfl) ?_
      refine va_get (D := D) (ci := 11) (v := .ref (yr 4)) (C := R_M) (T := T_M) (N := 60) hx hb hT in_M hown hK hP 0 rfl rfl 4 (by decide) (hT _ w1108) (fun _ h9 => h9) rfl dM_sumSquares_44 ?_
      refine lv_iload hx hb dM_sumSquares_47 (lv_at hl 3 rfl) ?_
      refine lq_iald (j := r) hx hb hK hP 7 0 rfl rfl rfl (by omega) (by omega) dM_sumSquares_49 ?_
      refine rw_v (wc := [(y, .inr (11, MO yr yi ysb ybs)), (yr 0, .inl (cT 0, 19, .inl fp)), (yr 29, .inl (cT 0, 302, .inl f1)), (yr 40, .inl (cT 0, 19, .inl g1)), (yr 30, .inl (cT 0, 302, .inl f3)), (yr 41, .inl (cT 0, 19, .inl g3)), (yr 27, .inl (cT 0, 65472, .inl up)), (yr 28, .inl (cT 0, 9424, .inl lw)), (yr 19, .inl (cT 0, 496, .inl nc)), (yr 22, .inl (cT 0, 496, .inl nl)), (yr 23, .inl (cT 0, 496, .inl nr)), (yr 5, .inl (cT 0, 288, .inl vv)), (yr 21, .inl (cT 3, 496, .inl tl)), (yr 26, .inl (cT 3, 496, .inl kd)), (yr 20, .inl (cT 0, 496, .inl ed))]) (wr := [(yr 32, .inl (cT 0, 302, .inl fq)), (yr 4, .inl (cT 0, 48, .inl tg)), (yr 37, .inl (cT 0, 302, .inl ft)), (yr 42, .inl (cT 0, 19, .inl gt))]) hP hD hS hA [0, 1, 2, 3, 4, 5, 8, 9, 10, 11, 12, 13, 14, 15, 16] [6, 7, 17, 18] rfl rfl (by decide) (by decide) (va_runV (As := [.int (nI r), .int (nI nt), .int (-1), .int (tg r)]) (rest := []) ⟨hx, hb, hml, hown, hT⟩ (m_walkR l D cT y yr yi ysb ybs fp nc nl nr tl kd ed vv up lw f1 g1 f3 g3 (tg r) nt r bb nm dp (go r) (lf r) Pp sc (X r) (LX r) PB XB hPR (by omega) (by omega) (by omega) htg.1 (by omega) (chn_le (hC r (by omega)) hnt) hBB (fun t h => hT9 t (by omega)) htl (fun t h => hgo r (by omega) t (by omega)) (fun t h => hlf r (by omega) t (by omega)) (fun t h => hlfb r (by omega) t (by omega)) (fun t h => hNF r (by omega) t (by omega)) _) ⟨callB_of 4 hT (tb_gd w1384) rfl rfl rfl (hT _ w13) (hT _ w1381) hM_walk ⟨Nat.le_of_ble_eq_true rfl, Nat.le_of_ble_eq_true rfl⟩, (hT _ w1383), (hT _ wp36)⟩ (RW.preV (ci := 11) (q0 := 0) hZ hS (va_free (wc := [(y, .inr (11, MO yr yi ysb ybs)), (yr 0, .inl (cT 0, 19, .inl fp)), (yr 29, .inl (cT 0, 302, .inl f1)), (yr 40, .inl (cT 0, 19, .inl g1)), (yr 30, .inl (cT 0, 302, .inl f3)), (yr 41, .inl (cT 0, 19, .inl g3)), (yr 27, .inl (cT 0, 65472, .inl up)), (yr 28, .inl (cT 0, 9424, .inl lw)), (yr 19, .inl (cT 0, 496, .inl nc)), (yr 22, .inl (cT 0, 496, .inl nl)), (yr 23, .inl (cT 0, 496, .inl nr)), (yr 5, .inl (cT 0, 288, .inl vv)), (yr 21, .inl (cT 3, 496, .inl tl)), (yr 26, .inl (cT 3, 496, .inl kd)), (yr 20, .inl (cT 0, 496, .inl ed))]) hD hS hA [0, 1, 2, 3, 4, 5, 8, 9, 10, 11, 12, 13, 14, 15, 16] rfl) (hP.sub (ws' := [(y, .inr (11, MO yr yi ysb ybs)), (yr 0, .inl (cT 0, 19, .inl fp)), (yr 29, .inl (cT 0, 302, .inl f1)), (yr 40, .inl (cT 0, 19, .inl g1)), (yr 30, .inl (cT 0, 302, .inl f3)), (yr 41, .inl (cT 0, 19, .inl g3)), (yr 27, .inl (cT 0, 65472, .inl up)), (yr 28, .inl (cT 0, 9424, .inl lw)), (yr 19, .inl (cT 0, 496, .inl nc)), (yr 22, .inl (cT 0, 496, .inl nl)), (yr 23, .inl (cT 0, 496, .inl nr)), (yr 5, .inl (cT 0, 288, .inl vv)), (yr 21, .inl (cT 3, 496, .inl tl)), (yr 26, .inl (cT 3, 496, .inl kd)), (yr 20, .inl (cT 0, 496, .inl ed))]) [0, 1, 2, 3, 4, 5, 8, 9, 10, 11, 12, 13, 14, 15, 16] rfl) hK (hD.sub (ws' := [(y, .inr (11, MO yr yi ysb ybs)), (yr 0, .inl (cT 0, 19, .inl fp)), (yr 29, .inl (cT 0, 302, .inl f1)), (yr 40, .inl (cT 0, 19, .inl g1)), (yr 30, .inl (cT 0, 302, .inl f3)), (yr 41, .inl (cT 0, 19, .inl g3)), (yr 27, .inl (cT 0, 65472, .inl up)), (yr 28, .inl (cT 0, 9424, .inl lw)), (yr 19, .inl (cT 0, 496, .inl nc)), (yr 22, .inl (cT 0, 496, .inl nl)), (yr 23, .inl (cT 0, 496, .inl nr)), (yr 5, .inl (cT 0, 288, .inl vv)), (yr 21, .inl (cT 3, 496, .inl tl)), (yr 26, .inl (cT 3, 496, .inl kd)), (yr 20, .inl (cT 0, 496, .inl ed))]) [0, 1, 2, 3, 4, 5, 8, 9, 10, 11, 12, 13, 14, 15, 16] (by decide) rfl) rfl rfl) rfl rfl hl.1 rfl (lv_room (Nat.le_of_ble_eq_true rfl)) dM_sumSquares_50 ⟨Nat.le_of_ble_eq_true rfl, Nat.le_of_ble_eq_true rfl⟩) (fun u9 H locs hpu5 hP hD hS => ?_)
      obtain ⟨z7u5, f7u5, g7u5, f8u5, g8u5⟩ := u9
      have hpu5 : MN f7u5 z7u5 ∧ LOK g7u5 bb ∧ RED z7u5 g7u5 ∧ z7u5 * (Pp nt : Int) = (X r) nt * (dn g7u5 : Int) := hpu5
      have hP : va_P D vwCl [(yr 32, .inl (cT 0, 302, .inl fq)), (yr 4, .inl (cT 0, 48, .inl tg)), (yr 37, .inl (cT 0, 302, .inl ft)), (yr 42, .inl (cT 0, 19, .inl gt)), (y, .inr (11, MO yr yi ysb ybs)), (yr 0, .inl (cT 0, 19, .inl fp)), (yr 29, .inl (cT 0, 302, .inl f7u5)), (yr 40, .inl (cT 0, 19, .inl g7u5)), (yr 30, .inl (cT 0, 302, .inl f8u5)), (yr 41, .inl (cT 0, 19, .inl g8u5)), (yr 27, .inl (cT 0, 65472, .inl up)), (yr 28, .inl (cT 0, 9424, .inl lw)), (yr 19, .inl (cT 0, 496, .inl nc)), (yr 22, .inl (cT 0, 496, .inl nl)), (yr 23, .inl (cT 0, 496, .inl nr)), (yr 5, .inl (cT 0, 288, .inl vv)), (yr 21, .inl (cT 3, 496, .inl tl)), (yr 26, .inl (cT 3, 496, .inl kd)), (yr 20, .inl (cT 0, 496, .inl ed))] _ := hP
      have hD : va_D A [(yr 32, .inl (cT 0, 302, .inl fq)), (yr 4, .inl (cT 0, 48, .inl tg)), (yr 37, .inl (cT 0, 302, .inl ft)), (yr 42, .inl (cT 0, 19, .inl gt)), (y, .inr (11, MO yr yi ysb ybs)), (yr 0, .inl (cT 0, 19, .inl fp)), (yr 29, .inl (cT 0, 302, .inl f7u5)), (yr 40, .inl (cT 0, 19, .inl g7u5)), (yr 30, .inl (cT 0, 302, .inl f8u5)), (yr 41, .inl (cT 0, 19, .inl g8u5)), (yr 27, .inl (cT 0, 65472, .inl up)), (yr 28, .inl (cT 0, 9424, .inl lw)), (yr 19, .inl (cT 0, 496, .inl nc)), (yr 22, .inl (cT 0, 496, .inl nl)), (yr 23, .inl (cT 0, 496, .inl nr)), (yr 5, .inl (cT 0, 288, .inl vv)), (yr 21, .inl (cT 3, 496, .inl tl)), (yr 26, .inl (cT 3, 496, .inl kd)), (yr 20, .inl (cT 0, 496, .inl ed))] := hD
      obtain ⟨wN, wL, wR, wv⟩ := hpu5
      have wc := (hC r (by omega)).2.2 nt hnt
      have wb := red_le wc.1 wR wv
      have wz : z7u5.natAbs ≤ XB := Nat.le_trans wb.1 wc.2.2
      have wd : dn g7u5 ≤ PB := Nat.le_trans wb.2 wc.2.1
      have wz2 := sqn_le wz
      have tb := red_le (Nat.mul_pos wc.1 wc.1) iR iv
      have tz := Nat.le_trans tb.1 (sqs_le (x := x) hcx hn48 r (by omega))
      have td := Nat.le_trans tb.2 (Nat.mul_le_mul wc.2.1 wc.2.1)
      have hPP : 0 < PB * PB := Nat.mul_pos hPB0 hPB0
      have wf : z7u5.natAbs * z7u5.natAbs < 268435456 ^ 250 := by rw [← Int.natAbs_mul]; exact sq_fit2 (Nat.le_trans wz2 (by omega)) hPP hSB
      refine lv_aload_n hx hb dM_sumSquares_53 rfl (lv_at hl 0 rfl) ?_
      refine lv_aload_n hx hb dM_sumSquares_54 rfl (lv_at hl 0 rfl) ?_
      refine va_get (D := D) (ci := 11) (v := .ref (yr 29)) (C := R_M) (T := T_M) (N := 60) hx hb hT in_M hown hK hP 4 rfl rfl 29 (by decide) (hT _ w1133) (fun _ h9 => h9) rfl dM_sumSquares_55 ?_
      refine lv_aload_n hx hb dM_sumSquares_58 rfl (lv_at hl 0 rfl) ?_
      refine va_get (D := D) (ci := 11) (v := .ref (yr 29)) (C := R_M) (T := T_M) (N := 60) hx hb hT in_M hown hK hP 4 rfl rfl 29 (by decide) (hT _ w1133) (fun _ h9 => h9) rfl dM_sumSquares_59 ?_
      refine rw_v (wc := [(y, .inr (11, MO yr yi ysb ybs)), (yr 32, .inl (cT 0, 302, .inl fq)), (yr 29, .inl (cT 0, 302, .inl f7u5))]) (wr := [(yr 4, .inl (cT 0, 48, .inl tg)), (yr 37, .inl (cT 0, 302, .inl ft)), (yr 42, .inl (cT 0, 19, .inl gt)), (yr 0, .inl (cT 0, 19, .inl fp)), (yr 40, .inl (cT 0, 19, .inl g7u5)), (yr 30, .inl (cT 0, 302, .inl f8u5)), (yr 41, .inl (cT 0, 19, .inl g8u5)), (yr 27, .inl (cT 0, 65472, .inl up)), (yr 28, .inl (cT 0, 9424, .inl lw)), (yr 19, .inl (cT 0, 496, .inl nc)), (yr 22, .inl (cT 0, 496, .inl nl)), (yr 23, .inl (cT 0, 496, .inl nr)), (yr 5, .inl (cT 0, 288, .inl vv)), (yr 21, .inl (cT 3, 496, .inl tl)), (yr 26, .inl (cT 3, 496, .inl kd)), (yr 20, .inl (cT 0, 496, .inl ed))]) hP hD hS hA [4, 0, 6] [1, 2, 3, 5, 7, 8, 9, 10, 11, 12, 13, 14, 15, 16, 17, 18] rfl rfl (by decide) (by decide) (va_runV (As := [.ref (yr 29), .ref (yr 29)]) (rest := []) ⟨hx, hb, hml, hown, hT⟩ (m_square l D cT y yr yi ysb ybs fq (yr 29) f7u5 z7u5 wN wf _) ⟨callB_of 2 hT (tb_gd w1503) rfl rfl rfl (hT _ w13) (hT _ w1500) hM_multiply ⟨Nat.le_of_ble_eq_true rfl, Nat.le_of_ble_eq_true rfl⟩, (hT _ w1502), (hT _ wp54)⟩ (RW.preV (ci := 11) (q0 := 0) hZ hS (va_free (wc := [(y, .inr (11, MO yr yi ysb ybs)), (yr 32, .inl (cT 0, 302, .inl fq)), (yr 29, .inl (cT 0, 302, .inl f7u5))]) hD hS hA [4, 0, 6] rfl) (hP.sub (ws' := [(y, .inr (11, MO yr yi ysb ybs)), (yr 32, .inl (cT 0, 302, .inl fq)), (yr 29, .inl (cT 0, 302, .inl f7u5))]) [4, 0, 6] rfl) hK (hD.sub (ws' := [(y, .inr (11, MO yr yi ysb ybs)), (yr 32, .inl (cT 0, 302, .inl fq)), (yr 29, .inl (cT 0, 302, .inl f7u5))]) [4, 0, 6] (by decide) rfl) rfl rfl) rfl rfl hl.1 rfl (lv_room (Nat.le_of_ble_eq_true rfl)) dM_sumSquares_62 ⟨Nat.le_of_ble_eq_true rfl, Nat.le_of_ble_eq_true rfl⟩) (fun u9 H locs hpu6 hP hD hS => ?_)
      obtain ⟨f1u6, rfl⟩ : ∃ q9, q9 = u9 := ⟨_, rfl⟩
      have hpu6 : MN f1u6 (z7u5 * z7u5) := hpu6
      have hP : va_P D vwCl [(yr 4, .inl (cT 0, 48, .inl tg)), (yr 37, .inl (cT 0, 302, .inl ft)), (yr 42, .inl (cT 0, 19, .inl gt)), (yr 0, .inl (cT 0, 19, .inl fp)), (yr 40, .inl (cT 0, 19, .inl g7u5)), (yr 30, .inl (cT 0, 302, .inl f8u5)), (yr 41, .inl (cT 0, 19, .inl g8u5)), (yr 27, .inl (cT 0, 65472, .inl up)), (yr 28, .inl (cT 0, 9424, .inl lw)), (yr 19, .inl (cT 0, 496, .inl nc)), (yr 22, .inl (cT 0, 496, .inl nl)), (yr 23, .inl (cT 0, 496, .inl nr)), (yr 5, .inl (cT 0, 288, .inl vv)), (yr 21, .inl (cT 3, 496, .inl tl)), (yr 26, .inl (cT 3, 496, .inl kd)), (yr 20, .inl (cT 0, 496, .inl ed)), (y, .inr (11, MO yr yi ysb ybs)), (yr 32, .inl (cT 0, 302, .inl f1u6)), (yr 29, .inl (cT 0, 302, .inl f7u5))] _ := hP
      have hD : va_D A [(yr 4, .inl (cT 0, 48, .inl tg)), (yr 37, .inl (cT 0, 302, .inl ft)), (yr 42, .inl (cT 0, 19, .inl gt)), (yr 0, .inl (cT 0, 19, .inl fp)), (yr 40, .inl (cT 0, 19, .inl g7u5)), (yr 30, .inl (cT 0, 302, .inl f8u5)), (yr 41, .inl (cT 0, 19, .inl g8u5)), (yr 27, .inl (cT 0, 65472, .inl up)), (yr 28, .inl (cT 0, 9424, .inl lw)), (yr 19, .inl (cT 0, 496, .inl nc)), (yr 22, .inl (cT 0, 496, .inl nl)), (yr 23, .inl (cT 0, 496, .inl nr)), (yr 5, .inl (cT 0, 288, .inl vv)), (yr 21, .inl (cT 3, 496, .inl tl)), (yr 26, .inl (cT 3, 496, .inl kd)), (yr 20, .inl (cT 0, 496, .inl ed)), (y, .inr (11, MO yr yi ysb ybs)), (yr 32, .inl (cT 0, 302, .inl f1u6)), (yr 29, .inl (cT 0, 302, .inl f7u5))] := hD
      have qN := hpu6
      refine lv_aload_n hx hb dM_sumSquares_65 rfl (lv_at hl 0 rfl) ?_
      refine va_get (D := D) (ci := 11) (v := .ref (yr 32)) (C := R_M) (T := T_M) (N := 60) hx hb hT in_M hown hK hP 16 rfl rfl 32 (by decide) (hT _ w1136) (fun _ h9 => h9) rfl dM_sumSquares_66 ?_
      refine lv_aload_n hx hb dM_sumSquares_69 rfl (lv_at hl 0 rfl) ?_
      refine va_get (D := D) (ci := 11) (v := .ref (yr 30)) (C := R_M) (T := T_M) (N := 60) hx hb hT in_M hown hK hP 16 rfl rfl 30 (by decide) (hT _ w1134) (fun _ h9 => h9) rfl dM_sumSquares_70 ?_
      refine rw_v (wc := [(yr 32, .inl (cT 0, 302, .inl f1u6)), (yr 30, .inl (cT 0, 302, .inl f8u5))]) (wr := [(yr 4, .inl (cT 0, 48, .inl tg)), (yr 37, .inl (cT 0, 302, .inl ft)), (yr 42, .inl (cT 0, 19, .inl gt)), (yr 0, .inl (cT 0, 19, .inl fp)), (yr 40, .inl (cT 0, 19, .inl g7u5)), (yr 41, .inl (cT 0, 19, .inl g8u5)), (yr 27, .inl (cT 0, 65472, .inl up)), (yr 28, .inl (cT 0, 9424, .inl lw)), (yr 19, .inl (cT 0, 496, .inl nc)), (yr 22, .inl (cT 0, 496, .inl nl)), (yr 23, .inl (cT 0, 496, .inl nr)), (yr 5, .inl (cT 0, 288, .inl vv)), (yr 21, .inl (cT 3, 496, .inl tl)), (yr 26, .inl (cT 3, 496, .inl kd)), (yr 20, .inl (cT 0, 496, .inl ed)), (y, .inr (11, MO yr yi ysb ybs)), (yr 29, .inl (cT 0, 302, .inl f7u5))]) hP hD hS hA [17, 5] [0, 1, 2, 3, 4, 6, 7, 8, 9, 10, 11, 12, 13, 14, 15, 16, 18] rfl rfl (by decide) (by decide) (va_runS (As := [.ref (yr 32), .ref (yr 30)]) (rest := []) ⟨hx, hb, hml, hown, hT⟩ (m_copy l D cT (yr 32) f1u6 (z7u5 * z7u5) (yr 30) f8u5 qN _) ⟨callB_of 2 hT (tb_gd w1426) rfl rfl rfl (hT _ w13) (hT _ w1424) hM_copy ⟨Nat.le_of_ble_eq_true rfl, Nat.le_of_ble_eq_true rfl⟩, (hT _ w1425)⟩ (RW.preS hZ hS (va_free (wc := [(yr 32, .inl (cT 0, 302, .inl f1u6)), (yr 30, .inl (cT 0, 302, .inl f8u5))]) hD hS hA [17, 5] rfl) (hP.sub (ws' := [(yr 32, .inl (cT 0, 302, .inl f1u6)), (yr 30, .inl (cT 0, 302, .inl f8u5))]) [17, 5] rfl) hK (hD.sub (ws' := [(yr 32, .inl (cT 0, 302, .inl f1u6)), (yr 30, .inl (cT 0, 302, .inl f8u5))]) [17, 5] (by decide) rfl)) rfl rfl hl.1 rfl (lv_room (Nat.le_of_ble_eq_true rfl)) dM_sumSquares_73 ⟨Nat.le_of_ble_eq_true rfl, Nat.le_of_ble_eq_true rfl⟩) (fun u9 H locs hpu7 hP hD hS => ?_)
      obtain ⟨f1u7, rfl⟩ : ∃ q9, q9 = u9 := ⟨_, rfl⟩
      have hpu7 : MN f1u7 (z7u5 * z7u5) := hpu7
      have hP : va_P D vwCl [(yr 4, .inl (cT 0, 48, .inl tg)), (yr 37, .inl (cT 0, 302, .inl ft)), (yr 42, .inl (cT 0, 19, .inl gt)), (yr 0, .inl (cT 0, 19, .inl fp)), (yr 40, .inl (cT 0, 19, .inl g7u5)), (yr 41, .inl (cT 0, 19, .inl g8u5)), (yr 27, .inl (cT 0, 65472, .inl up)), (yr 28, .inl (cT 0, 9424, .inl lw)), (yr 19, .inl (cT 0, 496, .inl nc)), (yr 22, .inl (cT 0, 496, .inl nl)), (yr 23, .inl (cT 0, 496, .inl nr)), (yr 5, .inl (cT 0, 288, .inl vv)), (yr 21, .inl (cT 3, 496, .inl tl)), (yr 26, .inl (cT 3, 496, .inl kd)), (yr 20, .inl (cT 0, 496, .inl ed)), (y, .inr (11, MO yr yi ysb ybs)), (yr 29, .inl (cT 0, 302, .inl f7u5)), (yr 32, .inl (cT 0, 302, .inl f1u6)), (yr 30, .inl (cT 0, 302, .inl f1u7))] _ := hP
      have hD : va_D A [(yr 4, .inl (cT 0, 48, .inl tg)), (yr 37, .inl (cT 0, 302, .inl ft)), (yr 42, .inl (cT 0, 19, .inl gt)), (yr 0, .inl (cT 0, 19, .inl fp)), (yr 40, .inl (cT 0, 19, .inl g7u5)), (yr 41, .inl (cT 0, 19, .inl g8u5)), (yr 27, .inl (cT 0, 65472, .inl up)), (yr 28, .inl (cT 0, 9424, .inl lw)), (yr 19, .inl (cT 0, 496, .inl nc)), (yr 22, .inl (cT 0, 496, .inl nl)), (yr 23, .inl (cT 0, 496, .inl nr)), (yr 5, .inl (cT 0, 288, .inl vv)), (yr 21, .inl (cT 3, 496, .inl tl)), (yr 26, .inl (cT 3, 496, .inl kd)), (yr 20, .inl (cT 0, 496, .inl ed)), (y, .inr (11, MO yr yi ysb ybs)), (yr 29, .inl (cT 0, 302, .inl f7u5)), (yr 32, .inl (cT 0, 302, .inl f1u6)), (yr 30, .inl (cT 0, 302, .inl f1u7))] := hD
      have cN := hpu7
      refine lv_iconst (v := 0) hx hb dM_sumSquares_76 (by decide) ?_
      refine lv_istore hx hb dM_sumSquares_77 hl (by decide) rfl (fun ls hl => ?_)
      have hl : lv_has ls 6 [(5, .int 0), (0, .ref y), (1, .long x), (3, .int (nI nt)), (4, .int (nI r))] := hl
      refine lp_w (α := Nat × (Nat → Int32)) (fun a9 => a9.1 ≤ 19 ∧ (∀ q, q < a9.1 → a9.2 q = nI (2 * dg g7u5 q))) (fun a9 => 19 - a9.1) (fun a9 => [(0, .ref y), (1, .long x), (3, .int (nI nt)), (4, .int (nI r)), (5, .int (nI a9.1))]) (fun a9 => [(yr 4, .inl (cT 0, 48, .inl tg)), (yr 37, .inl (cT 0, 302, .inl ft)), (yr 42, .inl (cT 0, 19, .inl gt)), (yr 0, .inl (cT 0, 19, .inl fp)), (yr 40, .inl (cT 0, 19, .inl g7u5)), (yr 41, .inl (cT 0, 19, .inl a9.2)), (yr 27, .inl (cT 0, 65472, .inl up)), (yr 28, .inl (cT 0, 9424, .inl lw)), (yr 19, .inl (cT 0, 496, .inl nc)), (yr 22, .inl (cT 0, 496, .inl nl)), (yr 23, .inl (cT 0, 496, .inl nr)), (yr 5, .inl (cT 0, 288, .inl vv)), (yr 21, .inl (cT 3, 496, .inl tl)), (yr 26, .inl (cT 3, 496, .inl kd)), (yr 20, .inl (cT 0, 496, .inl ed)), (y, .inr (11, MO yr yi ysb ybs)), (yr 29, .inl (cT 0, 302, .inl f7u5)), (yr 32, .inl (cT 0, 302, .inl f1u6)), (yr 30, .inl (cT 0, 302, .inl f1u7))]) 79 ?_ (0, g8u5) (show 0 ≤ 19 ∧ (∀ q, q < 0 → g8u5 q = nI (2 * dg g7u5 q)) from ⟨by omega, fun q h => absurd h (by omega)⟩) (lv_sub hl [1, 2, 3, 4, 0] rfl) hP hD hS
      intro a9 hI79 ih79 ls H locs hl hP hD hS
      obtain ⟨k, gd⟩ := a9
      have hI79 : k ≤ 19 ∧ (∀ q, q < k → gd q = nI (2 * dg g7u5 q)) := hI79
      obtain ⟨ik9, ig⟩ := hI79
      have hl : lv_has ls 6 [(0, .ref y), (1, .long x), (3, .int (nI nt)), (4, .int (nI r)), (5, .int (nI k))] := hl
      have hP : va_P D vwCl [(yr 4, .inl (cT 0, 48, .inl tg)), (yr 37, .inl (cT 0, 302, .inl ft)), (yr 42, .inl (cT 0, 19, .inl gt)), (yr 0, .inl (cT 0, 19, .inl fp)), (yr 40, .inl (cT 0, 19, .inl g7u5)), (yr 41, .inl (cT 0, 19, .inl gd)), (yr 27, .inl (cT 0, 65472, .inl up)), (yr 28, .inl (cT 0, 9424, .inl lw)), (yr 19, .inl (cT 0, 496, .inl nc)), (yr 22, .inl (cT 0, 496, .inl nl)), (yr 23, .inl (cT 0, 496, .inl nr)), (yr 5, .inl (cT 0, 288, .inl vv)), (yr 21, .inl (cT 3, 496, .inl tl)), (yr 26, .inl (cT 3, 496, .inl kd)), (yr 20, .inl (cT 0, 496, .inl ed)), (y, .inr (11, MO yr yi ysb ybs)), (yr 29, .inl (cT 0, 302, .inl f7u5)), (yr 32, .inl (cT 0, 302, .inl f1u6)), (yr 30, .inl (cT 0, 302, .inl f1u7))] _ := hP
      have hD : va_D A [(yr 4, .inl (cT 0, 48, .inl tg)), (yr 37, .inl (cT 0, 302, .inl ft)), (yr 42, .inl (cT 0, 19, .inl gt)), (yr 0, .inl (cT 0, 19, .inl fp)), (yr 40, .inl (cT 0, 19, .inl g7u5)), (yr 41, .inl (cT 0, 19, .inl gd)), (yr 27, .inl (cT 0, 65472, .inl up)), (yr 28, .inl (cT 0, 9424, .inl lw)), (yr 19, .inl (cT 0, 496, .inl nc)), (yr 22, .inl (cT 0, 496, .inl nl)), (yr 23, .inl (cT 0, 496, .inl nr)), (yr 5, .inl (cT 0, 288, .inl vv)), (yr 21, .inl (cT 3, 496, .inl tl)), (yr 26, .inl (cT 3, 496, .inl kd)), (yr 20, .inl (cT 0, 496, .inl ed)), (y, .inr (11, MO yr yi ysb ybs)), (yr 29, .inl (cT 0, 302, .inl f7u5)), (yr 32, .inl (cT 0, 302, .inl f1u6)), (yr 30, .inl (cT 0, 302, .inl f1u7))] := hD
      refine lv_iload hx hb dM_sumSquares_79 (lv_at hl 4 rfl) ?_
      refine lv_bipush (v := 19) hx hb dM_sumSquares_81 (by decide) ?_
      refine lv_icmp_ge (tgt := 108) hx hb dM_sumSquares_83 rfl (fun h8 => ?_) (fun h8 => ?_)
      · have gh8 : 19 ≤ k := (nI_leI (a := 19) (b := k) (by omega) (by omega)).mp h8
        have ek : k = 19 := by omega
        subst ek
        have hl : lv_has ls 6 [(0, .ref y), (1, .long x), (3, .int (nI nt)), (4, .int (nI r)), (5, .int (nI 19))] := hl
        have hP : va_P D vwCl [(yr 4, .inl (cT 0, 48, .inl tg)), (yr 37, .inl (cT 0, 302, .inl ft)), (yr 42, .inl (cT 0, 19, .inl gt)), (yr 0, .inl (cT 0, 19, .inl fp)), (yr 40, .inl (cT 0, 19, .inl g7u5)), (yr 41, .inl (cT 0, 19, .inl gd)), (yr 27, .inl (cT 0, 65472, .inl up)), (yr 28, .inl (cT 0, 9424, .inl lw)), (yr 19, .inl (cT 0, 496, .inl nc)), (yr 22, .inl (cT 0, 496, .inl nl)), (yr 23, .inl (cT 0, 496, .inl nr)), (yr 5, .inl (cT 0, 288, .inl vv)), (yr 21, .inl (cT 3, 496, .inl tl)), (yr 26, .inl (cT 3, 496, .inl kd)), (yr 20, .inl (cT 0, 496, .inl ed)), (y, .inr (11, MO yr yi ysb ybs)), (yr 29, .inl (cT 0, 302, .inl f7u5)), (yr 32, .inl (cT 0, 302, .inl f1u6)), (yr 30, .inl (cT 0, 302, .inl f1u7))] _ := hP
        have hD : va_D A [(yr 4, .inl (cT 0, 48, .inl tg)), (yr 37, .inl (cT 0, 302, .inl ft)), (yr 42, .inl (cT 0, 19, .inl gt)), (yr 0, .inl (cT 0, 19, .inl fp)), (yr 40, .inl (cT 0, 19, .inl g7u5)), (yr 41, .inl (cT 0, 19, .inl gd)), (yr 27, .inl (cT 0, 65472, .inl up)), (yr 28, .inl (cT 0, 9424, .inl lw)), (yr 19, .inl (cT 0, 496, .inl nc)), (yr 22, .inl (cT 0, 496, .inl nl)), (yr 23, .inl (cT 0, 496, .inl nr)), (yr 5, .inl (cT 0, 288, .inl vv)), (yr 21, .inl (cT 3, 496, .inl tl)), (yr 26, .inl (cT 3, 496, .inl kd)), (yr 20, .inl (cT 0, 496, .inl ed)), (y, .inr (11, MO yr yi ysb ybs)), (yr 29, .inl (cT 0, 302, .inl f7u5)), (yr 32, .inl (cT 0, 302, .inl f1u6)), (yr 30, .inl (cT 0, 302, .inl f1u7))] := hD
        have ig2 : ∀ q, q < 19 → dg gd q = 2 * dg g7u5 q := fun q hq => dg_nI (ig q hq) (by have := (wL q hq).2; omega)
        have dL : LOK gd (2 * bb) := fun q hq => ⟨by rw [ig2 q hq]; exact ig q hq, by rw [ig2 q hq]; have := (wL q hq).2; omega⟩
        have dD : dn gd = dn g7u5 * dn g7u5 := dnk_sq (fun q hq => ig2 q hq)
        have qv := sq_v dD wv
        have dd9 : dn gd ≤ PB * PB := by rw [dD]; exact Nat.mul_le_mul wd wd
        refine lv_aload_n hx hb dM_sumSquares_108 rfl (lv_at hl 0 rfl) ?_
        refine lv_aload_n hx hb dM_sumSquares_109 rfl (lv_at hl 0 rfl) ?_
        refine va_get (D := D) (ci := 11) (v := .ref (yr 37)) (C := R_M) (T := T_M) (N := 60) hx hb hT in_M hown hK hP 15 rfl rfl 37 (by decide) (hT _ w1141) (fun _ h9 => h9) rfl dM_sumSquares_110 ?_
        refine lv_aload_n hx hb dM_sumSquares_113 rfl (lv_at hl 0 rfl) ?_
        refine va_get (D := D) (ci := 11) (v := .ref (yr 42)) (C := R_M) (T := T_M) (N := 60) hx hb hT in_M hown hK hP 15 rfl rfl 42 (by decide) (hT _ w1146) (fun _ h9 => h9) rfl dM_sumSquares_114 ?_
        refine lv_aload_n hx hb dM_sumSquares_117 rfl (lv_at hl 0 rfl) ?_
        refine va_get (D := D) (ci := 11) (v := .ref (yr 30)) (C := R_M) (T := T_M) (N := 60) hx hb hT in_M hown hK hP 15 rfl rfl 30 (by decide) (hT _ w1134) (fun _ h9 => h9) rfl dM_sumSquares_118 ?_
        refine lv_aload_n hx hb dM_sumSquares_121 rfl (lv_at hl 0 rfl) ?_
        refine va_get (D := D) (ci := 11) (v := .ref (yr 41)) (C := R_M) (T := T_M) (N := 60) hx hb hT in_M hown hK hP 15 rfl rfl 41 (by decide) (hT _ w1145) (fun _ h9 => h9) rfl dM_sumSquares_122 ?_
        refine lv_iconst (v := 1) hx hb dM_sumSquares_125 (by decide) ?_
        refine rw_v (wc := [(y, .inr (11, MO yr yi ysb ybs)), (yr 0, .inl (cT 0, 19, .inl fp)), (yr 37, .inl (cT 0, 302, .inl ft)), (yr 42, .inl (cT 0, 19, .inl gt)), (yr 30, .inl (cT 0, 302, .inl f1u7)), (yr 41, .inl (cT 0, 19, .inl gd))]) (wr := [(yr 4, .inl (cT 0, 48, .inl tg)), (yr 40, .inl (cT 0, 19, .inl g7u5)), (yr 27, .inl (cT 0, 65472, .inl up)), (yr 28, .inl (cT 0, 9424, .inl lw)), (yr 19, .inl (cT 0, 496, .inl nc)), (yr 22, .inl (cT 0, 496, .inl nl)), (yr 23, .inl (cT 0, 496, .inl nr)), (yr 5, .inl (cT 0, 288, .inl vv)), (yr 21, .inl (cT 3, 496, .inl tl)), (yr 26, .inl (cT 3, 496, .inl kd)), (yr 20, .inl (cT 0, 496, .inl ed)), (yr 29, .inl (cT 0, 302, .inl f7u5)), (yr 32, .inl (cT 0, 302, .inl f1u6))]) hP hD hS hA [15, 3, 1, 2, 18, 5] [0, 4, 6, 7, 8, 9, 10, 11, 12, 13, 14, 16, 17] rfl rfl (by decide) (by decide) (va_runV (As := [.ref (yr 37), .ref (yr 42), .ref (yr 30), .ref (yr 41), .int 1]) (rest := []) ⟨hx, hb, hml, hown, hT⟩ (m_addF0 l D cT y yr yi ysb ybs fp (yr 37) ft zt (yr 42) gt (yr 30) f1u7 (z7u5 * z7u5) (yr 41) gd (2 * bb) hPR iN iL cN dL (by omega) (sq_fit tz wz2 td dd9 hSB) _) ⟨callB_of 5 hT (tb_gd w1410) rfl rfl rfl (hT _ w13) (hT _ w1407) hM_addFractions ⟨Nat.le_of_ble_eq_true rfl, Nat.le_of_ble_eq_true rfl⟩, (hT _ w1409), (hT _ wp40)⟩ (RW.preV (ci := 11) (q0 := 0) hZ hS (va_free (wc := [(y, .inr (11, MO yr yi ysb ybs)), (yr 0, .inl (cT 0, 19, .inl fp)), (yr 37, .inl (cT 0, 302, .inl ft)), (yr 42, .inl (cT 0, 19, .inl gt)), (yr 30, .inl (cT 0, 302, .inl f1u7)), (yr 41, .inl (cT 0, 19, .inl gd))]) hD hS hA [15, 3, 1, 2, 18, 5] rfl) (hP.sub (ws' := [(y, .inr (11, MO yr yi ysb ybs)), (yr 0, .inl (cT 0, 19, .inl fp)), (yr 37, .inl (cT 0, 302, .inl ft)), (yr 42, .inl (cT 0, 19, .inl gt)), (yr 30, .inl (cT 0, 302, .inl f1u7)), (yr 41, .inl (cT 0, 19, .inl gd))]) [15, 3, 1, 2, 18, 5] rfl) hK (hD.sub (ws' := [(y, .inr (11, MO yr yi ysb ybs)), (yr 0, .inl (cT 0, 19, .inl fp)), (yr 37, .inl (cT 0, 302, .inl ft)), (yr 42, .inl (cT 0, 19, .inl gt)), (yr 30, .inl (cT 0, 302, .inl f1u7)), (yr 41, .inl (cT 0, 19, .inl gd))]) [15, 3, 1, 2, 18, 5] (by decide) rfl) rfl rfl) rfl rfl hl.1 rfl (lv_room (Nat.le_of_ble_eq_true rfl)) dM_sumSquares_126 ⟨Nat.le_of_ble_eq_true rfl, Nat.le_of_ble_eq_true rfl⟩) (fun u9 H locs hpu9 hP hD hS => ?_)
        obtain ⟨z9u9, f9u9, g9u9, fb9u9, gb9u9⟩ := u9
        have hpu9 : MN f9u9 z9u9 ∧ LOK g9u9 (2 * bb) ∧ RED z9u9 g9u9 ∧ z9u9 * ((dn gt * dn gd : Nat) : Int) = (zt * (dn gd : Int) + (z7u5 * z7u5) * (dn gt : Int)) * (dn g9u9 : Int) := hpu9
        have hP : va_P D vwCl [(yr 4, .inl (cT 0, 48, .inl tg)), (yr 40, .inl (cT 0, 19, .inl g7u5)), (yr 27, .inl (cT 0, 65472, .inl up)), (yr 28, .inl (cT 0, 9424, .inl lw)), (yr 19, .inl (cT 0, 496, .inl nc)), (yr 22, .inl (cT 0, 496, .inl nl)), (yr 23, .inl (cT 0, 496, .inl nr)), (yr 5, .inl (cT 0, 288, .inl vv)), (yr 21, .inl (cT 3, 496, .inl tl)), (yr 26, .inl (cT 3, 496, .inl kd)), (yr 20, .inl (cT 0, 496, .inl ed)), (yr 29, .inl (cT 0, 302, .inl f7u5)), (yr 32, .inl (cT 0, 302, .inl f1u6)), (y, .inr (11, MO yr yi ysb ybs)), (yr 0, .inl (cT 0, 19, .inl fp)), (yr 37, .inl (cT 0, 302, .inl f9u9)), (yr 42, .inl (cT 0, 19, .inl g9u9)), (yr 30, .inl (cT 0, 302, .inl fb9u9)), (yr 41, .inl (cT 0, 19, .inl gb9u9))] _ := hP
        have hD : va_D A [(yr 4, .inl (cT 0, 48, .inl tg)), (yr 40, .inl (cT 0, 19, .inl g7u5)), (yr 27, .inl (cT 0, 65472, .inl up)), (yr 28, .inl (cT 0, 9424, .inl lw)), (yr 19, .inl (cT 0, 496, .inl nc)), (yr 22, .inl (cT 0, 496, .inl nl)), (yr 23, .inl (cT 0, 496, .inl nr)), (yr 5, .inl (cT 0, 288, .inl vv)), (yr 21, .inl (cT 3, 496, .inl tl)), (yr 26, .inl (cT 3, 496, .inl kd)), (yr 20, .inl (cT 0, 496, .inl ed)), (yr 29, .inl (cT 0, 302, .inl f7u5)), (yr 32, .inl (cT 0, 302, .inl f1u6)), (y, .inr (11, MO yr yi ysb ybs)), (yr 0, .inl (cT 0, 19, .inl fp)), (yr 37, .inl (cT 0, 302, .inl f9u9)), (yr 42, .inl (cT 0, 19, .inl g9u9)), (yr 30, .inl (cT 0, 302, .inl fb9u9)), (yr 41, .inl (cT 0, 19, .inl gb9u9))] := hD
        obtain ⟨aN, aL, aR, av⟩ := hpu9
        refine lv_iinc (k := 3) (v := nI (r + 1)) hx hb dM_sumSquares_129 hl rfl (nI_1 r) (by decide) rfl (fun ls hl => ?_)
        have hl : lv_has ls 6 [(4, .int (nI (r + 1))), (0, .ref y), (1, .long x), (3, .int (nI nt)), (5, .int (nI 19))] := hl
        refine lv_goto (tgt := 18) hx hb dM_sumSquares_132 rfl ?_
        exact ih18 (r + 1, z9u9, f9u9, g9u9, f1u6, f7u5, g7u5, fb9u9, gb9u9) (show (r + 1) ≤ n ∧ MN f9u9 z9u9 ∧ LOK g9u9 (2 * bb) ∧ RED z9u9 g9u9 ∧ z9u9 * ((Pp nt * Pp nt : Nat) : Int) = smv (fun j8 => X j8 nt * X j8 nt) x (r + 1) * (dn g9u9 : Int) from ⟨by omega, aN, aL, aR, by rw [smv_t gb]; exact sq_a dn_pos dn_pos iv qv av⟩) (show n - (r + 1) < n - r from (by omega)) ls H locs (lv_sub hl [1, 2, 3, 0] rfl) (hP.sub (ws' := [(y, .inr (11, MO yr yi ysb ybs)), (yr 0, .inl (cT 0, 19, .inl fp)), (yr 29, .inl (cT 0, 302, .inl f7u5)), (yr 40, .inl (cT 0, 19, .inl g7u5)), (yr 30, .inl (cT 0, 302, .inl fb9u9)), (yr 41, .inl (cT 0, 19, .inl gb9u9)), (yr 32, .inl (cT 0, 302, .inl f1u6)), (yr 4, .inl (cT 0, 48, .inl tg)), (yr 27, .inl (cT 0, 65472, .inl up)), (yr 28, .inl (cT 0, 9424, .inl lw)), (yr 19, .inl (cT 0, 496, .inl nc)), (yr 22, .inl (cT 0, 496, .inl nl)), (yr 23, .inl (cT 0, 496, .inl nr)), (yr 5, .inl (cT 0, 288, .inl vv)), (yr 21, .inl (cT 3, 496, .inl tl)), (yr 26, .inl (cT 3, 496, .inl kd)), (yr 20, .inl (cT 0, 496, .inl ed)), (yr 37, .inl (cT 0, 302, .inl f9u9)), (yr 42, .inl (cT 0, 19, .inl g9u9))]) [13, 14, 11, 1, 17, 18, 12, 0, 2, 3, 4, 5, 6, 7, 8, 9, 10, 15, 16] rfl) (hD.sub (ws' := [(y, .inr (11, MO yr yi ysb ybs)), (yr 0, .inl (cT 0, 19, .inl fp)), (yr 29, .inl (cT 0, 302, .inl f7u5)), (yr 40, .inl (cT 0, 19, .inl g7u5)), (yr 30, .inl (cT 0, 302, .inl fb9u9)), (yr 41, .inl (cT 0, 19, .inl gb9u9)), (yr 32, .inl (cT 0, 302, .inl f1u6)), (yr 4, .inl (cT 0, 48, .inl tg)), (yr 27, .inl (cT 0, 65472, .inl up)), (yr 28, .inl (cT 0, 9424, .inl lw)), (yr 19, .inl (cT 0, 496, .inl nc)), (yr 22, .inl (cT 0, 496, .inl nl)), (yr 23, .inl (cT 0, 496, .inl nr)), (yr 5, .inl (cT 0, 288, .inl vv)), (yr 21, .inl (cT 3, 496, .inl tl)), (yr 26, .inl (cT 3, 496, .inl kd)), (yr 20, .inl (cT 0, 496, .inl ed)), (yr 37, .inl (cT 0, 302, .inl f9u9)), (yr 42, .inl (cT 0, 19, .inl g9u9))]) [13, 14, 11, 1, 17, 18, 12, 0, 2, 3, 4, 5, 6, 7, 8, 9, 10, 15, 16] (by decide) rfl) hS
      · have gh8 : k < 19 := Nat.not_le.mp (fun q => h8 ((nI_leI (a := 19) (b := k) (by omega) (by omega)).mpr q))
        have hgk := wL k (by omega)
        refine lv_aload_n hx hb dM_sumSquares_86 rfl (lv_at hl 0 rfl) ?_
        refine va_get (D := D) (ci := 11) (v := .ref (yr 41)) (C := R_M) (T := T_M) (N := 60) hx hb hT in_M hown hK hP 15 rfl rfl 41 (by decide) (hT _ w1145) (fun _ h9 => h9) rfl dM_sumSquares_87 ?_
        refine lv_iload hx hb dM_sumSquares_90 (lv_at hl 4 rfl) ?_
        refine lv_iconst (v := 2) hx hb dM_sumSquares_92 (by decide) ?_
        refine lv_aload_n hx hb dM_sumSquares_93 rfl (lv_at hl 0 rfl) ?_
        refine va_get (D := D) (ci := 11) (v := .ref (yr 40)) (C := R_M) (T := T_M) (N := 60) hx hb hT in_M hown hK hP 15 rfl rfl 40 (by decide) (hT _ w1144) (fun _ h9 => h9) rfl dM_sumSquares_94 ?_
        refine lv_iload hx hb dM_sumSquares_97 (lv_at hl 4 rfl) ?_
        refine lq_iald (j := k) hx hb hK hP 4 0 rfl rfl rfl (by omega) (by omega) dM_sumSquares_99 ?_
        refine lv_topi (fun y9 e9 => ?_)
        cases (show y9 = nI (dg g7u5 k) from e9.trans hgk.1)
        refine lv_imul hx hb dM_sumSquares_100 ?_
        refine lv_topi (fun y9 e9 => ?_)
        cases (show y9 = nI (2 * (dg g7u5 k)) from e9.trans (pk_mul 2 (dg g7u5 k)))
        refine lq_iast (j := k) hx hb hK hP hD hS 5 0 rfl rfl rfl (by omega) (by omega) dM_sumSquares_101 (fun H locs hP hD hS => ?_)
        have hP : va_P D vwCl [(yr 4, .inl (cT 0, 48, .inl tg)), (yr 37, .inl (cT 0, 302, .inl ft)), (yr 42, .inl (cT 0, 19, .inl gt)), (yr 0, .inl (cT 0, 19, .inl fp)), (yr 40, .inl (cT 0, 19, .inl g7u5)), (yr 41, .inl (cT 0, 19, .inl (upd gd k (nI (2 * (dg g7u5 k)))))), (yr 27, .inl (cT 0, 65472, .inl up)), (yr 28, .inl (cT 0, 9424, .inl lw)), (yr 19, .inl (cT 0, 496, .inl nc)), (yr 22, .inl (cT 0, 496, .inl nl)), (yr 23, .inl (cT 0, 496, .inl nr)), (yr 5, .inl (cT 0, 288, .inl vv)), (yr 21, .inl (cT 3, 496, .inl tl)), (yr 26, .inl (cT 3, 496, .inl kd)), (yr 20, .inl (cT 0, 496, .inl ed)), (y, .inr (11, MO yr yi ysb ybs)), (yr 29, .inl (cT 0, 302, .inl f7u5)), (yr 32, .inl (cT 0, 302, .inl f1u6)), (yr 30, .inl (cT 0, 302, .inl f1u7))] _ := hP
        have hD : va_D A [(yr 4, .inl (cT 0, 48, .inl tg)), (yr 37, .inl (cT 0, 302, .inl ft)), (yr 42, .inl (cT 0, 19, .inl gt)), (yr 0, .inl (cT 0, 19, .inl fp)), (yr 40, .inl (cT 0, 19, .inl g7u5)), (yr 41, .inl (cT 0, 19, .inl (upd gd k (nI (2 * (dg g7u5 k)))))), (yr 27, .inl (cT 0, 65472, .inl up)), (yr 28, .inl (cT 0, 9424, .inl lw)), (yr 19, .inl (cT 0, 496, .inl nc)), (yr 22, .inl (cT 0, 496, .inl nl)), (yr 23, .inl (cT 0, 496, .inl nr)), (yr 5, .inl (cT 0, 288, .inl vv)), (yr 21, .inl (cT 3, 496, .inl tl)), (yr 26, .inl (cT 3, 496, .inl kd)), (yr 20, .inl (cT 0, 496, .inl ed)), (y, .inr (11, MO yr yi ysb ybs)), (yr 29, .inl (cT 0, 302, .inl f7u5)), (yr 32, .inl (cT 0, 302, .inl f1u6)), (yr 30, .inl (cT 0, 302, .inl f1u7))] := hD
        refine lv_iinc (k := 4) (v := nI (k + 1)) hx hb dM_sumSquares_102 hl rfl (nI_1 k) (by decide) rfl (fun ls hl => ?_)
        have hl : lv_has ls 6 [(5, .int (nI (k + 1))), (0, .ref y), (1, .long x), (3, .int (nI nt)), (4, .int (nI r))] := hl
        refine lv_goto (tgt := 79) hx hb dM_sumSquares_105 rfl ?_
        exact ih79 (k + 1, upd gd k (nI (2 * dg g7u5 k))) (show (k + 1) ≤ 19 ∧ (∀ q, q < (k + 1) → (upd gd k (nI (2 * dg g7u5 k))) q = nI (2 * dg g7u5 q)) from ⟨by omega, fun q h => (by by_cases r9 : q = k; (subst r9; exact pk_us); (exact (pk_un r9).trans (ig q (by omega))))⟩) (show 19 - (k + 1) < 19 - k from (by omega)) ls H locs (lv_sub hl [1, 2, 3, 4, 0] rfl) hP hD hS
set_option maxHeartbeats 4000000 in
set_option maxRecDepth 100000 in
theorem y_err_ok (l : Launch) (D : va_G) (cT : Nat → ClassId) (y : Nat) (yr : Nat → Nat) (yi : Nat → Int32) (ysb : Int64) (ybs : Int64) (fp : Nat → Int32) (nc : Nat → Int32) (nl : Nat → Int32) (nr : Nat → Int32) (tl : Nat → Int32) (kd : Nat → Int32) (ed : Nat → Int32) (vv : Nat → Int32) (up : Nat → Int32) (lw : Nat → Int32) (f0 : Nat → Int32) (g0 : Nat → Int32) (f2 : Nat → Int32) (g2 : Nat → Int32) (ft0 : Nat → Int32) (gt0 : Nat → Int32) (fq0 : Nat → Int32) (T : Nat) (n : Nat) (bb : Nat) (nm : Nat → Nat) (dp : Nat → Nat → Nat) (go : Nat → Nat → Nat → Bool) (lf : Nat → Nat → Nat) (Pp : Nat → Nat) (sc : Nat → Nat) (X : Nat → Nat → Int) (LX : Nat → Nat → Int) (PB : Nat) (XB : Nat) (tg : Nat → Int32) (fo : Nat → Int32) (fd : Nat → Int32) (f30 : Nat → Int32) (x : Int64) (nt : Nat) (hPR : PRI fp) (hn : yi 3 = nI n) (hn48 : n ≤ 48) (hT16 : T ≤ 16) (htg0 : ∀ i, i < n → X i 0 = (tg i).toInt ∧ -1000 ≤ (tg i).toInt ∧ (tg i).toInt ≤ 1000) (hC : ∀ i, i < n → CHN Pp sc (X i) (LX i) true T PB XB) (hBB : XB * PB + XB * (PB * PB) < 268435456 ^ 130) (hT9 : ∀ t, t < T → TWF nc nl nr (dp t) (31 * t) (nm t)) (htl : ∀ q, q < 496 → tl q = 0 ∨ tl q = 1) (hgo : ∀ i, i < n → ∀ t, t < T → ∀ k, k < nm t → ∀ c, c < 6 → nc (31 * t + k) = nI c → go i t k = goB (tl (31 * t + k)) (kd (31 * t + k)) (ed (31 * t + k)) (vv (6 * i + c))) (hlf : ∀ i, i < n → ∀ t, t < T → lf i t = lfw nc nl nr (go i t) (31 * t) 4 0) (hlfb : ∀ i, i < n → ∀ t, t < T → lf i t < 31) (hNF : ∀ i, i < n → ∀ t, t < T → NF up lw bb (31 * t + lf i t) (LX i t) (Pp (t + 1))) (hbb : bb < 2 ^ 29) (hPB0 : 0 < PB) (hSB : 48 * (XB * XB) * (PB * PB) + (XB * XB) * ((PB * PB) * (PB * PB)) < 268435456 ^ 250) (hnt : nt ≤ T) (hPp : ∀ t, t ≤ T → 0 < Pp t ∧ Pp t ≤ PB) (hPP9 : PB * PB < 268435456 ^ 250) (hn0 : 0 ≤ nI nt ∧ nI nt ≤ yi 17) (sz : Nat) : Met l yM_error WM_error ({ frames := 6, cells := 0, slots := 0, locals := 149 } : Room) (RW D vwCl [.ref y, .long x, .int (nI nt)] [(y, .inr (11, MO yr yi ysb ybs)), (yr 0, .inl (cT 0, 19, .inl fp)), (yr 29, .inl (cT 0, 302, .inl f0)), (yr 40, .inl (cT 0, 19, .inl g0)), (yr 30, .inl (cT 0, 302, .inl f2)), (yr 41, .inl (cT 0, 19, .inl g2)), (yr 37, .inl (cT 0, 302, .inl ft0)), (yr 42, .inl (cT 0, 19, .inl gt0)), (yr 32, .inl (cT 0, 302, .inl fq0)), (yr 4, .inl (cT 0, 48, .inl tg)), (yr 27, .inl (cT 0, 65472, .inl up)), (yr 28, .inl (cT 0, 9424, .inl lw)), (yr 19, .inl (cT 0, 496, .inl nc)), (yr 22, .inl (cT 0, 496, .inl nl)), (yr 23, .inl (cT 0, 496, .inl nr)), (yr 5, .inl (cT 0, 288, .inl vv)), (yr 21, .inl (cT 3, 496, .inl tl)), (yr 26, .inl (cT 3, 496, .inl kd)), (yr 20, .inl (cT 0, 496, .inl ed)), (yr 48, .inl (cT 2, 6000, .inl fo)), (yr 49, .inl (cT 2, 3000, .inl fd)), (yr 31, .inl (cT 0, 302, .inl f30))] (TY cT) sz) (va_Qi (fun (r9 : Int32) (u9 : Nat × Int × Nat × (Nat → Int32) × (Nat → Int32) × (Nat → Int32) × (Nat → Int32) × (Nat → Int32) × (Nat → Int32) × (Nat → Int32) × (Nat → Int32) × (Nat → Int32) × (Nat → Int32) × (Nat → Int32)) => r9 = nI u9.1 ∧ u9.1 ≤ 5000 ∧ u9.2.2.2.1 47 = nI u9.1 ∧ u9.2.2.2.1 1 = 0 ∧ YK2 yi u9.2.2.2.1 ∧ RDC (sqs X x n nt) (sqd Pp nt) u9.2.1 u9.2.2.1 ∧ WRT u9.2.2.2.2.1 u9.1 u9.2.1 u9.2.2.1) (BW D vwCl (va_A [(y, .inr (11, MO yr yi ysb ybs)), (yr 0, .inl (cT 0, 19, .inl fp)), (yr 29, .inl (cT 0, 302, .inl f0)), (yr 40, .inl (cT 0, 19, .inl g0)), (yr 30, .inl (cT 0, 302, .inl f2)), (yr 41, .inl (cT 0, 19, .inl g2)), (yr 37, .inl (cT 0, 302, .inl ft0)), (yr 42, .inl (cT 0, 19, .inl gt0)), (yr 32, .inl (cT 0, 302, .inl fq0)), (yr 4, .inl (cT 0, 48, .inl tg)), (yr 27, .inl (cT 0, 65472, .inl up)), (yr 28, .inl (cT 0, 9424, .inl lw)), (yr 19, .inl (cT 0, 496, .inl nc)), (yr 22, .inl (cT 0, 496, .inl nl)), (yr 23, .inl (cT 0, 496, .inl nr)), (yr 5, .inl (cT 0, 288, .inl vv)), (yr 21, .inl (cT 3, 496, .inl tl)), (yr 26, .inl (cT 3, 496, .inl kd)), (yr 20, .inl (cT 0, 496, .inl ed)), (yr 48, .inl (cT 2, 6000, .inl fo)), (yr 49, .inl (cT 2, 3000, .inl fd)), (yr 31, .inl (cT 0, 302, .inl f30))] sz) (fun u9 : Nat × Int × Nat × (Nat → Int32) × (Nat → Int32) × (Nat → Int32) × (Nat → Int32) × (Nat → Int32) × (Nat → Int32) × (Nat → Int32) × (Nat → Int32) × (Nat → Int32) × (Nat → Int32) × (Nat → Int32) => [(y, .inr (11, MO yr u9.2.2.2.1 ysb ybs)), (yr 0, .inl (cT 0, 19, .inl fp)), (yr 29, .inl (cT 0, 302, .inl u9.2.2.2.2.2.2.2.2.2.2.1)), (yr 40, .inl (cT 0, 19, .inl u9.2.2.2.2.2.2.2.2.2.2.2.1)), (yr 30, .inl (cT 0, 302, .inl u9.2.2.2.2.2.2.2.2.2.2.2.2.1)), (yr 41, .inl (cT 0, 19, .inl u9.2.2.2.2.2.2.2.2.2.2.2.2.2)), (yr 37, .inl (cT 0, 302, .inl u9.2.2.2.2.2.2.2.1)), (yr 42, .inl (cT 0, 19, .inl u9.2.2.2.2.2.2.2.2.1)), (yr 32, .inl (cT 0, 302, .inl u9.2.2.2.2.2.2.2.2.2.1)), (yr 4, .inl (cT 0, 48, .inl tg)), (yr 27, .inl (cT 0, 65472, .inl up)), (yr 28, .inl (cT 0, 9424, .inl lw)), (yr 19, .inl (cT 0, 496, .inl nc)), (yr 22, .inl (cT 0, 496, .inl nl)), (yr 23, .inl (cT 0, 496, .inl nr)), (yr 5, .inl (cT 0, 288, .inl vv)), (yr 21, .inl (cT 3, 496, .inl tl)), (yr 26, .inl (cT 3, 496, .inl kd)), (yr 20, .inl (cT 0, 496, .inl ed)), (yr 48, .inl (cT 2, 6000, .inl u9.2.2.2.2.1)), (yr 49, .inl (cT 2, 3000, .inl u9.2.2.2.2.2.1)), (yr 31, .inl (cT 0, 302, .inl u9.2.2.2.2.2.2.1))])) (va_A [(y, .inr (11, MO yr yi ysb ybs)), (yr 0, .inl (cT 0, 19, .inl fp)), (yr 29, .inl (cT 0, 302, .inl f0)), (yr 40, .inl (cT 0, 19, .inl g0)), (yr 30, .inl (cT 0, 302, .inl f2)), (yr 41, .inl (cT 0, 19, .inl g2)), (yr 37, .inl (cT 0, 302, .inl ft0)), (yr 42, .inl (cT 0, 19, .inl gt0)), (yr 32, .inl (cT 0, 302, .inl fq0)), (yr 4, .inl (cT 0, 48, .inl tg)), (yr 27, .inl (cT 0, 65472, .inl up)), (yr 28, .inl (cT 0, 9424, .inl lw)), (yr 19, .inl (cT 0, 496, .inl nc)), (yr 22, .inl (cT 0, 496, .inl nl)), (yr 23, .inl (cT 0, 496, .inl nr)), (yr 5, .inl (cT 0, 288, .inl vv)), (yr 21, .inl (cT 3, 496, .inl tl)), (yr 26, .inl (cT 3, 496, .inl kd)), (yr 20, .inl (cT 0, 496, .inl ed)), (yr 48, .inl (cT 2, 6000, .inl fo)), (yr 49, .inl (cT 2, 3000, .inl fd)), (yr 31, .inl (cT 0, 302, .inl f30))] sz)) 0 0 (va_A [(y, .inr (11, MO yr yi ysb ybs)), (yr 0, .inl (cT 0, 19, .inl fp)), (yr 29, .inl (cT 0, 302, .inl f0)), (yr 40, .inl (cT 0, 19, .inl g0)), (yr 30, .inl (cT 0, 302, .inl f2)), (yr 41, .inl (cT 0, 19, .inl g2)), (yr 37, .inl (cT 0, 302, .inl ft0)), (yr 42, .inl (cT 0, 19, .inl gt0)), (yr 32, .inl (cT 0, 302, .inl fq0)), (yr 4, .inl (cT 0, 48, .inl tg)), (yr 27, .inl (cT 0, 65472, .inl up)), (yr 28, .inl (cT 0, 9424, .inl lw)), (yr 19, .inl (cT 0, 496, .inl nc)), (yr 22, .inl (cT 0, 496, .inl nl)), (yr 23, .inl (cT 0, 496, .inl nr)), (yr 5, .inl (cT 0, 288, .inl vv)), (yr 21, .inl (cT 3, 496, .inl tl)), (yr 26, .inl (cT 3, 496, .inl kd)), (yr 20, .inl (cT 0, 496, .inl ed)), (yr 48, .inl (cT 2, 6000, .inl fo)), (yr 49, .inl (cT 2, 3000, .inl fd)), (yr 31, .inl (cT 0, 302, .inl f30))] sz) := by
  refine Met.ofW (cc := cM_error) (maxL := 4) (ret := (some .int)) (by decide) rfl ?_
  intro p e s m args below meth c s₁ B hml hv
  obtain ⟨rfl, hsz, hZ, hP, hK, hD0⟩ := hv
  have hx := B.exec
  have hb := B.bytes
  have hr := B.returns
  have hts := atoms_spec (ws := WM_error) B.pre
  have hT : ∀ w ∈ TB, w.before _ s = true := fun w h => hts w (List.mem_cons_of_mem _ h)
  have hown : s.vm.findClass R_M = some m.cls := findClass_of_methodNamed B.named
  have hlocks := B.notSynchronized
  subst hsz
  have hD := hD0.self (sz := s.heap.size)
  generalize hAe : va_A [(y, .inr (11, MO yr yi ysb ybs)), (yr 0, .inl (cT 0, 19, .inl fp)), (yr 29, .inl (cT 0, 302, .inl f0)), (yr 40, .inl (cT 0, 19, .inl g0)), (yr 30, .inl (cT 0, 302, .inl f2)), (yr 41, .inl (cT 0, 19, .inl g2)), (yr 37, .inl (cT 0, 302, .inl ft0)), (yr 42, .inl (cT 0, 19, .inl gt0)), (yr 32, .inl (cT 0, 302, .inl fq0)), (yr 4, .inl (cT 0, 48, .inl tg)), (yr 27, .inl (cT 0, 65472, .inl up)), (yr 28, .inl (cT 0, 9424, .inl lw)), (yr 19, .inl (cT 0, 496, .inl nc)), (yr 22, .inl (cT 0, 496, .inl nl)), (yr 23, .inl (cT 0, 496, .inl nr)), (yr 5, .inl (cT 0, 288, .inl vv)), (yr 21, .inl (cT 3, 496, .inl tl)), (yr 26, .inl (cT 3, 496, .inl kd)), (yr 20, .inl (cT 0, 496, .inl ed)), (yr 48, .inl (cT 2, 6000, .inl fo)), (yr 49, .inl (cT 2, 3000, .inl fd)), (yr 31, .inl (cT 0, 302, .inl f30))] s.heap.size = A at hD hZ ⊢
  have hA : ∀ q : Nat, s.heap.size ≤ q → A q := fun q h => by rw [← hAe]; exact Or.inr h
  have hS : va_S A s.heap s.heap [] := va_S.rf
  have hl := lv_entry ([.ref y, .long x, .int (nI nt)]) (n := 4) (Nat.le_of_ble_eq_true rfl)
  rw [lg_entry_eq]
  generalize (lg_sl ([.ref y, .long x, .int (nI nt)]) ++ List.replicate (4 - (lg_sl ([.ref y, .long x, .int (nI nt)])).length) Slot.unset).toArray = ls at hl ⊢
  have hl : lv_has ls 4 [(0, .ref y), (1, .long x), (3, .int (nI nt))] := hl
  refine lv_aload_n hx hb dM_error_0 rfl (lv_at hl 0 rfl) ?_
  refine lv_iload_n hx hb dM_error_1 rfl (lv_at hl 2 rfl) ?_
  refine lv_iconst (v := 0) hx hb dM_error_2 (by decide) ?_
  refine lv_aload_n hx hb dM_error_3 rfl (lv_at hl 0 rfl) ?_
  refine va_get (D := D) (ci := 11) (v := .int (yi 17)) (C := R_M) (T := T_M) (N := 60) hx hb hT in_M hown hK hP 0 rfl rfl 17 (by decide) (hT _ w1121) (fun _ h9 => h9) rfl dM_error_4 ?_
  refine ro_i (va_Run.run (va_runS (As := [.int (nI nt), .int 0, .int (yi 17)]) (rest := [.ref y]) ⟨hx, hb, hml, hown, hT⟩ (m_in l D cT (nI nt) 0 (yi 17)) ⟨callB_of 3 hT (tb_gd w1297) rfl rfl rfl (hT _ w13) (hT _ w1295) hM_in ⟨Nat.le_of_ble_eq_true rfl, Nat.le_of_ble_eq_true rfl⟩, (hT _ w1296)⟩ (RO.preS hZ hS ((show va_P D vwCl [] _ from fun _ _ h => nomatch h)) hK) rfl rfl hl.1 rfl (lv_room (Nat.le_of_ble_eq_true rfl)) dM_error_7 ⟨Nat.le_of_ble_eq_true rfl, Nat.le_of_ble_eq_true rfl⟩)) ?_
  refine lv_if_eq (tgt := 17) hx hb dM_error_10 rfl (fun h1 => absurd h1 (by rw [bi_t hn0]; decide)) (fun _ => ?_)
  refine lv_iconst (v := 0) hx hb dM_error_13 (by decide) ?_
  refine lv_goto (tgt := 18) hx hb dM_error_14 rfl ?_
  refine rw_i (wc := [(y, .inr (11, MO yr yi ysb ybs))]) (wr := [(yr 0, .inl (cT 0, 19, .inl fp)), (yr 29, .inl (cT 0, 302, .inl f0)), (yr 40, .inl (cT 0, 19, .inl g0)), (yr 30, .inl (cT 0, 302, .inl f2)), (yr 41, .inl (cT 0, 19, .inl g2)), (yr 37, .inl (cT 0, 302, .inl ft0)), (yr 42, .inl (cT 0, 19, .inl gt0)), (yr 32, .inl (cT 0, 302, .inl fq0)), (yr 4, .inl (cT 0, 48, .inl tg)), (yr 27, .inl (cT 0, 65472, .inl up)), (yr 28, .inl (cT 0, 9424, .inl lw)), (yr 19, .inl (cT 0, 496, .inl nc)), (yr 22, .inl (cT 0, 496, .inl nl)), (yr 23, .inl (cT 0, 496, .inl nr)), (yr 5, .inl (cT 0, 288, .inl vv)), (yr 21, .inl (cT 3, 496, .inl tl)), (yr 26, .inl (cT 3, 496, .inl kd)), (yr 20, .inl (cT 0, 496, .inl ed)), (yr 48, .inl (cT 2, 6000, .inl fo)), (yr 49, .inl (cT 2, 3000, .inl fd)), (yr 31, .inl (cT 0, 302, .inl f30))]) hP hD hS hA [0] [1, 2, 3, 4, 5, 6, 7, 8, 9, 10, 11, 12, 13, 14, 15, 16, 17, 18, 19, 20, 21] rfl rfl (by decide) (by decide) (va_runV (As := [.int 0]) (rest := []) ⟨hx, hb, hml, hown, hT⟩ (m_ref0 l D cT y yr yi ysb ybs _) ⟨callB_of 1 hT (tb_gd w1301) rfl rfl rfl (hT _ w13) (hT _ w1298) hM_refused ⟨Nat.le_of_ble_eq_true rfl, Nat.le_of_ble_eq_true rfl⟩, (hT _ w1300), (hT _ wp29)⟩ (RW.preV (ci := 11) (q0 := 0) hZ hS (va_free (wc := [(y, .inr (11, MO yr yi ysb ybs))]) hD hS hA [0] rfl) (hP.sub (ws' := [(y, .inr (11, MO yr yi ysb ybs))]) [0] rfl) hK (hD.sub (ws' := [(y, .inr (11, MO yr yi ysb ybs))]) [0] (by decide) rfl) rfl rfl) rfl rfl hl.1 rfl (lv_room (Nat.le_of_ble_eq_true rfl)) dM_error_18 ⟨Nat.le_of_ble_eq_true rfl, Nat.le_of_ble_eq_true rfl⟩) (fun ru2 u9 H locs hpu2 hP hD hS => ?_)
  have hpu2 : ru2 = 0 := hpu2
  have hP : va_P D vwCl [(yr 0, .inl (cT 0, 19, .inl fp)), (yr 29, .inl (cT 0, 302, .inl f0)), (yr 40, .inl (cT 0, 19, .inl g0)), (yr 30, .inl (cT 0, 302, .inl f2)), (yr 41, .inl (cT 0, 19, .inl g2)), (yr 37, .inl (cT 0, 302, .inl ft0)), (yr 42, .inl (cT 0, 19, .inl gt0)), (yr 32, .inl (cT 0, 302, .inl fq0)), (yr 4, .inl (cT 0, 48, .inl tg)), (yr 27, .inl (cT 0, 65472, .inl up)), (yr 28, .inl (cT 0, 9424, .inl lw)), (yr 19, .inl (cT 0, 496, .inl nc)), (yr 22, .inl (cT 0, 496, .inl nl)), (yr 23, .inl (cT 0, 496, .inl nr)), (yr 5, .inl (cT 0, 288, .inl vv)), (yr 21, .inl (cT 3, 496, .inl tl)), (yr 26, .inl (cT 3, 496, .inl kd)), (yr 20, .inl (cT 0, 496, .inl ed)), (yr 48, .inl (cT 2, 6000, .inl fo)), (yr 49, .inl (cT 2, 3000, .inl fd)), (yr 31, .inl (cT 0, 302, .inl f30)), (y, .inr (11, MO yr (va_up yi 1 0) ysb ybs))] _ := hP
  have hD : va_D A [(yr 0, .inl (cT 0, 19, .inl fp)), (yr 29, .inl (cT 0, 302, .inl f0)), (yr 40, .inl (cT 0, 19, .inl g0)), (yr 30, .inl (cT 0, 302, .inl f2)), (yr 41, .inl (cT 0, 19, .inl g2)), (yr 37, .inl (cT 0, 302, .inl ft0)), (yr 42, .inl (cT 0, 19, .inl gt0)), (yr 32, .inl (cT 0, 302, .inl fq0)), (yr 4, .inl (cT 0, 48, .inl tg)), (yr 27, .inl (cT 0, 65472, .inl up)), (yr 28, .inl (cT 0, 9424, .inl lw)), (yr 19, .inl (cT 0, 496, .inl nc)), (yr 22, .inl (cT 0, 496, .inl nl)), (yr 23, .inl (cT 0, 496, .inl nr)), (yr 5, .inl (cT 0, 288, .inl vv)), (yr 21, .inl (cT 3, 496, .inl tl)), (yr 26, .inl (cT 3, 496, .inl kd)), (yr 20, .inl (cT 0, 496, .inl ed)), (yr 48, .inl (cT 2, 6000, .inl fo)), (yr 49, .inl (cT 2, 3000, .inl fd)), (yr 31, .inl (cT 0, 302, .inl f30)), (y, .inr (11, MO yr (va_up yi 1 0) ysb ybs))] := hD
  refine lv_topi (fun y9 e9 => ?_)
  cases (show y9 = 0 from e9.trans hpu2)
  refine lv_if_eq (tgt := 26) hx hb dM_error_21 rfl (fun _ => ?_) (fun h3 => absurd (by decide) h3)
  refine lv_aload_n hx hb dM_error_26 rfl (lv_at hl 0 rfl) ?_
  refine lv_lload_n hx hb dM_error_27 rfl (lv_at hl 1 rfl) ?_
  refine lv_iload_n hx hb dM_error_28 rfl (lv_at hl 2 rfl) ?_
  refine rw_v (wc := [(y, .inr (11, MO yr (va_up yi 1 0) ysb ybs)), (yr 0, .inl (cT 0, 19, .inl fp)), (yr 29, .inl (cT 0, 302, .inl f0)), (yr 40, .inl (cT 0, 19, .inl g0)), (yr 30, .inl (cT 0, 302, .inl f2)), (yr 41, .inl (cT 0, 19, .inl g2)), (yr 37, .inl (cT 0, 302, .inl ft0)), (yr 42, .inl (cT 0, 19, .inl gt0)), (yr 32, .inl (cT 0, 302, .inl fq0)), (yr 4, .inl (cT 0, 48, .inl tg)), (yr 27, .inl (cT 0, 65472, .inl up)), (yr 28, .inl (cT 0, 9424, .inl lw)), (yr 19, .inl (cT 0, 496, .inl nc)), (yr 22, .inl (cT 0, 496, .inl nl)), (yr 23, .inl (cT 0, 496, .inl nr)), (yr 5, .inl (cT 0, 288, .inl vv)), (yr 21, .inl (cT 3, 496, .inl tl)), (yr 26, .inl (cT 3, 496, .inl kd)), (yr 20, .inl (cT 0, 496, .inl ed))]) (wr := [(yr 48, .inl (cT 2, 6000, .inl fo)), (yr 49, .inl (cT 2, 3000, .inl fd)), (yr 31, .inl (cT 0, 302, .inl f30))]) hP hD hS hA [21, 0, 1, 2, 3, 4, 5, 6, 7, 8, 9, 10, 11, 12, 13, 14, 15, 16, 17] [18, 19, 20] rfl rfl (by decide) (by decide) (va_runV (As := [.long x, .int (nI nt)]) (rest := []) ⟨hx, hb, hml, hown, hT⟩ (m_ssq l D cT y yr (va_up yi 1 0) ysb ybs fp nc nl nr tl kd ed vv up lw f0 g0 f2 g2 ft0 gt0 fq0 T n bb nm dp go lf Pp sc X LX PB XB tg x nt hPR (yu (by decide) hn) hn48 hT16 htg0 hC hBB hT9 htl hgo hlf hlfb hNF hbb hPB0 hSB hnt _) ⟨callB_of 2 hT (tb_gd w1583) rfl rfl rfl (hT _ w13) (hT _ w1580) hM_sumSquares ⟨Nat.le_of_ble_eq_true rfl, Nat.le_of_ble_eq_true rfl⟩, (hT _ w1582), (hT _ wp64)⟩ (RW.preV (ci := 11) (q0 := 0) hZ hS (va_free (wc := [(y, .inr (11, MO yr (va_up yi 1 0) ysb ybs)), (yr 0, .inl (cT 0, 19, .inl fp)), (yr 29, .inl (cT 0, 302, .inl f0)), (yr 40, .inl (cT 0, 19, .inl g0)), (yr 30, .inl (cT 0, 302, .inl f2)), (yr 41, .inl (cT 0, 19, .inl g2)), (yr 37, .inl (cT 0, 302, .inl ft0)), (yr 42, .inl (cT 0, 19, .inl gt0)), (yr 32, .inl (cT 0, 302, .inl fq0)), (yr 4, .inl (cT 0, 48, .inl tg)), (yr 27, .inl (cT 0, 65472, .inl up)), (yr 28, .inl (cT 0, 9424, .inl lw)), (yr 19, .inl (cT 0, 496, .inl nc)), (yr 22, .inl (cT 0, 496, .inl nl)), (yr 23, .inl (cT 0, 496, .inl nr)), (yr 5, .inl (cT 0, 288, .inl vv)), (yr 21, .inl (cT 3, 496, .inl tl)), (yr 26, .inl (cT 3, 496, .inl kd)), (yr 20, .inl (cT 0, 496, .inl ed))]) hD hS hA [21, 0, 1, 2, 3, 4, 5, 6, 7, 8, 9, 10, 11, 12, 13, 14, 15, 16, 17] rfl) (hP.sub (ws' := [(y, .inr (11, MO yr (va_up yi 1 0) ysb ybs)), (yr 0, .inl (cT 0, 19, .inl fp)), (yr 29, .inl (cT 0, 302, .inl f0)), (yr 40, .inl (cT 0, 19, .inl g0)), (yr 30, .inl (cT 0, 302, .inl f2)), (yr 41, .inl (cT 0, 19, .inl g2)), (yr 37, .inl (cT 0, 302, .inl ft0)), (yr 42, .inl (cT 0, 19, .inl gt0)), (yr 32, .inl (cT 0, 302, .inl fq0)), (yr 4, .inl (cT 0, 48, .inl tg)), (yr 27, .inl (cT 0, 65472, .inl up)), (yr 28, .inl (cT 0, 9424, .inl lw)), (yr 19, .inl (cT 0, 496, .inl nc)), (yr 22, .inl (cT 0, 496, .inl nl)), (yr 23, .inl (cT 0, 496, .inl nr)), (yr 5, .inl (cT 0, 288, .inl vv)), (yr 21, .inl (cT 3, 496, .inl tl)), (yr 26, .inl (cT 3, 496, .inl kd)), (yr 20, .inl (cT 0, 496, .inl ed))]) [21, 0, 1, 2, 3, 4, 5, 6, 7, 8, 9, 10, 11, 12, 13, 14, 15, 16, 17] rfl) hK (hD.sub (ws' := [(y, .inr (11, MO yr (va_up yi 1 0) ysb ybs)), (yr 0, .inl (cT 0, 19, .inl fp)), (yr 29, .inl (cT 0, 302, .inl f0)), (yr 40, .inl (cT 0, 19, .inl g0)), (yr 30, .inl (cT 0, 302, .inl f2)), (yr 41, .inl (cT 0, 19, .inl g2)), (yr 37, .inl (cT 0, 302, .inl ft0)), (yr 42, .inl (cT 0, 19, .inl gt0)), (yr 32, .inl (cT 0, 302, .inl fq0)), (yr 4, .inl (cT 0, 48, .inl tg)), (yr 27, .inl (cT 0, 65472, .inl up)), (yr 28, .inl (cT 0, 9424, .inl lw)), (yr 19, .inl (cT 0, 496, .inl nc)), (yr 22, .inl (cT 0, 496, .inl nl)), (yr 23, .inl (cT 0, 496, .inl nr)), (yr 5, .inl (cT 0, 288, .inl vv)), (yr 21, .inl (cT 3, 496, .inl tl)), (yr 26, .inl (cT 3, 496, .inl kd)), (yr 20, .inl (cT 0, 496, .inl ed))]) [21, 0, 1, 2, 3, 4, 5, 6, 7, 8, 9, 10, 11, 12, 13, 14, 15, 16, 17] (by decide) rfl) rfl rfl) rfl rfl hl.1 rfl (lv_room (Nat.le_of_ble_eq_true rfl)) dM_error_29 ⟨Nat.le_of_ble_eq_true rfl, Nat.le_of_ble_eq_true rfl⟩) (fun u9 H locs hpu4 hP hD hS => ?_)
  obtain ⟨zt7u4, ft7u4, gt7u4, fq7u4, f7u4, g7u4, f8u4, g8u4⟩ := u9
  have hpu4 : MN ft7u4 zt7u4 ∧ LOK gt7u4 (2 * bb) ∧ RED zt7u4 gt7u4 ∧ zt7u4 * ((sqd Pp nt : Nat) : Int) = sqs X x n nt * (dn gt7u4 : Int) := hpu4
  have hP : va_P D vwCl [(yr 48, .inl (cT 2, 6000, .inl fo)), (yr 49, .inl (cT 2, 3000, .inl fd)), (yr 31, .inl (cT 0, 302, .inl f30)), (y, .inr (11, MO yr (va_up yi 1 0) ysb ybs)), (yr 0, .inl (cT 0, 19, .inl fp)), (yr 29, .inl (cT 0, 302, .inl f7u4)), (yr 40, .inl (cT 0, 19, .inl g7u4)), (yr 30, .inl (cT 0, 302, .inl f8u4)), (yr 41, .inl (cT 0, 19, .inl g8u4)), (yr 37, .inl (cT 0, 302, .inl ft7u4)), (yr 42, .inl (cT 0, 19, .inl gt7u4)), (yr 32, .inl (cT 0, 302, .inl fq7u4)), (yr 4, .inl (cT 0, 48, .inl tg)), (yr 27, .inl (cT 0, 65472, .inl up)), (yr 28, .inl (cT 0, 9424, .inl lw)), (yr 19, .inl (cT 0, 496, .inl nc)), (yr 22, .inl (cT 0, 496, .inl nl)), (yr 23, .inl (cT 0, 496, .inl nr)), (yr 5, .inl (cT 0, 288, .inl vv)), (yr 21, .inl (cT 3, 496, .inl tl)), (yr 26, .inl (cT 3, 496, .inl kd)), (yr 20, .inl (cT 0, 496, .inl ed))] _ := hP
  have hD : va_D A [(yr 48, .inl (cT 2, 6000, .inl fo)), (yr 49, .inl (cT 2, 3000, .inl fd)), (yr 31, .inl (cT 0, 302, .inl f30)), (y, .inr (11, MO yr (va_up yi 1 0) ysb ybs)), (yr 0, .inl (cT 0, 19, .inl fp)), (yr 29, .inl (cT 0, 302, .inl f7u4)), (yr 40, .inl (cT 0, 19, .inl g7u4)), (yr 30, .inl (cT 0, 302, .inl f8u4)), (yr 41, .inl (cT 0, 19, .inl g8u4)), (yr 37, .inl (cT 0, 302, .inl ft7u4)), (yr 42, .inl (cT 0, 19, .inl gt7u4)), (yr 32, .inl (cT 0, 302, .inl fq7u4)), (yr 4, .inl (cT 0, 48, .inl tg)), (yr 27, .inl (cT 0, 65472, .inl up)), (yr 28, .inl (cT 0, 9424, .inl lw)), (yr 19, .inl (cT 0, 496, .inl nc)), (yr 22, .inl (cT 0, 496, .inl nl)), (yr 23, .inl (cT 0, 496, .inl nr)), (yr 5, .inl (cT 0, 288, .inl vv)), (yr 21, .inl (cT 3, 496, .inl tl)), (yr 26, .inl (cT 3, 496, .inl kd)), (yr 20, .inl (cT 0, 496, .inl ed))] := hD
  obtain ⟨wN, wL, wR, wv⟩ := hpu4
  have hPt : 0 < Pp nt ∧ Pp nt ≤ PB := hPp nt hnt
  have wb := red_le (Nat.mul_pos hPt.1 hPt.1) wR wv
  have wz := Nat.le_trans wb.1 (sqs_le (x := x) (fun i hi => ((hC i hi).2.2 nt hnt).2.2) hn48 n (Nat.le_refl _))
  have wd := Nat.le_trans wb.2 (Nat.mul_le_mul hPt.2 hPt.2)
  refine lv_aload_n hx hb dM_error_32 rfl (lv_at hl 0 rfl) ?_
  refine lv_aload_n hx hb dM_error_33 rfl (lv_at hl 0 rfl) ?_
  refine va_get (D := D) (ci := 11) (v := .ref (yr 37)) (C := R_M) (T := T_M) (N := 60) hx hb hT in_M hown hK hP 3 rfl rfl 37 (by decide) (hT _ w1141) (fun _ h9 => h9) rfl dM_error_34 ?_
  refine lv_aload_n hx hb dM_error_37 rfl (lv_at hl 0 rfl) ?_
  refine va_get (D := D) (ci := 11) (v := .ref (yr 42)) (C := R_M) (T := T_M) (N := 60) hx hb hT in_M hown hK hP 3 rfl rfl 42 (by decide) (hT _ w1146) (fun _ h9 => h9) rfl dM_error_38 ?_
  refine rw_i (wc := [(y, .inr (11, MO yr (va_up yi 1 0) ysb ybs)), (yr 0, .inl (cT 0, 19, .inl fp)), (yr 48, .inl (cT 2, 6000, .inl fo)), (yr 49, .inl (cT 2, 3000, .inl fd)), (yr 31, .inl (cT 0, 302, .inl f30)), (yr 37, .inl (cT 0, 302, .inl ft7u4)), (yr 42, .inl (cT 0, 19, .inl gt7u4))]) (wr := [(yr 29, .inl (cT 0, 302, .inl f7u4)), (yr 40, .inl (cT 0, 19, .inl g7u4)), (yr 30, .inl (cT 0, 302, .inl f8u4)), (yr 41, .inl (cT 0, 19, .inl g8u4)), (yr 32, .inl (cT 0, 302, .inl fq7u4)), (yr 4, .inl (cT 0, 48, .inl tg)), (yr 27, .inl (cT 0, 65472, .inl up)), (yr 28, .inl (cT 0, 9424, .inl lw)), (yr 19, .inl (cT 0, 496, .inl nc)), (yr 22, .inl (cT 0, 496, .inl nl)), (yr 23, .inl (cT 0, 496, .inl nr)), (yr 5, .inl (cT 0, 288, .inl vv)), (yr 21, .inl (cT 3, 496, .inl tl)), (yr 26, .inl (cT 3, 496, .inl kd)), (yr 20, .inl (cT 0, 496, .inl ed))]) hP hD hS hA [3, 4, 0, 1, 2, 9, 10] [5, 6, 7, 8, 11, 12, 13, 14, 15, 16, 17, 18, 19, 20, 21] rfl rfl (by decide) (by decide) (va_runV (As := [.ref (yr 37), .ref (yr 42)]) (rest := []) ⟨hx, hb, hml, hown, hT⟩ (m_write l D cT y yr (va_up yi 1 0) ysb ybs fp fo fd f30 (yr 37) ft7u4 zt7u4 (yr 42) gt7u4 (2 * bb) hPR wN wL (by omega) (sq_fit2 wz (Nat.mul_pos hPB0 hPB0) hSB) (Nat.lt_of_le_of_lt wd hPP9) _) ⟨callB_of 2 hT (tb_gd w1559) rfl rfl rfl (hT _ w13) (hT _ w1556) hM_write ⟨Nat.le_of_ble_eq_true rfl, Nat.le_of_ble_eq_true rfl⟩, (hT _ w1558), (hT _ wp62)⟩ (RW.preV (ci := 11) (q0 := 0) hZ hS (va_free (wc := [(y, .inr (11, MO yr (va_up yi 1 0) ysb ybs)), (yr 0, .inl (cT 0, 19, .inl fp)), (yr 48, .inl (cT 2, 6000, .inl fo)), (yr 49, .inl (cT 2, 3000, .inl fd)), (yr 31, .inl (cT 0, 302, .inl f30)), (yr 37, .inl (cT 0, 302, .inl ft7u4)), (yr 42, .inl (cT 0, 19, .inl gt7u4))]) hD hS hA [3, 4, 0, 1, 2, 9, 10] rfl) (hP.sub (ws' := [(y, .inr (11, MO yr (va_up yi 1 0) ysb ybs)), (yr 0, .inl (cT 0, 19, .inl fp)), (yr 48, .inl (cT 2, 6000, .inl fo)), (yr 49, .inl (cT 2, 3000, .inl fd)), (yr 31, .inl (cT 0, 302, .inl f30)), (yr 37, .inl (cT 0, 302, .inl ft7u4)), (yr 42, .inl (cT 0, 19, .inl gt7u4))]) [3, 4, 0, 1, 2, 9, 10] rfl) hK (hD.sub (ws' := [(y, .inr (11, MO yr (va_up yi 1 0) ysb ybs)), (yr 0, .inl (cT 0, 19, .inl fp)), (yr 48, .inl (cT 2, 6000, .inl fo)), (yr 49, .inl (cT 2, 3000, .inl fd)), (yr 31, .inl (cT 0, 302, .inl f30)), (yr 37, .inl (cT 0, 302, .inl ft7u4)), (yr 42, .inl (cT 0, 19, .inl gt7u4))]) [3, 4, 0, 1, 2, 9, 10] (by decide) rfl) rfl rfl) rfl rfl hl.1 rfl (lv_room (Nat.le_of_ble_eq_true rfl)) dM_error_41 ⟨Nat.le_of_ble_eq_true rfl, Nat.le_of_ble_eq_true rfl⟩) (fun ru5 u9 H locs hpu5 hP hD hS => ?_)
  obtain ⟨L7u5, yi7u5, fo7u5, fd7u5, f7u5, f37u5⟩ := u9
  have hpu5 : ru5 = nI L7u5 ∧ L7u5 ≤ 5000 ∧ yi7u5 47 = nI L7u5 ∧ WRT fo7u5 L7u5 zt7u4 (dn gt7u4) ∧ ∀ j8, j8 ≠ 47 → yi7u5 j8 = (va_up yi 1 0) j8 := hpu5
  have hP : va_P D vwCl [(yr 29, .inl (cT 0, 302, .inl f7u4)), (yr 40, .inl (cT 0, 19, .inl g7u4)), (yr 30, .inl (cT 0, 302, .inl f8u4)), (yr 41, .inl (cT 0, 19, .inl g8u4)), (yr 32, .inl (cT 0, 302, .inl fq7u4)), (yr 4, .inl (cT 0, 48, .inl tg)), (yr 27, .inl (cT 0, 65472, .inl up)), (yr 28, .inl (cT 0, 9424, .inl lw)), (yr 19, .inl (cT 0, 496, .inl nc)), (yr 22, .inl (cT 0, 496, .inl nl)), (yr 23, .inl (cT 0, 496, .inl nr)), (yr 5, .inl (cT 0, 288, .inl vv)), (yr 21, .inl (cT 3, 496, .inl tl)), (yr 26, .inl (cT 3, 496, .inl kd)), (yr 20, .inl (cT 0, 496, .inl ed)), (y, .inr (11, MO yr yi7u5 ysb ybs)), (yr 0, .inl (cT 0, 19, .inl fp)), (yr 48, .inl (cT 2, 6000, .inl fo7u5)), (yr 49, .inl (cT 2, 3000, .inl fd7u5)), (yr 31, .inl (cT 0, 302, .inl f37u5)), (yr 37, .inl (cT 0, 302, .inl f7u5)), (yr 42, .inl (cT 0, 19, .inl gt7u4))] _ := hP
  have hD : va_D A [(yr 29, .inl (cT 0, 302, .inl f7u4)), (yr 40, .inl (cT 0, 19, .inl g7u4)), (yr 30, .inl (cT 0, 302, .inl f8u4)), (yr 41, .inl (cT 0, 19, .inl g8u4)), (yr 32, .inl (cT 0, 302, .inl fq7u4)), (yr 4, .inl (cT 0, 48, .inl tg)), (yr 27, .inl (cT 0, 65472, .inl up)), (yr 28, .inl (cT 0, 9424, .inl lw)), (yr 19, .inl (cT 0, 496, .inl nc)), (yr 22, .inl (cT 0, 496, .inl nl)), (yr 23, .inl (cT 0, 496, .inl nr)), (yr 5, .inl (cT 0, 288, .inl vv)), (yr 21, .inl (cT 3, 496, .inl tl)), (yr 26, .inl (cT 3, 496, .inl kd)), (yr 20, .inl (cT 0, 496, .inl ed)), (y, .inr (11, MO yr yi7u5 ysb ybs)), (yr 0, .inl (cT 0, 19, .inl fp)), (yr 48, .inl (cT 2, 6000, .inl fo7u5)), (yr 49, .inl (cT 2, 3000, .inl fd7u5)), (yr 31, .inl (cT 0, 302, .inl f37u5)), (yr 37, .inl (cT 0, 302, .inl f7u5)), (yr 42, .inl (cT 0, 19, .inl gt7u4))] := hD
  have hP9 := hP.sub (ws' := [(y, .inr (11, MO yr yi7u5 ysb ybs)), (yr 0, .inl (cT 0, 19, .inl fp)), (yr 29, .inl (cT 0, 302, .inl f7u4)), (yr 40, .inl (cT 0, 19, .inl g7u4)), (yr 30, .inl (cT 0, 302, .inl f8u4)), (yr 41, .inl (cT 0, 19, .inl g8u4)), (yr 37, .inl (cT 0, 302, .inl f7u5)), (yr 42, .inl (cT 0, 19, .inl gt7u4)), (yr 32, .inl (cT 0, 302, .inl fq7u4)), (yr 4, .inl (cT 0, 48, .inl tg)), (yr 27, .inl (cT 0, 65472, .inl up)), (yr 28, .inl (cT 0, 9424, .inl lw)), (yr 19, .inl (cT 0, 496, .inl nc)), (yr 22, .inl (cT 0, 496, .inl nl)), (yr 23, .inl (cT 0, 496, .inl nr)), (yr 5, .inl (cT 0, 288, .inl vv)), (yr 21, .inl (cT 3, 496, .inl tl)), (yr 26, .inl (cT 3, 496, .inl kd)), (yr 20, .inl (cT 0, 496, .inl ed)), (yr 48, .inl (cT 2, 6000, .inl fo7u5)), (yr 49, .inl (cT 2, 3000, .inl fd7u5)), (yr 31, .inl (cT 0, 302, .inl f37u5))]) [15, 16, 0, 1, 2, 3, 20, 21, 4, 5, 6, 7, 8, 9, 10, 11, 12, 13, 14, 17, 18, 19] rfl
  have hD9 := hD.sub (ws' := [(y, .inr (11, MO yr yi7u5 ysb ybs)), (yr 0, .inl (cT 0, 19, .inl fp)), (yr 29, .inl (cT 0, 302, .inl f7u4)), (yr 40, .inl (cT 0, 19, .inl g7u4)), (yr 30, .inl (cT 0, 302, .inl f8u4)), (yr 41, .inl (cT 0, 19, .inl g8u4)), (yr 37, .inl (cT 0, 302, .inl f7u5)), (yr 42, .inl (cT 0, 19, .inl gt7u4)), (yr 32, .inl (cT 0, 302, .inl fq7u4)), (yr 4, .inl (cT 0, 48, .inl tg)), (yr 27, .inl (cT 0, 65472, .inl up)), (yr 28, .inl (cT 0, 9424, .inl lw)), (yr 19, .inl (cT 0, 496, .inl nc)), (yr 22, .inl (cT 0, 496, .inl nl)), (yr 23, .inl (cT 0, 496, .inl nr)), (yr 5, .inl (cT 0, 288, .inl vv)), (yr 21, .inl (cT 3, 496, .inl tl)), (yr 26, .inl (cT 3, 496, .inl kd)), (yr 20, .inl (cT 0, 496, .inl ed)), (yr 48, .inl (cT 2, 6000, .inl fo7u5)), (yr 49, .inl (cT 2, 3000, .inl fd7u5)), (yr 31, .inl (cT 0, 302, .inl f37u5))]) [15, 16, 0, 1, 2, 3, 20, 21, 4, 5, 6, 7, 8, 9, 10, 11, 12, 13, 14, 17, 18, 19] (by decide) rfl
  refine W.widen (k := 0) (n := 0) (Nat.le_of_ble_eq_true rfl) (Nat.le_of_ble_eq_true rfl) ?_
  exact W.iret (v := ru5) hx hb hr (fun t9 ht9 hW9 => ⟨⟨ru5, (L7u5, zt7u4, dn gt7u4, yi7u5, fo7u5, fd7u5, f37u5, f7u5, gt7u4, fq7u4, f7u4, g7u4, f8u4, g8u4), rfl, (show ru5 = nI L7u5 ∧ L7u5 ≤ 5000 ∧ yi7u5 47 = nI L7u5 ∧ yi7u5 1 = 0 ∧ YK2 yi yi7u5 ∧ RDC (sqs X x n nt) (sqd Pp nt) zt7u4 (dn gt7u4) ∧ WRT fo7u5 L7u5 zt7u4 (dn gt7u4) from (by obtain ⟨k1, k2, k3, k4, k5⟩ := hpu5; have k6 := yk2_mk k5; exact ⟨k1, k2, k3, k6.2, k6.1, ⟨gt7u4, wR, rfl, wv⟩, k4⟩)), by rw [ht9]; exact hP9, hD9⟩, hS.F ht9⟩) hS.2.2 dM_error_44
set_option maxHeartbeats 4000000 in
set_option maxRecDepth 100000 in
theorem y_err_no (l : Launch) (D : va_G) (cT : Nat → ClassId) (y : Nat) (yr : Nat → Nat) (yi : Nat → Int32) (ysb : Int64) (ybs : Int64) (x : Int64) (v : Int32) (hq : ¬ (0 ≤ v ∧ v ≤ yi 17)) (sz : Nat) : Met l yM_error WM_error ({ frames := 1, cells := 0, slots := 0, locals := 22 } : Room) (RW D vwCl [.ref y, .long x, .int v] [(y, .inr (11, MO yr yi ysb ybs))] (TY cT) sz) (va_Qi (fun (r9 : Int32) (u9 : Unit) => r9 = 0) (BW D vwCl (va_A [(y, .inr (11, MO yr yi ysb ybs))] sz) (fun u9 : Unit => [(y, .inr (11, MO yr (va_up yi 1 1) ysb ybs))])) (va_A [(y, .inr (11, MO yr yi ysb ybs))] sz)) 0 0 (va_A [(y, .inr (11, MO yr yi ysb ybs))] sz) := by
  refine Met.ofW (cc := cM_error) (maxL := 4) (ret := (some .int)) (by decide) rfl ?_
  intro p e s m args below meth c s₁ B hml hv
  obtain ⟨rfl, hsz, hZ, hP, hK, hD0⟩ := hv
  have hx := B.exec
  have hb := B.bytes
  have hr := B.returns
  have hts := atoms_spec (ws := WM_error) B.pre
  have hT : ∀ w ∈ TB, w.before _ s = true := fun w h => hts w (List.mem_cons_of_mem _ h)
  have hown : s.vm.findClass R_M = some m.cls := findClass_of_methodNamed B.named
  have hlocks := B.notSynchronized
  subst hsz
  have hD := hD0.self (sz := s.heap.size)
  generalize hAe : va_A [(y, .inr (11, MO yr yi ysb ybs))] s.heap.size = A at hD hZ ⊢
  have hA : ∀ q : Nat, s.heap.size ≤ q → A q := fun q h => by rw [← hAe]; exact Or.inr h
  have hS : va_S A s.heap s.heap [] := va_S.rf
  have hl := lv_entry ([.ref y, .long x, .int v]) (n := 4) (Nat.le_of_ble_eq_true rfl)
  rw [lg_entry_eq]
  generalize (lg_sl ([.ref y, .long x, .int v]) ++ List.replicate (4 - (lg_sl ([.ref y, .long x, .int v])).length) Slot.unset).toArray = ls at hl ⊢
  have hl : lv_has ls 4 [(0, .ref y), (1, .long x), (3, .int v)] := hl
  refine lv_aload_n hx hb dM_error_0 rfl (lv_at hl 0 rfl) ?_
  refine lv_iload_n hx hb dM_error_1 rfl (lv_at hl 2 rfl) ?_
  refine lv_iconst (v := 0) hx hb dM_error_2 (by decide) ?_
  refine lv_aload_n hx hb dM_error_3 rfl (lv_at hl 0 rfl) ?_
  refine va_get (D := D) (ci := 11) (v := .int (yi 17)) (C := R_M) (T := T_M) (N := 60) hx hb hT in_M hown hK hP 0 rfl rfl 17 (by decide) (hT _ w1121) (fun _ h9 => h9) rfl dM_error_4 ?_
  refine ro_i (va_Run.run (va_runS (As := [.int v, .int 0, .int (yi 17)]) (rest := [.ref y]) ⟨hx, hb, hml, hown, hT⟩ (m_in l D cT v 0 (yi 17)) ⟨callB_of 3 hT (tb_gd w1297) rfl rfl rfl (hT _ w13) (hT _ w1295) hM_in ⟨Nat.le_of_ble_eq_true rfl, Nat.le_of_ble_eq_true rfl⟩, (hT _ w1296)⟩ (RO.preS hZ hS ((show va_P D vwCl [] _ from fun _ _ h => nomatch h)) hK) rfl rfl hl.1 rfl (lv_room (Nat.le_of_ble_eq_true rfl)) dM_error_7 ⟨Nat.le_of_ble_eq_true rfl, Nat.le_of_ble_eq_true rfl⟩)) ?_
  refine lv_if_eq (tgt := 17) hx hb dM_error_10 rfl (fun h1 => ?_) (fun h1 => ?_)
  · refine lv_iconst (v := 1) hx hb dM_error_17 (by decide) ?_
    refine rw_i (wc := [(y, .inr (11, MO yr yi ysb ybs))]) (wr := []) hP hD hS hA [0] [] rfl rfl (by decide) (by decide) (va_runV (As := [.int 1]) (rest := []) ⟨hx, hb, hml, hown, hT⟩ (m_ref1 l D cT y yr yi ysb ybs _) ⟨callB_of 1 hT (tb_gd w1301) rfl rfl rfl (hT _ w13) (hT _ w1298) hM_refused ⟨Nat.le_of_ble_eq_true rfl, Nat.le_of_ble_eq_true rfl⟩, (hT _ w1300), (hT _ wp29)⟩ (RW.preV (ci := 11) (q0 := 0) hZ hS (va_free (wc := [(y, .inr (11, MO yr yi ysb ybs))]) hD hS hA [0] rfl) (hP.sub (ws' := [(y, .inr (11, MO yr yi ysb ybs))]) [0] rfl) hK (hD.sub (ws' := [(y, .inr (11, MO yr yi ysb ybs))]) [0] (by decide) rfl) rfl rfl) rfl rfl hl.1 rfl (lv_room (Nat.le_of_ble_eq_true rfl)) dM_error_18 ⟨Nat.le_of_ble_eq_true rfl, Nat.le_of_ble_eq_true rfl⟩) (fun ru2 u9 H locs hpu2 hP hD hS => ?_)
    have hpu2 : ru2 = 1 := hpu2
    have hP : va_P D vwCl [(y, .inr (11, MO yr (va_up yi 1 1) ysb ybs))] _ := hP
    have hD : va_D A [(y, .inr (11, MO yr (va_up yi 1 1) ysb ybs))] := hD
    refine lv_topi (fun y9 e9 => ?_)
    cases (show y9 = 1 from e9.trans hpu2)
    refine lv_if_eq (tgt := 26) hx hb dM_error_21 rfl (fun h3 => absurd h3 (by decide)) (fun _ => ?_)
    refine lv_iconst (v := 0) hx hb dM_error_24 (by decide) ?_
    have hP9 := hP.sub (ws' := [(y, .inr (11, MO yr (va_up yi 1 1) ysb ybs))]) [0] rfl
    have hD9 := hD.sub (ws' := [(y, .inr (11, MO yr (va_up yi 1 1) ysb ybs))]) [0] (by decide) rfl
    refine W.widen (k := 0) (n := 0) (Nat.le_of_ble_eq_true rfl) (Nat.le_of_ble_eq_true rfl) ?_
    exact W.iret (v := 0) hx hb hr (fun t9 ht9 hW9 => ⟨⟨0, (), rfl, (show 0 = 0 from rfl), by rw [ht9]; exact hP9, hD9⟩, hS.F ht9⟩) hS.2.2 dM_error_25
  · refine lv_iconst (v := 0) hx hb dM_error_13 (by decide) ?_
    refine lv_goto (tgt := 18) hx hb dM_error_14 rfl ?_
    refine rw_i (wc := [(y, .inr (11, MO yr yi ysb ybs))]) (wr := []) hP hD hS hA [0] [] rfl rfl (by decide) (by decide) (va_runV (As := [.int 0]) (rest := []) ⟨hx, hb, hml, hown, hT⟩ (m_ref0 l D cT y yr yi ysb ybs _) ⟨callB_of 1 hT (tb_gd w1301) rfl rfl rfl (hT _ w13) (hT _ w1298) hM_refused ⟨Nat.le_of_ble_eq_true rfl, Nat.le_of_ble_eq_true rfl⟩, (hT _ w1300), (hT _ wp29)⟩ (RW.preV (ci := 11) (q0 := 0) hZ hS (va_free (wc := [(y, .inr (11, MO yr yi ysb ybs))]) hD hS hA [0] rfl) (hP.sub (ws' := [(y, .inr (11, MO yr yi ysb ybs))]) [0] rfl) hK (hD.sub (ws' := [(y, .inr (11, MO yr yi ysb ybs))]) [0] (by decide) rfl) rfl rfl) rfl rfl hl.1 rfl (lv_room (Nat.le_of_ble_eq_true rfl)) dM_error_18 ⟨Nat.le_of_ble_eq_true rfl, Nat.le_of_ble_eq_true rfl⟩) (fun ru4 u9 H locs hpu4 hP hD hS => ?_)
    have hpu4 : ru4 = 0 := hpu4
    have hP : va_P D vwCl [(y, .inr (11, MO yr (va_up yi 1 0) ysb ybs))] _ := hP
    have hD : va_D A [(y, .inr (11, MO yr (va_up yi 1 0) ysb ybs))] := hD
    refine lv_topi (fun y9 e9 => ?_)
    cases (show y9 = 0 from e9.trans hpu4)
    refine lv_if_eq (tgt := 26) hx hb dM_error_21 rfl (fun _ => ?_) (fun h5 => absurd (by decide) h5)
    exact absurd (bi_1 h1) hq
set_option maxHeartbeats 4000000 in
set_option maxRecDepth 100000 in
theorem y_best (l : Launch) (D : va_G) (cT : Nat → ClassId) (y : Nat) (yr : Nat → Nat) (yi : Nat → Int32) (ysb : Int64) (ybs : Int64) (fp : Nat → Int32) (nc : Nat → Int32) (nl : Nat → Int32) (nr : Nat → Int32) (tl : Nat → Int32) (kd : Nat → Int32) (ed : Nat → Int32) (vv : Nat → Int32) (up : Nat → Int32) (lw : Nat → Int32) (f0 : Nat → Int32) (g0 : Nat → Int32) (f2 : Nat → Int32) (g2 : Nat → Int32) (ft0 : Nat → Int32) (gt0 : Nat → Int32) (fq0 : Nat → Int32) (T : Nat) (n : Nat) (bb : Nat) (nm : Nat → Nat) (dp : Nat → Nat → Nat) (go : Nat → Nat → Nat → Bool) (lf : Nat → Nat → Nat) (Pp : Nat → Nat) (sc : Nat → Nat) (X : Nat → Nat → Int) (LX : Nat → Nat → Int) (PB : Nat) (XB : Nat) (tg : Nat → Int32) (fb0 : Nat → Int32) (gb0 : Nat → Int32) (x : Int64) (hPR : PRI fp) (hn : yi 3 = nI n) (hn48 : n ≤ 48) (hT16 : T ≤ 16) (htg0 : ∀ i, i < n → X i 0 = (tg i).toInt ∧ -1000 ≤ (tg i).toInt ∧ (tg i).toInt ≤ 1000) (hC : ∀ i, i < n → CHN Pp sc (X i) (LX i) true T PB XB) (hBB : XB * PB + XB * (PB * PB) < 268435456 ^ 130) (hT9 : ∀ t, t < T → TWF nc nl nr (dp t) (31 * t) (nm t)) (htl : ∀ q, q < 496 → tl q = 0 ∨ tl q = 1) (hgo : ∀ i, i < n → ∀ t, t < T → ∀ k, k < nm t → ∀ c, c < 6 → nc (31 * t + k) = nI c → go i t k = goB (tl (31 * t + k)) (kd (31 * t + k)) (ed (31 * t + k)) (vv (6 * i + c))) (hlf : ∀ i, i < n → ∀ t, t < T → lf i t = lfw nc nl nr (go i t) (31 * t) 4 0) (hlfb : ∀ i, i < n → ∀ t, t < T → lf i t < 31) (hNF : ∀ i, i < n → ∀ t, t < T → NF up lw bb (31 * t + lf i t) (LX i t) (Pp (t + 1))) (hbb : bb < 2 ^ 29) (hPB0 : 0 < PB) (hSB : 48 * (XB * XB) * (PB * PB) + (XB * XB) * ((PB * PB) * (PB * PB)) < 268435456 ^ 250) (hPp : ∀ t, t ≤ T → 0 < Pp t ∧ Pp t ≤ PB) (hPP9 : PB * PB < 268435456 ^ 250) (hTT : yi 17 = nI T) (sz : Nat) : Met l yM_best WM_best ({ frames := 6, cells := 0, slots := 0, locals := 149 } : Room) (RW D vwCl [.ref y, .long x] [(y, .inr (11, MO yr yi ysb ybs)), (yr 0, .inl (cT 0, 19, .inl fp)), (yr 29, .inl (cT 0, 302, .inl f0)), (yr 40, .inl (cT 0, 19, .inl g0)), (yr 30, .inl (cT 0, 302, .inl f2)), (yr 41, .inl (cT 0, 19, .inl g2)), (yr 37, .inl (cT 0, 302, .inl ft0)), (yr 42, .inl (cT 0, 19, .inl gt0)), (yr 32, .inl (cT 0, 302, .inl fq0)), (yr 4, .inl (cT 0, 48, .inl tg)), (yr 27, .inl (cT 0, 65472, .inl up)), (yr 28, .inl (cT 0, 9424, .inl lw)), (yr 19, .inl (cT 0, 496, .inl nc)), (yr 22, .inl (cT 0, 496, .inl nl)), (yr 23, .inl (cT 0, 496, .inl nr)), (yr 5, .inl (cT 0, 288, .inl vv)), (yr 21, .inl (cT 3, 496, .inl tl)), (yr 26, .inl (cT 3, 496, .inl kd)), (yr 20, .inl (cT 0, 496, .inl ed)), (yr 38, .inl (cT 0, 302, .inl fb0)), (yr 43, .inl (cT 0, 19, .inl gb0))] (TY cT) sz) (va_Qi (fun (r9 : Int32) (u9 : (Nat → Int32) × (Nat → Int32) × (Nat → Int32) × (Nat → Int32) × (Nat → Int32) × (Nat → Int32) × (Nat → Int32) × (Nat → Int32) × (Nat → Int32)) => r9 = nI (bst (sqs X x n) (sqd Pp) T)) (BW D vwCl (va_A [(y, .inr (11, MO yr yi ysb ybs)), (yr 0, .inl (cT 0, 19, .inl fp)), (yr 29, .inl (cT 0, 302, .inl f0)), (yr 40, .inl (cT 0, 19, .inl g0)), (yr 30, .inl (cT 0, 302, .inl f2)), (yr 41, .inl (cT 0, 19, .inl g2)), (yr 37, .inl (cT 0, 302, .inl ft0)), (yr 42, .inl (cT 0, 19, .inl gt0)), (yr 32, .inl (cT 0, 302, .inl fq0)), (yr 4, .inl (cT 0, 48, .inl tg)), (yr 27, .inl (cT 0, 65472, .inl up)), (yr 28, .inl (cT 0, 9424, .inl lw)), (yr 19, .inl (cT 0, 496, .inl nc)), (yr 22, .inl (cT 0, 496, .inl nl)), (yr 23, .inl (cT 0, 496, .inl nr)), (yr 5, .inl (cT 0, 288, .inl vv)), (yr 21, .inl (cT 3, 496, .inl tl)), (yr 26, .inl (cT 3, 496, .inl kd)), (yr 20, .inl (cT 0, 496, .inl ed)), (yr 38, .inl (cT 0, 302, .inl fb0)), (yr 43, .inl (cT 0, 19, .inl gb0))] sz) (fun u9 : (Nat → Int32) × (Nat → Int32) × (Nat → Int32) × (Nat → Int32) × (Nat → Int32) × (Nat → Int32) × (Nat → Int32) × (Nat → Int32) × (Nat → Int32) => [(y, .inr (11, MO yr (va_up yi 1 0) ysb ybs)), (yr 0, .inl (cT 0, 19, .inl fp)), (yr 29, .inl (cT 0, 302, .inl u9.2.2.2.1)), (yr 40, .inl (cT 0, 19, .inl u9.2.2.2.2.1)), (yr 30, .inl (cT 0, 302, .inl u9.2.2.2.2.2.1)), (yr 41, .inl (cT 0, 19, .inl u9.2.2.2.2.2.2.1)), (yr 37, .inl (cT 0, 302, .inl u9.1)), (yr 42, .inl (cT 0, 19, .inl u9.2.1)), (yr 32, .inl (cT 0, 302, .inl u9.2.2.1)), (yr 4, .inl (cT 0, 48, .inl tg)), (yr 27, .inl (cT 0, 65472, .inl up)), (yr 28, .inl (cT 0, 9424, .inl lw)), (yr 19, .inl (cT 0, 496, .inl nc)), (yr 22, .inl (cT 0, 496, .inl nl)), (yr 23, .inl (cT 0, 496, .inl nr)), (yr 5, .inl (cT 0, 288, .inl vv)), (yr 21, .inl (cT 3, 496, .inl tl)), (yr 26, .inl (cT 3, 496, .inl kd)), (yr 20, .inl (cT 0, 496, .inl ed)), (yr 38, .inl (cT 0, 302, .inl u9.2.2.2.2.2.2.2.1)), (yr 43, .inl (cT 0, 19, .inl u9.2.2.2.2.2.2.2.2))])) (va_A [(y, .inr (11, MO yr yi ysb ybs)), (yr 0, .inl (cT 0, 19, .inl fp)), (yr 29, .inl (cT 0, 302, .inl f0)), (yr 40, .inl (cT 0, 19, .inl g0)), (yr 30, .inl (cT 0, 302, .inl f2)), (yr 41, .inl (cT 0, 19, .inl g2)), (yr 37, .inl (cT 0, 302, .inl ft0)), (yr 42, .inl (cT 0, 19, .inl gt0)), (yr 32, .inl (cT 0, 302, .inl fq0)), (yr 4, .inl (cT 0, 48, .inl tg)), (yr 27, .inl (cT 0, 65472, .inl up)), (yr 28, .inl (cT 0, 9424, .inl lw)), (yr 19, .inl (cT 0, 496, .inl nc)), (yr 22, .inl (cT 0, 496, .inl nl)), (yr 23, .inl (cT 0, 496, .inl nr)), (yr 5, .inl (cT 0, 288, .inl vv)), (yr 21, .inl (cT 3, 496, .inl tl)), (yr 26, .inl (cT 3, 496, .inl kd)), (yr 20, .inl (cT 0, 496, .inl ed)), (yr 38, .inl (cT 0, 302, .inl fb0)), (yr 43, .inl (cT 0, 19, .inl gb0))] sz)) 0 0 (va_A [(y, .inr (11, MO yr yi ysb ybs)), (yr 0, .inl (cT 0, 19, .inl fp)), (yr 29, .inl (cT 0, 302, .inl f0)), (yr 40, .inl (cT 0, 19, .inl g0)), (yr 30, .inl (cT 0, 302, .inl f2)), (yr 41, .inl (cT 0, 19, .inl g2)), (yr 37, .inl (cT 0, 302, .inl ft0)), (yr 42, .inl (cT 0, 19, .inl gt0)), (yr 32, .inl (cT 0, 302, .inl fq0)), (yr 4, .inl (cT 0, 48, .inl tg)), (yr 27, .inl (cT 0, 65472, .inl up)), (yr 28, .inl (cT 0, 9424, .inl lw)), (yr 19, .inl (cT 0, 496, .inl nc)), (yr 22, .inl (cT 0, 496, .inl nl)), (yr 23, .inl (cT 0, 496, .inl nr)), (yr 5, .inl (cT 0, 288, .inl vv)), (yr 21, .inl (cT 3, 496, .inl tl)), (yr 26, .inl (cT 3, 496, .inl kd)), (yr 20, .inl (cT 0, 496, .inl ed)), (yr 38, .inl (cT 0, 302, .inl fb0)), (yr 43, .inl (cT 0, 19, .inl gb0))] sz) := by
  refine Met.ofW (cc := cM_best) (maxL := 5) (ret := (some .int)) (by decide) rfl ?_
  intro p e s m args below meth c s₁ B hml hv
  obtain ⟨rfl, hsz, hZ, hP, hK, hD0⟩ := hv
  have hx := B.exec
  have hb := B.bytes
  have hr := B.returns
  have hts := atoms_spec (ws := WM_best) B.pre
  have hT : ∀ w ∈ TB, w.before _ s = true := fun w h => hts w (List.mem_cons_of_mem _ h)
  have hown : s.vm.findClass R_M = some m.cls := findClass_of_methodNamed B.named
  have hlocks := B.notSynchronized
  subst hsz
  have hD := hD0.self (sz := s.heap.size)
  generalize hAe : va_A [(y, .inr (11, MO yr yi ysb ybs)), (yr 0, .inl (cT 0, 19, .inl fp)), (yr 29, .inl (cT 0, 302, .inl f0)), (yr 40, .inl (cT 0, 19, .inl g0)), (yr 30, .inl (cT 0, 302, .inl f2)), (yr 41, .inl (cT 0, 19, .inl g2)), (yr 37, .inl (cT 0, 302, .inl ft0)), (yr 42, .inl (cT 0, 19, .inl gt0)), (yr 32, .inl (cT 0, 302, .inl fq0)), (yr 4, .inl (cT 0, 48, .inl tg)), (yr 27, .inl (cT 0, 65472, .inl up)), (yr 28, .inl (cT 0, 9424, .inl lw)), (yr 19, .inl (cT 0, 496, .inl nc)), (yr 22, .inl (cT 0, 496, .inl nl)), (yr 23, .inl (cT 0, 496, .inl nr)), (yr 5, .inl (cT 0, 288, .inl vv)), (yr 21, .inl (cT 3, 496, .inl tl)), (yr 26, .inl (cT 3, 496, .inl kd)), (yr 20, .inl (cT 0, 496, .inl ed)), (yr 38, .inl (cT 0, 302, .inl fb0)), (yr 43, .inl (cT 0, 19, .inl gb0))] s.heap.size = A at hD hZ ⊢
  have hA : ∀ q : Nat, s.heap.size ≤ q → A q := fun q h => by rw [← hAe]; exact Or.inr h
  have hS : va_S A s.heap s.heap [] := va_S.rf
  have hl := lv_entry ([.ref y, .long x]) (n := 5) (Nat.le_of_ble_eq_true rfl)
  rw [lg_entry_eq]
  generalize (lg_sl ([.ref y, .long x]) ++ List.replicate (5 - (lg_sl ([.ref y, .long x])).length) Slot.unset).toArray = ls at hl ⊢
  have hl : lv_has ls 5 [(0, .ref y), (1, .long x)] := hl
  refine lv_aload_n hx hb dM_best_0 rfl (lv_at hl 0 rfl) ?_
  refine lv_iconst (v := 0) hx hb dM_best_1 (by decide) ?_
  refine va_put (D := D) (ci := 11) (v := .int 0) (ty := .int) (C := R_M) (T := T_M) (N := 60) hx hb hT in_M ty_M ty_M_ok m_M hown hK hP hD hS 0 rfl rfl 1 (by decide) (hT _ w1105) (fun _ h9 => h9) rfl (by decide +kernel) rfl rfl (Nat.le_of_ble_eq_true rfl) dM_best_2 (fun H locs hP hD hS => ?_)
  have hP : va_P D vwCl [(y, .inr (11, MO yr (va_up yi 1 0) ysb ybs)), (yr 0, .inl (cT 0, 19, .inl fp)), (yr 29, .inl (cT 0, 302, .inl f0)), (yr 40, .inl (cT 0, 19, .inl g0)), (yr 30, .inl (cT 0, 302, .inl f2)), (yr 41, .inl (cT 0, 19, .inl g2)), (yr 37, .inl (cT 0, 302, .inl ft0)), (yr 42, .inl (cT 0, 19, .inl gt0)), (yr 32, .inl (cT 0, 302, .inl fq0)), (yr 4, .inl (cT 0, 48, .inl tg)), (yr 27, .inl (cT 0, 65472, .inl up)), (yr 28, .inl (cT 0, 9424, .inl lw)), (yr 19, .inl (cT 0, 496, .inl nc)), (yr 22, .inl (cT 0, 496, .inl nl)), (yr 23, .inl (cT 0, 496, .inl nr)), (yr 5, .inl (cT 0, 288, .inl vv)), (yr 21, .inl (cT 3, 496, .inl tl)), (yr 26, .inl (cT 3, 496, .inl kd)), (yr 20, .inl (cT 0, 496, .inl ed)), (yr 38, .inl (cT 0, 302, .inl fb0)), (yr 43, .inl (cT 0, 19, .inl gb0))] _ := hP
  have hD : va_D A [(y, .inr (11, MO yr (va_up yi 1 0) ysb ybs)), (yr 0, .inl (cT 0, 19, .inl fp)), (yr 29, .inl (cT 0, 302, .inl f0)), (yr 40, .inl (cT 0, 19, .inl g0)), (yr 30, .inl (cT 0, 302, .inl f2)), (yr 41, .inl (cT 0, 19, .inl g2)), (yr 37, .inl (cT 0, 302, .inl ft0)), (yr 42, .inl (cT 0, 19, .inl gt0)), (yr 32, .inl (cT 0, 302, .inl fq0)), (yr 4, .inl (cT 0, 48, .inl tg)), (yr 27, .inl (cT 0, 65472, .inl up)), (yr 28, .inl (cT 0, 9424, .inl lw)), (yr 19, .inl (cT 0, 496, .inl nc)), (yr 22, .inl (cT 0, 496, .inl nl)), (yr 23, .inl (cT 0, 496, .inl nr)), (yr 5, .inl (cT 0, 288, .inl vv)), (yr 21, .inl (cT 3, 496, .inl tl)), (yr 26, .inl (cT 3, 496, .inl kd)), (yr 20, .inl (cT 0, 496, .inl ed)), (yr 38, .inl (cT 0, 302, .inl fb0)), (yr 43, .inl (cT 0, 19, .inl gb0))] := hD
  refine lv_iconst (v := 0) hx hb dM_best_5 (by decide) ?_
  refine lv_istore_n hx hb dM_best_6 rfl hl (by decide) rfl (fun ls hl => ?_)
  have hl : lv_has ls 5 [(3, .int 0), (0, .ref y), (1, .long x)] := hl
  refine lv_aload_n hx hb dM_best_7 rfl (lv_at hl 1 rfl) ?_
  refine lv_lload_n hx hb dM_best_8 rfl (lv_at hl 2 rfl) ?_
  refine lv_iconst (v := 0) hx hb dM_best_9 (by decide) ?_
  refine lv_topi (fun y9 e9 => ?_)
  cases (show y9 = nI 0 from e9.trans (by decide))
  refine rw_v (wc := [(y, .inr (11, MO yr (va_up yi 1 0) ysb ybs)), (yr 0, .inl (cT 0, 19, .inl fp)), (yr 29, .inl (cT 0, 302, .inl f0)), (yr 40, .inl (cT 0, 19, .inl g0)), (yr 30, .inl (cT 0, 302, .inl f2)), (yr 41, .inl (cT 0, 19, .inl g2)), (yr 37, .inl (cT 0, 302, .inl ft0)), (yr 42, .inl (cT 0, 19, .inl gt0)), (yr 32, .inl (cT 0, 302, .inl fq0)), (yr 4, .inl (cT 0, 48, .inl tg)), (yr 27, .inl (cT 0, 65472, .inl up)), (yr 28, .inl (cT 0, 9424, .inl lw)), (yr 19, .inl (cT 0, 496, .inl nc)), (yr 22, .inl (cT 0, 496, .inl nl)), (yr 23, .inl (cT 0, 496, .inl nr)), (yr 5, .inl (cT 0, 288, .inl vv)), (yr 21, .inl (cT 3, 496, .inl tl)), (yr 26, .inl (cT 3, 496, .inl kd)), (yr 20, .inl (cT 0, 496, .inl ed))]) (wr := [(yr 38, .inl (cT 0, 302, .inl fb0)), (yr 43, .inl (cT 0, 19, .inl gb0))]) hP hD hS hA [0, 1, 2, 3, 4, 5, 6, 7, 8, 9, 10, 11, 12, 13, 14, 15, 16, 17, 18] [19, 20] rfl rfl (by decide) (by decide) (va_runV (As := [.long x, .int (nI 0)]) (rest := []) ⟨hx, hb, hml, hown, hT⟩ (m_ssq l D cT y yr (va_up yi 1 0) ysb ybs fp nc nl nr tl kd ed vv up lw f0 g0 f2 g2 ft0 gt0 fq0 T n bb nm dp go lf Pp sc X LX PB XB tg x 0 hPR (yu (by decide) hn) hn48 hT16 htg0 hC hBB hT9 htl hgo hlf hlfb hNF hbb hPB0 hSB (Nat.zero_le _) _) ⟨callB_of 2 hT (tb_gd w1583) rfl rfl rfl (hT _ w13) (hT _ w1580) hM_sumSquares ⟨Nat.le_of_ble_eq_true rfl, Nat.le_of_ble_eq_true rfl⟩, (hT _ w1582), (hT _ wp64)⟩ (RW.preV (ci := 11) (q0 := 0) hZ hS (va_free (wc := [(y, .inr (11, MO yr (va_up yi 1 0) ysb ybs)), (yr 0, .inl (cT 0, 19, .inl fp)), (yr 29, .inl (cT 0, 302, .inl f0)), (yr 40, .inl (cT 0, 19, .inl g0)), (yr 30, .inl (cT 0, 302, .inl f2)), (yr 41, .inl (cT 0, 19, .inl g2)), (yr 37, .inl (cT 0, 302, .inl ft0)), (yr 42, .inl (cT 0, 19, .inl gt0)), (yr 32, .inl (cT 0, 302, .inl fq0)), (yr 4, .inl (cT 0, 48, .inl tg)), (yr 27, .inl (cT 0, 65472, .inl up)), (yr 28, .inl (cT 0, 9424, .inl lw)), (yr 19, .inl (cT 0, 496, .inl nc)), (yr 22, .inl (cT 0, 496, .inl nl)), (yr 23, .inl (cT 0, 496, .inl nr)), (yr 5, .inl (cT 0, 288, .inl vv)), (yr 21, .inl (cT 3, 496, .inl tl)), (yr 26, .inl (cT 3, 496, .inl kd)), (yr 20, .inl (cT 0, 496, .inl ed))]) hD hS hA [0, 1, 2, 3, 4, 5, 6, 7, 8, 9, 10, 11, 12, 13, 14, 15, 16, 17, 18] rfl) (hP.sub (ws' := [(y, .inr (11, MO yr (va_up yi 1 0) ysb ybs)), (yr 0, .inl (cT 0, 19, .inl fp)), (yr 29, .inl (cT 0, 302, .inl f0)), (yr 40, .inl (cT 0, 19, .inl g0)), (yr 30, .inl (cT 0, 302, .inl f2)), (yr 41, .inl (cT 0, 19, .inl g2)), (yr 37, .inl (cT 0, 302, .inl ft0)), (yr 42, .inl (cT 0, 19, .inl gt0)), (yr 32, .inl (cT 0, 302, .inl fq0)), (yr 4, .inl (cT 0, 48, .inl tg)), (yr 27, .inl (cT 0, 65472, .inl up)), (yr 28, .inl (cT 0, 9424, .inl lw)), (yr 19, .inl (cT 0, 496, .inl nc)), (yr 22, .inl (cT 0, 496, .inl nl)), (yr 23, .inl (cT 0, 496, .inl nr)), (yr 5, .inl (cT 0, 288, .inl vv)), (yr 21, .inl (cT 3, 496, .inl tl)), (yr 26, .inl (cT 3, 496, .inl kd)), (yr 20, .inl (cT 0, 496, .inl ed))]) [0, 1, 2, 3, 4, 5, 6, 7, 8, 9, 10, 11, 12, 13, 14, 15, 16, 17, 18] rfl) hK (hD.sub (ws' := [(y, .inr (11, MO yr (va_up yi 1 0) ysb ybs)), (yr 0, .inl (cT 0, 19, .inl fp)), (yr 29, .inl (cT 0, 302, .inl f0)), (yr 40, .inl (cT 0, 19, .inl g0)), (yr 30, .inl (cT 0, 302, .inl f2)), (yr 41, .inl (cT 0, 19, .inl g2)), (yr 37, .inl (cT 0, 302, .inl ft0)), (yr 42, .inl (cT 0, 19, .inl gt0)), (yr 32, .inl (cT 0, 302, .inl fq0)), (yr 4, .inl (cT 0, 48, .inl tg)), (yr 27, .inl (cT 0, 65472, .inl up)), (yr 28, .inl (cT 0, 9424, .inl lw)), (yr 19, .inl (cT 0, 496, .inl nc)), (yr 22, .inl (cT 0, 496, .inl nl)), (yr 23, .inl (cT 0, 496, .inl nr)), (yr 5, .inl (cT 0, 288, .inl vv)), (yr 21, .inl (cT 3, 496, .inl tl)), (yr 26, .inl (cT 3, 496, .inl kd)), (yr 20, .inl (cT 0, 496, .inl ed))]) [0, 1, 2, 3, 4, 5, 6, 7, 8, 9, 10, 11, 12, 13, 14, 15, 16, 17, 18] (by decide) rfl) rfl rfl) rfl rfl hl.1 rfl (lv_room (Nat.le_of_ble_eq_true rfl)) dM_best_10 ⟨Nat.le_of_ble_eq_true rfl, Nat.le_of_ble_eq_true rfl⟩) (fun u9 H locs hpu1 hP hD hS => ?_)
  obtain ⟨zt7u1, ft7u1, gt7u1, fq7u1, f7u1, g7u1, f8u1, g8u1⟩ := u9
  have hpu1 : MN ft7u1 zt7u1 ∧ LOK gt7u1 (2 * bb) ∧ RED zt7u1 gt7u1 ∧ zt7u1 * ((sqd Pp 0 : Nat) : Int) = sqs X x n 0 * (dn gt7u1 : Int) := hpu1
  have hP : va_P D vwCl [(yr 38, .inl (cT 0, 302, .inl fb0)), (yr 43, .inl (cT 0, 19, .inl gb0)), (y, .inr (11, MO yr (va_up yi 1 0) ysb ybs)), (yr 0, .inl (cT 0, 19, .inl fp)), (yr 29, .inl (cT 0, 302, .inl f7u1)), (yr 40, .inl (cT 0, 19, .inl g7u1)), (yr 30, .inl (cT 0, 302, .inl f8u1)), (yr 41, .inl (cT 0, 19, .inl g8u1)), (yr 37, .inl (cT 0, 302, .inl ft7u1)), (yr 42, .inl (cT 0, 19, .inl gt7u1)), (yr 32, .inl (cT 0, 302, .inl fq7u1)), (yr 4, .inl (cT 0, 48, .inl tg)), (yr 27, .inl (cT 0, 65472, .inl up)), (yr 28, .inl (cT 0, 9424, .inl lw)), (yr 19, .inl (cT 0, 496, .inl nc)), (yr 22, .inl (cT 0, 496, .inl nl)), (yr 23, .inl (cT 0, 496, .inl nr)), (yr 5, .inl (cT 0, 288, .inl vv)), (yr 21, .inl (cT 3, 496, .inl tl)), (yr 26, .inl (cT 3, 496, .inl kd)), (yr 20, .inl (cT 0, 496, .inl ed))] _ := hP
  have hD : va_D A [(yr 38, .inl (cT 0, 302, .inl fb0)), (yr 43, .inl (cT 0, 19, .inl gb0)), (y, .inr (11, MO yr (va_up yi 1 0) ysb ybs)), (yr 0, .inl (cT 0, 19, .inl fp)), (yr 29, .inl (cT 0, 302, .inl f7u1)), (yr 40, .inl (cT 0, 19, .inl g7u1)), (yr 30, .inl (cT 0, 302, .inl f8u1)), (yr 41, .inl (cT 0, 19, .inl g8u1)), (yr 37, .inl (cT 0, 302, .inl ft7u1)), (yr 42, .inl (cT 0, 19, .inl gt7u1)), (yr 32, .inl (cT 0, 302, .inl fq7u1)), (yr 4, .inl (cT 0, 48, .inl tg)), (yr 27, .inl (cT 0, 65472, .inl up)), (yr 28, .inl (cT 0, 9424, .inl lw)), (yr 19, .inl (cT 0, 496, .inl nc)), (yr 22, .inl (cT 0, 496, .inl nl)), (yr 23, .inl (cT 0, 496, .inl nr)), (yr 5, .inl (cT 0, 288, .inl vv)), (yr 21, .inl (cT 3, 496, .inl tl)), (yr 26, .inl (cT 3, 496, .inl kd)), (yr 20, .inl (cT 0, 496, .inl ed))] := hD
  obtain ⟨wN, wL, wR, wv⟩ := hpu1
  refine lv_aload_n hx hb dM_best_13 rfl (lv_at hl 1 rfl) ?_
  refine va_get (D := D) (ci := 11) (v := .ref (yr 37)) (C := R_M) (T := T_M) (N := 60) hx hb hT in_M hown hK hP 2 rfl rfl 37 (by decide) (hT _ w1141) (fun _ h9 => h9) rfl dM_best_14 ?_
  refine lv_aload_n hx hb dM_best_17 rfl (lv_at hl 1 rfl) ?_
  refine va_get (D := D) (ci := 11) (v := .ref (yr 38)) (C := R_M) (T := T_M) (N := 60) hx hb hT in_M hown hK hP 2 rfl rfl 38 (by decide) (hT _ w1142) (fun _ h9 => h9) rfl dM_best_18 ?_
  refine rw_v (wc := [(yr 37, .inl (cT 0, 302, .inl ft7u1)), (yr 38, .inl (cT 0, 302, .inl fb0))]) (wr := [(yr 43, .inl (cT 0, 19, .inl gb0)), (y, .inr (11, MO yr (va_up yi 1 0) ysb ybs)), (yr 0, .inl (cT 0, 19, .inl fp)), (yr 29, .inl (cT 0, 302, .inl f7u1)), (yr 40, .inl (cT 0, 19, .inl g7u1)), (yr 30, .inl (cT 0, 302, .inl f8u1)), (yr 41, .inl (cT 0, 19, .inl g8u1)), (yr 42, .inl (cT 0, 19, .inl gt7u1)), (yr 32, .inl (cT 0, 302, .inl fq7u1)), (yr 4, .inl (cT 0, 48, .inl tg)), (yr 27, .inl (cT 0, 65472, .inl up)), (yr 28, .inl (cT 0, 9424, .inl lw)), (yr 19, .inl (cT 0, 496, .inl nc)), (yr 22, .inl (cT 0, 496, .inl nl)), (yr 23, .inl (cT 0, 496, .inl nr)), (yr 5, .inl (cT 0, 288, .inl vv)), (yr 21, .inl (cT 3, 496, .inl tl)), (yr 26, .inl (cT 3, 496, .inl kd)), (yr 20, .inl (cT 0, 496, .inl ed))]) hP hD hS hA [8, 0] [1, 2, 3, 4, 5, 6, 7, 9, 10, 11, 12, 13, 14, 15, 16, 17, 18, 19, 20] rfl rfl (by decide) (by decide) (va_runS (As := [.ref (yr 37), .ref (yr 38)]) (rest := []) ⟨hx, hb, hml, hown, hT⟩ (m_copy l D cT (yr 37) ft7u1 zt7u1 (yr 38) fb0 wN _) ⟨callB_of 2 hT (tb_gd w1426) rfl rfl rfl (hT _ w13) (hT _ w1424) hM_copy ⟨Nat.le_of_ble_eq_true rfl, Nat.le_of_ble_eq_true rfl⟩, (hT _ w1425)⟩ (RW.preS hZ hS (va_free (wc := [(yr 37, .inl (cT 0, 302, .inl ft7u1)), (yr 38, .inl (cT 0, 302, .inl fb0))]) hD hS hA [8, 0] rfl) (hP.sub (ws' := [(yr 37, .inl (cT 0, 302, .inl ft7u1)), (yr 38, .inl (cT 0, 302, .inl fb0))]) [8, 0] rfl) hK (hD.sub (ws' := [(yr 37, .inl (cT 0, 302, .inl ft7u1)), (yr 38, .inl (cT 0, 302, .inl fb0))]) [8, 0] (by decide) rfl)) rfl rfl hl.1 rfl (lv_room (Nat.le_of_ble_eq_true rfl)) dM_best_21 ⟨Nat.le_of_ble_eq_true rfl, Nat.le_of_ble_eq_true rfl⟩) (fun u9 H locs hpu2 hP hD hS => ?_)
  obtain ⟨f1u2, rfl⟩ : ∃ q9, q9 = u9 := ⟨_, rfl⟩
  have hpu2 : MN f1u2 zt7u1 := hpu2
  have hP : va_P D vwCl [(yr 43, .inl (cT 0, 19, .inl gb0)), (y, .inr (11, MO yr (va_up yi 1 0) ysb ybs)), (yr 0, .inl (cT 0, 19, .inl fp)), (yr 29, .inl (cT 0, 302, .inl f7u1)), (yr 40, .inl (cT 0, 19, .inl g7u1)), (yr 30, .inl (cT 0, 302, .inl f8u1)), (yr 41, .inl (cT 0, 19, .inl g8u1)), (yr 42, .inl (cT 0, 19, .inl gt7u1)), (yr 32, .inl (cT 0, 302, .inl fq7u1)), (yr 4, .inl (cT 0, 48, .inl tg)), (yr 27, .inl (cT 0, 65472, .inl up)), (yr 28, .inl (cT 0, 9424, .inl lw)), (yr 19, .inl (cT 0, 496, .inl nc)), (yr 22, .inl (cT 0, 496, .inl nl)), (yr 23, .inl (cT 0, 496, .inl nr)), (yr 5, .inl (cT 0, 288, .inl vv)), (yr 21, .inl (cT 3, 496, .inl tl)), (yr 26, .inl (cT 3, 496, .inl kd)), (yr 20, .inl (cT 0, 496, .inl ed)), (yr 37, .inl (cT 0, 302, .inl ft7u1)), (yr 38, .inl (cT 0, 302, .inl f1u2))] _ := hP
  have hD : va_D A [(yr 43, .inl (cT 0, 19, .inl gb0)), (y, .inr (11, MO yr (va_up yi 1 0) ysb ybs)), (yr 0, .inl (cT 0, 19, .inl fp)), (yr 29, .inl (cT 0, 302, .inl f7u1)), (yr 40, .inl (cT 0, 19, .inl g7u1)), (yr 30, .inl (cT 0, 302, .inl f8u1)), (yr 41, .inl (cT 0, 19, .inl g8u1)), (yr 42, .inl (cT 0, 19, .inl gt7u1)), (yr 32, .inl (cT 0, 302, .inl fq7u1)), (yr 4, .inl (cT 0, 48, .inl tg)), (yr 27, .inl (cT 0, 65472, .inl up)), (yr 28, .inl (cT 0, 9424, .inl lw)), (yr 19, .inl (cT 0, 496, .inl nc)), (yr 22, .inl (cT 0, 496, .inl nl)), (yr 23, .inl (cT 0, 496, .inl nr)), (yr 5, .inl (cT 0, 288, .inl vv)), (yr 21, .inl (cT 3, 496, .inl tl)), (yr 26, .inl (cT 3, 496, .inl kd)), (yr 20, .inl (cT 0, 496, .inl ed)), (yr 37, .inl (cT 0, 302, .inl ft7u1)), (yr 38, .inl (cT 0, 302, .inl f1u2))] := hD
  have bN := hpu2
  refine lv_aload_n hx hb dM_best_24 rfl (lv_at hl 1 rfl) ?_
  refine va_get (D := D) (ci := 11) (v := .ref (yr 42)) (C := R_M) (T := T_M) (N := 60) hx hb hT in_M hown hK hP 1 rfl rfl 42 (by decide) (hT _ w1146) (fun _ h9 => h9) rfl dM_best_25 ?_
  refine lv_aload_n hx hb dM_best_28 rfl (lv_at hl 1 rfl) ?_
  refine va_get (D := D) (ci := 11) (v := .ref (yr 43)) (C := R_M) (T := T_M) (N := 60) hx hb hT in_M hown hK hP 1 rfl rfl 43 (by decide) (hT _ w1147) (fun _ h9 => h9) rfl dM_best_29 ?_
  refine lv_iconst (v := 0) hx hb dM_best_32 (by decide) ?_
  refine rw_v (wc := [(yr 42, .inl (cT 0, 19, .inl gt7u1)), (yr 43, .inl (cT 0, 19, .inl gb0))]) (wr := [(y, .inr (11, MO yr (va_up yi 1 0) ysb ybs)), (yr 0, .inl (cT 0, 19, .inl fp)), (yr 29, .inl (cT 0, 302, .inl f7u1)), (yr 40, .inl (cT 0, 19, .inl g7u1)), (yr 30, .inl (cT 0, 302, .inl f8u1)), (yr 41, .inl (cT 0, 19, .inl g8u1)), (yr 32, .inl (cT 0, 302, .inl fq7u1)), (yr 4, .inl (cT 0, 48, .inl tg)), (yr 27, .inl (cT 0, 65472, .inl up)), (yr 28, .inl (cT 0, 9424, .inl lw)), (yr 19, .inl (cT 0, 496, .inl nc)), (yr 22, .inl (cT 0, 496, .inl nl)), (yr 23, .inl (cT 0, 496, .inl nr)), (yr 5, .inl (cT 0, 288, .inl vv)), (yr 21, .inl (cT 3, 496, .inl tl)), (yr 26, .inl (cT 3, 496, .inl kd)), (yr 20, .inl (cT 0, 496, .inl ed)), (yr 37, .inl (cT 0, 302, .inl ft7u1)), (yr 38, .inl (cT 0, 302, .inl f1u2))]) hP hD hS hA [7, 0] [1, 2, 3, 4, 5, 6, 8, 9, 10, 11, 12, 13, 14, 15, 16, 17, 18, 19, 20] rfl rfl (by decide) (by decide) (va_runS (As := [.ref (yr 42), .ref (yr 43), .int 0]) (rest := []) ⟨hx, hb, hml, hown, hT⟩ (m_storeL l D cT (yr 42) gt7u1 (yr 43) 19 gb0 0 (by decide) (by decide) _) ⟨callB_of 3 hT (tb_gd w1452) rfl rfl rfl (hT _ w13) (hT _ w1450) hM_storeLows ⟨Nat.le_of_ble_eq_true rfl, Nat.le_of_ble_eq_true rfl⟩, (hT _ w1451)⟩ (RW.preS hZ hS (va_free (wc := [(yr 42, .inl (cT 0, 19, .inl gt7u1)), (yr 43, .inl (cT 0, 19, .inl gb0))]) hD hS hA [7, 0] rfl) (hP.sub (ws' := [(yr 42, .inl (cT 0, 19, .inl gt7u1)), (yr 43, .inl (cT 0, 19, .inl gb0))]) [7, 0] rfl) hK (hD.sub (ws' := [(yr 42, .inl (cT 0, 19, .inl gt7u1)), (yr 43, .inl (cT 0, 19, .inl gb0))]) [7, 0] (by decide) rfl)) rfl rfl hl.1 rfl (lv_room (Nat.le_of_ble_eq_true rfl)) dM_best_33 ⟨Nat.le_of_ble_eq_true rfl, Nat.le_of_ble_eq_true rfl⟩) (fun u9 H locs hpu3 hP hD hS => ?_)
  obtain ⟨f1u3, rfl⟩ : ∃ q9, q9 = u9 := ⟨_, rfl⟩
  have hpu3 : (∀ q8, q8 < 19 → f1u3 (0 + q8) = gt7u1 q8) ∧ ∀ q8, q8 < 0 ∨ 0 + 19 ≤ q8 → f1u3 q8 = gb0 q8 := hpu3
  have hP : va_P D vwCl [(y, .inr (11, MO yr (va_up yi 1 0) ysb ybs)), (yr 0, .inl (cT 0, 19, .inl fp)), (yr 29, .inl (cT 0, 302, .inl f7u1)), (yr 40, .inl (cT 0, 19, .inl g7u1)), (yr 30, .inl (cT 0, 302, .inl f8u1)), (yr 41, .inl (cT 0, 19, .inl g8u1)), (yr 32, .inl (cT 0, 302, .inl fq7u1)), (yr 4, .inl (cT 0, 48, .inl tg)), (yr 27, .inl (cT 0, 65472, .inl up)), (yr 28, .inl (cT 0, 9424, .inl lw)), (yr 19, .inl (cT 0, 496, .inl nc)), (yr 22, .inl (cT 0, 496, .inl nl)), (yr 23, .inl (cT 0, 496, .inl nr)), (yr 5, .inl (cT 0, 288, .inl vv)), (yr 21, .inl (cT 3, 496, .inl tl)), (yr 26, .inl (cT 3, 496, .inl kd)), (yr 20, .inl (cT 0, 496, .inl ed)), (yr 37, .inl (cT 0, 302, .inl ft7u1)), (yr 38, .inl (cT 0, 302, .inl f1u2)), (yr 42, .inl (cT 0, 19, .inl gt7u1)), (yr 43, .inl (cT 0, 19, .inl f1u3))] _ := hP
  have hD : va_D A [(y, .inr (11, MO yr (va_up yi 1 0) ysb ybs)), (yr 0, .inl (cT 0, 19, .inl fp)), (yr 29, .inl (cT 0, 302, .inl f7u1)), (yr 40, .inl (cT 0, 19, .inl g7u1)), (yr 30, .inl (cT 0, 302, .inl f8u1)), (yr 41, .inl (cT 0, 19, .inl g8u1)), (yr 32, .inl (cT 0, 302, .inl fq7u1)), (yr 4, .inl (cT 0, 48, .inl tg)), (yr 27, .inl (cT 0, 65472, .inl up)), (yr 28, .inl (cT 0, 9424, .inl lw)), (yr 19, .inl (cT 0, 496, .inl nc)), (yr 22, .inl (cT 0, 496, .inl nl)), (yr 23, .inl (cT 0, 496, .inl nr)), (yr 5, .inl (cT 0, 288, .inl vv)), (yr 21, .inl (cT 3, 496, .inl tl)), (yr 26, .inl (cT 3, 496, .inl kd)), (yr 20, .inl (cT 0, 496, .inl ed)), (yr 37, .inl (cT 0, 302, .inl ft7u1)), (yr 38, .inl (cT 0, 302, .inl f1u2)), (yr 42, .inl (cT 0, 19, .inl gt7u1)), (yr 43, .inl (cT 0, 19, .inl f1u3))] := hD
  have e33 : ∀ q, q < 19 → f1u3 q = gt7u1 q := fun q hq => by have q0 := hpu3.1 q hq; rw [Nat.zero_add] at q0; exact q0
  refine lv_iconst (v := 1) hx hb dM_best_36 (by decide) ?_
  refine lv_istore hx hb dM_best_37 hl (by decide) rfl (fun ls hl => ?_)
  have hl : lv_has ls 5 [(4, .int 1), (3, .int 0), (0, .ref y), (1, .long x)] := hl
  have hl : lv_has ls 5 [(4, .int 1), (3, .int (nI (bst (sqs X x n) (sqd Pp) 0))), (0, .ref y), (1, .long x)] := by
    rw [show nI (bst (sqs X x n) (sqd Pp) 0) = 0 from rfl]; exact hl
  have hl : lv_has ls 5 [(4, .int (nI (0 + 1))), (3, .int (nI (bst (sqs X x n) (sqd Pp) 0))), (0, .ref y), (1, .long x)] := by
    rw [show nI (0 + 1) = 1 from rfl]; exact hl
  refine lp_w (α := Nat × Int × (Nat → Int32) × (Nat → Int32) × (Nat → Int32) × (Nat → Int32) × (Nat → Int32) × (Nat → Int32) × (Nat → Int32) × (Nat → Int32) × (Nat → Int32)) (fun a9 => a9.1 ≤ T ∧ MN a9.2.2.1 a9.2.1 ∧ LOK a9.2.2.2.1 (2 * bb) ∧ RED a9.2.1 a9.2.2.2.1 ∧ a9.2.1 * ((sqd Pp (bst (sqs X x n) (sqd Pp) a9.1) : Nat) : Int) = sqs X x n (bst (sqs X x n) (sqd Pp) a9.1) * (dn a9.2.2.2.1 : Int)) (fun a9 => T - a9.1) (fun a9 => [(0, .ref y), (1, .long x), (3, .int (nI (bst (sqs X x n) (sqd Pp) a9.1))), (4, .int (nI (a9.1 + 1)))]) (fun a9 => [(y, .inr (11, MO yr (va_up yi 1 0) ysb ybs)), (yr 0, .inl (cT 0, 19, .inl fp)), (yr 29, .inl (cT 0, 302, .inl a9.2.2.2.2.2.2.2.1)), (yr 40, .inl (cT 0, 19, .inl a9.2.2.2.2.2.2.2.2.1)), (yr 30, .inl (cT 0, 302, .inl a9.2.2.2.2.2.2.2.2.2.1)), (yr 41, .inl (cT 0, 19, .inl a9.2.2.2.2.2.2.2.2.2.2)), (yr 32, .inl (cT 0, 302, .inl a9.2.2.2.2.2.2.1)), (yr 4, .inl (cT 0, 48, .inl tg)), (yr 27, .inl (cT 0, 65472, .inl up)), (yr 28, .inl (cT 0, 9424, .inl lw)), (yr 19, .inl (cT 0, 496, .inl nc)), (yr 22, .inl (cT 0, 496, .inl nl)), (yr 23, .inl (cT 0, 496, .inl nr)), (yr 5, .inl (cT 0, 288, .inl vv)), (yr 21, .inl (cT 3, 496, .inl tl)), (yr 26, .inl (cT 3, 496, .inl kd)), (yr 20, .inl (cT 0, 496, .inl ed)), (yr 37, .inl (cT 0, 302, .inl a9.2.2.2.2.1)), (yr 38, .inl (cT 0, 302, .inl a9.2.2.1)), (yr 42, .inl (cT 0, 19, .inl a9.2.2.2.2.2.1)), (yr 43, .inl (cT 0, 19, .inl a9.2.2.2.1))]) 39 ?_ (0, zt7u1, f1u2, f1u3, ft7u1, gt7u1, fq7u1, f7u1, g7u1, f8u1, g8u1) (show 0 ≤ T ∧ MN f1u2 zt7u1 ∧ LOK f1u3 (2 * bb) ∧ RED zt7u1 f1u3 ∧ zt7u1 * ((sqd Pp (bst (sqs X x n) (sqd Pp) 0) : Nat) : Int) = sqs X x n (bst (sqs X x n) (sqd Pp) 0) * (dn f1u3 : Int) from ⟨by omega, bN, lok_cg wL e33, red_cg wR e33, by rw [dn_cg e33]; exact wv⟩) (lv_sub hl [2, 3, 1, 0] rfl) hP hD hS
  intro a9 hI39 ih39 ls H locs hl hP hD hS
  obtain ⟨k, zb, fb, gb, ft, gt, fq, f1, g1, f3, g3⟩ := a9
  have hI39 : k ≤ T ∧ MN fb zb ∧ LOK gb (2 * bb) ∧ RED zb gb ∧ zb * ((sqd Pp (bst (sqs X x n) (sqd Pp) k) : Nat) : Int) = sqs X x n (bst (sqs X x n) (sqd Pp) k) * (dn gb : Int) := hI39
  obtain ⟨ik9, iN, iL, iR, iv⟩ := hI39
  have hl : lv_has ls 5 [(0, .ref y), (1, .long x), (3, .int (nI (bst (sqs X x n) (sqd Pp) k))), (4, .int (nI (k + 1)))] := hl
  have hP : va_P D vwCl [(y, .inr (11, MO yr (va_up yi 1 0) ysb ybs)), (yr 0, .inl (cT 0, 19, .inl fp)), (yr 29, .inl (cT 0, 302, .inl f1)), (yr 40, .inl (cT 0, 19, .inl g1)), (yr 30, .inl (cT 0, 302, .inl f3)), (yr 41, .inl (cT 0, 19, .inl g3)), (yr 32, .inl (cT 0, 302, .inl fq)), (yr 4, .inl (cT 0, 48, .inl tg)), (yr 27, .inl (cT 0, 65472, .inl up)), (yr 28, .inl (cT 0, 9424, .inl lw)), (yr 19, .inl (cT 0, 496, .inl nc)), (yr 22, .inl (cT 0, 496, .inl nl)), (yr 23, .inl (cT 0, 496, .inl nr)), (yr 5, .inl (cT 0, 288, .inl vv)), (yr 21, .inl (cT 3, 496, .inl tl)), (yr 26, .inl (cT 3, 496, .inl kd)), (yr 20, .inl (cT 0, 496, .inl ed)), (yr 37, .inl (cT 0, 302, .inl ft)), (yr 38, .inl (cT 0, 302, .inl fb)), (yr 42, .inl (cT 0, 19, .inl gt)), (yr 43, .inl (cT 0, 19, .inl gb))] _ := hP
  have hD : va_D A [(y, .inr (11, MO yr (va_up yi 1 0) ysb ybs)), (yr 0, .inl (cT 0, 19, .inl fp)), (yr 29, .inl (cT 0, 302, .inl f1)), (yr 40, .inl (cT 0, 19, .inl g1)), (yr 30, .inl (cT 0, 302, .inl f3)), (yr 41, .inl (cT 0, 19, .inl g3)), (yr 32, .inl (cT 0, 302, .inl fq)), (yr 4, .inl (cT 0, 48, .inl tg)), (yr 27, .inl (cT 0, 65472, .inl up)), (yr 28, .inl (cT 0, 9424, .inl lw)), (yr 19, .inl (cT 0, 496, .inl nc)), (yr 22, .inl (cT 0, 496, .inl nl)), (yr 23, .inl (cT 0, 496, .inl nr)), (yr 5, .inl (cT 0, 288, .inl vv)), (yr 21, .inl (cT 3, 496, .inl tl)), (yr 26, .inl (cT 3, 496, .inl kd)), (yr 20, .inl (cT 0, 496, .inl ed)), (yr 37, .inl (cT 0, 302, .inl ft)), (yr 38, .inl (cT 0, 302, .inl fb)), (yr 42, .inl (cT 0, 19, .inl gt)), (yr 43, .inl (cT 0, 19, .inl gb))] := hD
  refine lv_iload hx hb dM_best_39 (lv_at hl 3 rfl) ?_
  refine lv_aload_n hx hb dM_best_41 rfl (lv_at hl 0 rfl) ?_
  refine va_get (D := D) (ci := 11) (v := .int ((va_up yi 1 0) 17)) (C := R_M) (T := T_M) (N := 60) hx hb hT in_M hown hK hP 0 rfl rfl 17 (by decide) (hT _ w1121) (fun _ h9 => h9) rfl dM_best_42 ?_
  refine lv_topi (fun y9 e9 => ?_)
  cases (show y9 = nI T from e9.trans hTT)
  refine lv_icmp_gt (tgt := 179) hx hb dM_best_45 rfl (fun h4 => ?_) (fun h4 => ?_)
  · have gh4 : T < k + 1 := (nI_ltI (a := T) (b := k + 1) (by omega) (by omega)).mp h4
    have eT : k = T := by omega
    have hl : lv_has ls 5 [(0, .ref y), (1, .long x), (3, .int (nI (bst (sqs X x n) (sqd Pp) T))), (4, .int (nI (k + 1)))] := by
      rw [show bst (sqs X x n) (sqd Pp) T = bst (sqs X x n) (sqd Pp) k by rw [eT]]; exact hl
    refine lv_iload_n hx hb dM_best_179 rfl (lv_at hl 2 rfl) ?_
    have hP9 := hP.sub (ws' := [(y, .inr (11, MO yr (va_up yi 1 0) ysb ybs)), (yr 0, .inl (cT 0, 19, .inl fp)), (yr 29, .inl (cT 0, 302, .inl f1)), (yr 40, .inl (cT 0, 19, .inl g1)), (yr 30, .inl (cT 0, 302, .inl f3)), (yr 41, .inl (cT 0, 19, .inl g3)), (yr 37, .inl (cT 0, 302, .inl ft)), (yr 42, .inl (cT 0, 19, .inl gt)), (yr 32, .inl (cT 0, 302, .inl fq)), (yr 4, .inl (cT 0, 48, .inl tg)), (yr 27, .inl (cT 0, 65472, .inl up)), (yr 28, .inl (cT 0, 9424, .inl lw)), (yr 19, .inl (cT 0, 496, .inl nc)), (yr 22, .inl (cT 0, 496, .inl nl)), (yr 23, .inl (cT 0, 496, .inl nr)), (yr 5, .inl (cT 0, 288, .inl vv)), (yr 21, .inl (cT 3, 496, .inl tl)), (yr 26, .inl (cT 3, 496, .inl kd)), (yr 20, .inl (cT 0, 496, .inl ed)), (yr 38, .inl (cT 0, 302, .inl fb)), (yr 43, .inl (cT 0, 19, .inl gb))]) [0, 1, 2, 3, 4, 5, 17, 19, 6, 7, 8, 9, 10, 11, 12, 13, 14, 15, 16, 18, 20] rfl
    have hD9 := hD.sub (ws' := [(y, .inr (11, MO yr (va_up yi 1 0) ysb ybs)), (yr 0, .inl (cT 0, 19, .inl fp)), (yr 29, .inl (cT 0, 302, .inl f1)), (yr 40, .inl (cT 0, 19, .inl g1)), (yr 30, .inl (cT 0, 302, .inl f3)), (yr 41, .inl (cT 0, 19, .inl g3)), (yr 37, .inl (cT 0, 302, .inl ft)), (yr 42, .inl (cT 0, 19, .inl gt)), (yr 32, .inl (cT 0, 302, .inl fq)), (yr 4, .inl (cT 0, 48, .inl tg)), (yr 27, .inl (cT 0, 65472, .inl up)), (yr 28, .inl (cT 0, 9424, .inl lw)), (yr 19, .inl (cT 0, 496, .inl nc)), (yr 22, .inl (cT 0, 496, .inl nl)), (yr 23, .inl (cT 0, 496, .inl nr)), (yr 5, .inl (cT 0, 288, .inl vv)), (yr 21, .inl (cT 3, 496, .inl tl)), (yr 26, .inl (cT 3, 496, .inl kd)), (yr 20, .inl (cT 0, 496, .inl ed)), (yr 38, .inl (cT 0, 302, .inl fb)), (yr 43, .inl (cT 0, 19, .inl gb))]) [0, 1, 2, 3, 4, 5, 17, 19, 6, 7, 8, 9, 10, 11, 12, 13, 14, 15, 16, 18, 20] (by decide) rfl
    refine W.widen (k := 0) (n := 0) (Nat.le_of_ble_eq_true rfl) (Nat.le_of_ble_eq_true rfl) ?_
    exact W.iret (v := nI (bst (sqs X x n) (sqd Pp) T)) hx hb hr (fun t9 ht9 hW9 => ⟨⟨nI (bst (sqs X x n) (sqd Pp) T), (ft, gt, fq, f1, g1, f3, g3, fb, gb), rfl, (show (nI (bst (sqs X x n) (sqd Pp) T)) = nI (bst (sqs X x n) (sqd Pp) T) from rfl), by rw [ht9]; exact hP9, hD9⟩, hS.F ht9⟩) hS.2.2 dM_best_180
  · have gh4 : k + 1 ≤ T := Nat.not_lt.mp (fun q => h4 ((nI_ltI (a := T) (b := k + 1) (by omega) (by omega)).mpr q))
    refine lv_aload_n hx hb dM_best_48 rfl (lv_at hl 0 rfl) ?_
    refine lv_lload_n hx hb dM_best_49 rfl (lv_at hl 1 rfl) ?_
    refine lv_iload hx hb dM_best_50 (lv_at hl 3 rfl) ?_
    refine rw_v (wc := [(y, .inr (11, MO yr (va_up yi 1 0) ysb ybs)), (yr 0, .inl (cT 0, 19, .inl fp)), (yr 29, .inl (cT 0, 302, .inl f1)), (yr 40, .inl (cT 0, 19, .inl g1)), (yr 30, .inl (cT 0, 302, .inl f3)), (yr 41, .inl (cT 0, 19, .inl g3)), (yr 37, .inl (cT 0, 302, .inl ft)), (yr 42, .inl (cT 0, 19, .inl gt)), (yr 32, .inl (cT 0, 302, .inl fq)), (yr 4, .inl (cT 0, 48, .inl tg)), (yr 27, .inl (cT 0, 65472, .inl up)), (yr 28, .inl (cT 0, 9424, .inl lw)), (yr 19, .inl (cT 0, 496, .inl nc)), (yr 22, .inl (cT 0, 496, .inl nl)), (yr 23, .inl (cT 0, 496, .inl nr)), (yr 5, .inl (cT 0, 288, .inl vv)), (yr 21, .inl (cT 3, 496, .inl tl)), (yr 26, .inl (cT 3, 496, .inl kd)), (yr 20, .inl (cT 0, 496, .inl ed))]) (wr := [(yr 38, .inl (cT 0, 302, .inl fb)), (yr 43, .inl (cT 0, 19, .inl gb))]) hP hD hS hA [0, 1, 2, 3, 4, 5, 17, 19, 6, 7, 8, 9, 10, 11, 12, 13, 14, 15, 16] [18, 20] rfl rfl (by decide) (by decide) (va_runV (As := [.long x, .int (nI (k + 1))]) (rest := []) ⟨hx, hb, hml, hown, hT⟩ (m_ssq l D cT y yr (va_up yi 1 0) ysb ybs fp nc nl nr tl kd ed vv up lw f1 g1 f3 g3 ft gt fq T n bb nm dp go lf Pp sc X LX PB XB tg x (k + 1) hPR (yu (by decide) hn) hn48 hT16 htg0 hC hBB hT9 htl hgo hlf hlfb hNF hbb hPB0 hSB (by omega) _) ⟨callB_of 2 hT (tb_gd w1583) rfl rfl rfl (hT _ w13) (hT _ w1580) hM_sumSquares ⟨Nat.le_of_ble_eq_true rfl, Nat.le_of_ble_eq_true rfl⟩, (hT _ w1582), (hT _ wp64)⟩ (RW.preV (ci := 11) (q0 := 0) hZ hS (va_free (wc := [(y, .inr (11, MO yr (va_up yi 1 0) ysb ybs)), (yr 0, .inl (cT 0, 19, .inl fp)), (yr 29, .inl (cT 0, 302, .inl f1)), (yr 40, .inl (cT 0, 19, .inl g1)), (yr 30, .inl (cT 0, 302, .inl f3)), (yr 41, .inl (cT 0, 19, .inl g3)), (yr 37, .inl (cT 0, 302, .inl ft)), (yr 42, .inl (cT 0, 19, .inl gt)), (yr 32, .inl (cT 0, 302, .inl fq)), (yr 4, .inl (cT 0, 48, .inl tg)), (yr 27, .inl (cT 0, 65472, .inl up)), (yr 28, .inl (cT 0, 9424, .inl lw)), (yr 19, .inl (cT 0, 496, .inl nc)), (yr 22, .inl (cT 0, 496, .inl nl)), (yr 23, .inl (cT 0, 496, .inl nr)), (yr 5, .inl (cT 0, 288, .inl vv)), (yr 21, .inl (cT 3, 496, .inl tl)), (yr 26, .inl (cT 3, 496, .inl kd)), (yr 20, .inl (cT 0, 496, .inl ed))]) hD hS hA [0, 1, 2, 3, 4, 5, 17, 19, 6, 7, 8, 9, 10, 11, 12, 13, 14, 15, 16] rfl) (hP.sub (ws' := [(y, .inr (11, MO yr (va_up yi 1 0) ysb ybs)), (yr 0, .inl (cT 0, 19, .inl fp)), (yr 29, .inl (cT 0, 302, .inl f1)), (yr 40, .inl (cT 0, 19, .inl g1)), (yr 30, .inl (cT 0, 302, .inl f3)), (yr 41, .inl (cT 0, 19, .inl g3)), (yr 37, .inl (cT 0, 302, .inl ft)), (yr 42, .inl (cT 0, 19, .inl gt)), (yr 32, .inl (cT 0, 302, .inl fq)), (yr 4, .inl (cT 0, 48, .inl tg)), (yr 27, .inl (cT 0, 65472, .inl up)), (yr 28, .inl (cT 0, 9424, .inl lw)), (yr 19, .inl (cT 0, 496, .inl nc)), (yr 22, .inl (cT 0, 496, .inl nl)), (yr 23, .inl (cT 0, 496, .inl nr)), (yr 5, .inl (cT 0, 288, .inl vv)), (yr 21, .inl (cT 3, 496, .inl tl)), (yr 26, .inl (cT 3, 496, .inl kd)), (yr 20, .inl (cT 0, 496, .inl ed))]) [0, 1, 2, 3, 4, 5, 17, 19, 6, 7, 8, 9, 10, 11, 12, 13, 14, 15, 16] rfl) hK (hD.sub (ws' := [(y, .inr (11, MO yr (va_up yi 1 0) ysb ybs)), (yr 0, .inl (cT 0, 19, .inl fp)), (yr 29, .inl (cT 0, 302, .inl f1)), (yr 40, .inl (cT 0, 19, .inl g1)), (yr 30, .inl (cT 0, 302, .inl f3)), (yr 41, .inl (cT 0, 19, .inl g3)), (yr 37, .inl (cT 0, 302, .inl ft)), (yr 42, .inl (cT 0, 19, .inl gt)), (yr 32, .inl (cT 0, 302, .inl fq)), (yr 4, .inl (cT 0, 48, .inl tg)), (yr 27, .inl (cT 0, 65472, .inl up)), (yr 28, .inl (cT 0, 9424, .inl lw)), (yr 19, .inl (cT 0, 496, .inl nc)), (yr 22, .inl (cT 0, 496, .inl nl)), (yr 23, .inl (cT 0, 496, .inl nr)), (yr 5, .inl (cT 0, 288, .inl vv)), (yr 21, .inl (cT 3, 496, .inl tl)), (yr 26, .inl (cT 3, 496, .inl kd)), (yr 20, .inl (cT 0, 496, .inl ed))]) [0, 1, 2, 3, 4, 5, 17, 19, 6, 7, 8, 9, 10, 11, 12, 13, 14, 15, 16] (by decide) rfl) rfl rfl) rfl rfl hl.1 rfl (lv_room (Nat.le_of_ble_eq_true rfl)) dM_best_52 ⟨Nat.le_of_ble_eq_true rfl, Nat.le_of_ble_eq_true rfl⟩) (fun u9 H locs hpu5 hP hD hS => ?_)
    obtain ⟨zt7u5, ft7u5, gt7u5, fq7u5, f7u5, g7u5, f8u5, g8u5⟩ := u9
    have hpu5 : MN ft7u5 zt7u5 ∧ LOK gt7u5 (2 * bb) ∧ RED zt7u5 gt7u5 ∧ zt7u5 * ((sqd Pp (k + 1) : Nat) : Int) = sqs X x n (k + 1) * (dn gt7u5 : Int) := hpu5
    have hP : va_P D vwCl [(yr 38, .inl (cT 0, 302, .inl fb)), (yr 43, .inl (cT 0, 19, .inl gb)), (y, .inr (11, MO yr (va_up yi 1 0) ysb ybs)), (yr 0, .inl (cT 0, 19, .inl fp)), (yr 29, .inl (cT 0, 302, .inl f7u5)), (yr 40, .inl (cT 0, 19, .inl g7u5)), (yr 30, .inl (cT 0, 302, .inl f8u5)), (yr 41, .inl (cT 0, 19, .inl g8u5)), (yr 37, .inl (cT 0, 302, .inl ft7u5)), (yr 42, .inl (cT 0, 19, .inl gt7u5)), (yr 32, .inl (cT 0, 302, .inl fq7u5)), (yr 4, .inl (cT 0, 48, .inl tg)), (yr 27, .inl (cT 0, 65472, .inl up)), (yr 28, .inl (cT 0, 9424, .inl lw)), (yr 19, .inl (cT 0, 496, .inl nc)), (yr 22, .inl (cT 0, 496, .inl nl)), (yr 23, .inl (cT 0, 496, .inl nr)), (yr 5, .inl (cT 0, 288, .inl vv)), (yr 21, .inl (cT 3, 496, .inl tl)), (yr 26, .inl (cT 3, 496, .inl kd)), (yr 20, .inl (cT 0, 496, .inl ed))] _ := hP
    have hD : va_D A [(yr 38, .inl (cT 0, 302, .inl fb)), (yr 43, .inl (cT 0, 19, .inl gb)), (y, .inr (11, MO yr (va_up yi 1 0) ysb ybs)), (yr 0, .inl (cT 0, 19, .inl fp)), (yr 29, .inl (cT 0, 302, .inl f7u5)), (yr 40, .inl (cT 0, 19, .inl g7u5)), (yr 30, .inl (cT 0, 302, .inl f8u5)), (yr 41, .inl (cT 0, 19, .inl g8u5)), (yr 37, .inl (cT 0, 302, .inl ft7u5)), (yr 42, .inl (cT 0, 19, .inl gt7u5)), (yr 32, .inl (cT 0, 302, .inl fq7u5)), (yr 4, .inl (cT 0, 48, .inl tg)), (yr 27, .inl (cT 0, 65472, .inl up)), (yr 28, .inl (cT 0, 9424, .inl lw)), (yr 19, .inl (cT 0, 496, .inl nc)), (yr 22, .inl (cT 0, 496, .inl nl)), (yr 23, .inl (cT 0, 496, .inl nr)), (yr 5, .inl (cT 0, 288, .inl vv)), (yr 21, .inl (cT 3, 496, .inl tl)), (yr 26, .inl (cT 3, 496, .inl kd)), (yr 20, .inl (cT 0, 496, .inl ed))] := hD
    obtain ⟨uN, uL, uR, uv⟩ := hpu5
    have hP1 := hPp (k + 1) (by omega)
    have hb9 := bst_le (sqs X x n) (sqd Pp) k
    have hP2 := hPp (bst (sqs X x n) (sqd Pp) k) (by omega)
    have ub := red_le (Nat.mul_pos hP1.1 hP1.1) uR uv
    have uz := Nat.le_trans ub.1 (sqs_le (x := x) (fun i hi => ((hC i hi).2.2 (k + 1) (by omega)).2.2) hn48 n (Nat.le_refl _))
    have ud := Nat.le_trans ub.2 (Nat.mul_le_mul hP1.2 hP1.2)
    have ib := red_le (Nat.mul_pos hP2.1 hP2.1) iR iv
    have iz := Nat.le_trans ib.1 (sqs_le (x := x) (fun i hi => ((hC i hi).2.2 (bst (sqs X x n) (sqd Pp) k) (by omega)).2.2) hn48 n (Nat.le_refl _))
    have id := Nat.le_trans ib.2 (Nat.mul_le_mul hP2.2 hP2.2)
    refine lv_aload_n hx hb dM_best_55 rfl (lv_at hl 0 rfl) ?_
    refine va_get (D := D) (ci := 11) (v := .ref (yr 37)) (C := R_M) (T := T_M) (N := 60) hx hb hT in_M hown hK hP 2 rfl rfl 37 (by decide) (hT _ w1141) (fun _ h9 => h9) rfl dM_best_56 ?_
    refine lv_aload_n hx hb dM_best_59 rfl (lv_at hl 0 rfl) ?_
    refine va_get (D := D) (ci := 11) (v := .ref (yr 29)) (C := R_M) (T := T_M) (N := 60) hx hb hT in_M hown hK hP 2 rfl rfl 29 (by decide) (hT _ w1133) (fun _ h9 => h9) rfl dM_best_60 ?_
    refine rw_v (wc := [(yr 37, .inl (cT 0, 302, .inl ft7u5)), (yr 29, .inl (cT 0, 302, .inl f7u5))]) (wr := [(yr 38, .inl (cT 0, 302, .inl fb)), (yr 43, .inl (cT 0, 19, .inl gb)), (y, .inr (11, MO yr (va_up yi 1 0) ysb ybs)), (yr 0, .inl (cT 0, 19, .inl fp)), (yr 40, .inl (cT 0, 19, .inl g7u5)), (yr 30, .inl (cT 0, 302, .inl f8u5)), (yr 41, .inl (cT 0, 19, .inl g8u5)), (yr 42, .inl (cT 0, 19, .inl gt7u5)), (yr 32, .inl (cT 0, 302, .inl fq7u5)), (yr 4, .inl (cT 0, 48, .inl tg)), (yr 27, .inl (cT 0, 65472, .inl up)), (yr 28, .inl (cT 0, 9424, .inl lw)), (yr 19, .inl (cT 0, 496, .inl nc)), (yr 22, .inl (cT 0, 496, .inl nl)), (yr 23, .inl (cT 0, 496, .inl nr)), (yr 5, .inl (cT 0, 288, .inl vv)), (yr 21, .inl (cT 3, 496, .inl tl)), (yr 26, .inl (cT 3, 496, .inl kd)), (yr 20, .inl (cT 0, 496, .inl ed))]) hP hD hS hA [8, 4] [0, 1, 2, 3, 5, 6, 7, 9, 10, 11, 12, 13, 14, 15, 16, 17, 18, 19, 20] rfl rfl (by decide) (by decide) (va_runS (As := [.ref (yr 37), .ref (yr 29)]) (rest := []) ⟨hx, hb, hml, hown, hT⟩ (m_copy l D cT (yr 37) ft7u5 zt7u5 (yr 29) f7u5 uN _) ⟨callB_of 2 hT (tb_gd w1426) rfl rfl rfl (hT _ w13) (hT _ w1424) hM_copy ⟨Nat.le_of_ble_eq_true rfl, Nat.le_of_ble_eq_true rfl⟩, (hT _ w1425)⟩ (RW.preS hZ hS (va_free (wc := [(yr 37, .inl (cT 0, 302, .inl ft7u5)), (yr 29, .inl (cT 0, 302, .inl f7u5))]) hD hS hA [8, 4] rfl) (hP.sub (ws' := [(yr 37, .inl (cT 0, 302, .inl ft7u5)), (yr 29, .inl (cT 0, 302, .inl f7u5))]) [8, 4] rfl) hK (hD.sub (ws' := [(yr 37, .inl (cT 0, 302, .inl ft7u5)), (yr 29, .inl (cT 0, 302, .inl f7u5))]) [8, 4] (by decide) rfl)) rfl rfl hl.1 rfl (lv_room (Nat.le_of_ble_eq_true rfl)) dM_best_63 ⟨Nat.le_of_ble_eq_true rfl, Nat.le_of_ble_eq_true rfl⟩) (fun u9 H locs hpu6 hP hD hS => ?_)
    obtain ⟨f1u6, rfl⟩ : ∃ q9, q9 = u9 := ⟨_, rfl⟩
    have hpu6 : MN f1u6 zt7u5 := hpu6
    have hP : va_P D vwCl [(yr 38, .inl (cT 0, 302, .inl fb)), (yr 43, .inl (cT 0, 19, .inl gb)), (y, .inr (11, MO yr (va_up yi 1 0) ysb ybs)), (yr 0, .inl (cT 0, 19, .inl fp)), (yr 40, .inl (cT 0, 19, .inl g7u5)), (yr 30, .inl (cT 0, 302, .inl f8u5)), (yr 41, .inl (cT 0, 19, .inl g8u5)), (yr 42, .inl (cT 0, 19, .inl gt7u5)), (yr 32, .inl (cT 0, 302, .inl fq7u5)), (yr 4, .inl (cT 0, 48, .inl tg)), (yr 27, .inl (cT 0, 65472, .inl up)), (yr 28, .inl (cT 0, 9424, .inl lw)), (yr 19, .inl (cT 0, 496, .inl nc)), (yr 22, .inl (cT 0, 496, .inl nl)), (yr 23, .inl (cT 0, 496, .inl nr)), (yr 5, .inl (cT 0, 288, .inl vv)), (yr 21, .inl (cT 3, 496, .inl tl)), (yr 26, .inl (cT 3, 496, .inl kd)), (yr 20, .inl (cT 0, 496, .inl ed)), (yr 37, .inl (cT 0, 302, .inl ft7u5)), (yr 29, .inl (cT 0, 302, .inl f1u6))] _ := hP
    have hD : va_D A [(yr 38, .inl (cT 0, 302, .inl fb)), (yr 43, .inl (cT 0, 19, .inl gb)), (y, .inr (11, MO yr (va_up yi 1 0) ysb ybs)), (yr 0, .inl (cT 0, 19, .inl fp)), (yr 40, .inl (cT 0, 19, .inl g7u5)), (yr 30, .inl (cT 0, 302, .inl f8u5)), (yr 41, .inl (cT 0, 19, .inl g8u5)), (yr 42, .inl (cT 0, 19, .inl gt7u5)), (yr 32, .inl (cT 0, 302, .inl fq7u5)), (yr 4, .inl (cT 0, 48, .inl tg)), (yr 27, .inl (cT 0, 65472, .inl up)), (yr 28, .inl (cT 0, 9424, .inl lw)), (yr 19, .inl (cT 0, 496, .inl nc)), (yr 22, .inl (cT 0, 496, .inl nl)), (yr 23, .inl (cT 0, 496, .inl nr)), (yr 5, .inl (cT 0, 288, .inl vv)), (yr 21, .inl (cT 3, 496, .inl tl)), (yr 26, .inl (cT 3, 496, .inl kd)), (yr 20, .inl (cT 0, 496, .inl ed)), (yr 37, .inl (cT 0, 302, .inl ft7u5)), (yr 29, .inl (cT 0, 302, .inl f1u6))] := hD
    have oN := hpu6
    refine lv_aload_n hx hb dM_best_66 rfl (lv_at hl 0 rfl) ?_
    refine va_get (D := D) (ci := 11) (v := .ref (yr 42)) (C := R_M) (T := T_M) (N := 60) hx hb hT in_M hown hK hP 2 rfl rfl 42 (by decide) (hT _ w1146) (fun _ h9 => h9) rfl dM_best_67 ?_
    refine lv_aload_n hx hb dM_best_70 rfl (lv_at hl 0 rfl) ?_
    refine va_get (D := D) (ci := 11) (v := .ref (yr 40)) (C := R_M) (T := T_M) (N := 60) hx hb hT in_M hown hK hP 2 rfl rfl 40 (by decide) (hT _ w1144) (fun _ h9 => h9) rfl dM_best_71 ?_
    refine lv_iconst (v := 0) hx hb dM_best_74 (by decide) ?_
    refine rw_v (wc := [(yr 42, .inl (cT 0, 19, .inl gt7u5)), (yr 40, .inl (cT 0, 19, .inl g7u5))]) (wr := [(yr 38, .inl (cT 0, 302, .inl fb)), (yr 43, .inl (cT 0, 19, .inl gb)), (y, .inr (11, MO yr (va_up yi 1 0) ysb ybs)), (yr 0, .inl (cT 0, 19, .inl fp)), (yr 30, .inl (cT 0, 302, .inl f8u5)), (yr 41, .inl (cT 0, 19, .inl g8u5)), (yr 32, .inl (cT 0, 302, .inl fq7u5)), (yr 4, .inl (cT 0, 48, .inl tg)), (yr 27, .inl (cT 0, 65472, .inl up)), (yr 28, .inl (cT 0, 9424, .inl lw)), (yr 19, .inl (cT 0, 496, .inl nc)), (yr 22, .inl (cT 0, 496, .inl nl)), (yr 23, .inl (cT 0, 496, .inl nr)), (yr 5, .inl (cT 0, 288, .inl vv)), (yr 21, .inl (cT 3, 496, .inl tl)), (yr 26, .inl (cT 3, 496, .inl kd)), (yr 20, .inl (cT 0, 496, .inl ed)), (yr 37, .inl (cT 0, 302, .inl ft7u5)), (yr 29, .inl (cT 0, 302, .inl f1u6))]) hP hD hS hA [7, 4] [0, 1, 2, 3, 5, 6, 8, 9, 10, 11, 12, 13, 14, 15, 16, 17, 18, 19, 20] rfl rfl (by decide) (by decide) (va_runS (As := [.ref (yr 42), .ref (yr 40), .int 0]) (rest := []) ⟨hx, hb, hml, hown, hT⟩ (m_storeL l D cT (yr 42) gt7u5 (yr 40) 19 g7u5 0 (by decide) (by decide) _) ⟨callB_of 3 hT (tb_gd w1452) rfl rfl rfl (hT _ w13) (hT _ w1450) hM_storeLows ⟨Nat.le_of_ble_eq_true rfl, Nat.le_of_ble_eq_true rfl⟩, (hT _ w1451)⟩ (RW.preS hZ hS (va_free (wc := [(yr 42, .inl (cT 0, 19, .inl gt7u5)), (yr 40, .inl (cT 0, 19, .inl g7u5))]) hD hS hA [7, 4] rfl) (hP.sub (ws' := [(yr 42, .inl (cT 0, 19, .inl gt7u5)), (yr 40, .inl (cT 0, 19, .inl g7u5))]) [7, 4] rfl) hK (hD.sub (ws' := [(yr 42, .inl (cT 0, 19, .inl gt7u5)), (yr 40, .inl (cT 0, 19, .inl g7u5))]) [7, 4] (by decide) rfl)) rfl rfl hl.1 rfl (lv_room (Nat.le_of_ble_eq_true rfl)) dM_best_75 ⟨Nat.le_of_ble_eq_true rfl, Nat.le_of_ble_eq_true rfl⟩) (fun u9 H locs hpu7 hP hD hS => ?_)
    obtain ⟨f1u7, rfl⟩ : ∃ q9, q9 = u9 := ⟨_, rfl⟩
    have hpu7 : (∀ q8, q8 < 19 → f1u7 (0 + q8) = gt7u5 q8) ∧ ∀ q8, q8 < 0 ∨ 0 + 19 ≤ q8 → f1u7 q8 = g7u5 q8 := hpu7
    have hP : va_P D vwCl [(yr 38, .inl (cT 0, 302, .inl fb)), (yr 43, .inl (cT 0, 19, .inl gb)), (y, .inr (11, MO yr (va_up yi 1 0) ysb ybs)), (yr 0, .inl (cT 0, 19, .inl fp)), (yr 30, .inl (cT 0, 302, .inl f8u5)), (yr 41, .inl (cT 0, 19, .inl g8u5)), (yr 32, .inl (cT 0, 302, .inl fq7u5)), (yr 4, .inl (cT 0, 48, .inl tg)), (yr 27, .inl (cT 0, 65472, .inl up)), (yr 28, .inl (cT 0, 9424, .inl lw)), (yr 19, .inl (cT 0, 496, .inl nc)), (yr 22, .inl (cT 0, 496, .inl nl)), (yr 23, .inl (cT 0, 496, .inl nr)), (yr 5, .inl (cT 0, 288, .inl vv)), (yr 21, .inl (cT 3, 496, .inl tl)), (yr 26, .inl (cT 3, 496, .inl kd)), (yr 20, .inl (cT 0, 496, .inl ed)), (yr 37, .inl (cT 0, 302, .inl ft7u5)), (yr 29, .inl (cT 0, 302, .inl f1u6)), (yr 42, .inl (cT 0, 19, .inl gt7u5)), (yr 40, .inl (cT 0, 19, .inl f1u7))] _ := hP
    have hD : va_D A [(yr 38, .inl (cT 0, 302, .inl fb)), (yr 43, .inl (cT 0, 19, .inl gb)), (y, .inr (11, MO yr (va_up yi 1 0) ysb ybs)), (yr 0, .inl (cT 0, 19, .inl fp)), (yr 30, .inl (cT 0, 302, .inl f8u5)), (yr 41, .inl (cT 0, 19, .inl g8u5)), (yr 32, .inl (cT 0, 302, .inl fq7u5)), (yr 4, .inl (cT 0, 48, .inl tg)), (yr 27, .inl (cT 0, 65472, .inl up)), (yr 28, .inl (cT 0, 9424, .inl lw)), (yr 19, .inl (cT 0, 496, .inl nc)), (yr 22, .inl (cT 0, 496, .inl nl)), (yr 23, .inl (cT 0, 496, .inl nr)), (yr 5, .inl (cT 0, 288, .inl vv)), (yr 21, .inl (cT 3, 496, .inl tl)), (yr 26, .inl (cT 3, 496, .inl kd)), (yr 20, .inl (cT 0, 496, .inl ed)), (yr 37, .inl (cT 0, 302, .inl ft7u5)), (yr 29, .inl (cT 0, 302, .inl f1u6)), (yr 42, .inl (cT 0, 19, .inl gt7u5)), (yr 40, .inl (cT 0, 19, .inl f1u7))] := hD
    have oE : ∀ q, q < 19 → f1u7 q = gt7u5 q := fun q hq => by have q0 := hpu7.1 q hq; rw [Nat.zero_add] at q0; exact q0
    have oL := lok_cg uL oE
    have oD := dn_cg oE
    have oG := fun q hq => dg_cg (oE q hq)
    refine lv_aload_n hx hb dM_best_78 rfl (lv_at hl 0 rfl) ?_
    refine lv_aload_n hx hb dM_best_79 rfl (lv_at hl 0 rfl) ?_
    refine va_get (D := D) (ci := 11) (v := .ref (yr 29)) (C := R_M) (T := T_M) (N := 60) hx hb hT in_M hown hK hP 2 rfl rfl 29 (by decide) (hT _ w1133) (fun _ h9 => h9) rfl dM_best_80 ?_
    refine lv_aload_n hx hb dM_best_83 rfl (lv_at hl 0 rfl) ?_
    refine va_get (D := D) (ci := 11) (v := .ref (yr 40)) (C := R_M) (T := T_M) (N := 60) hx hb hT in_M hown hK hP 2 rfl rfl 40 (by decide) (hT _ w1144) (fun _ h9 => h9) rfl dM_best_84 ?_
    refine lv_aload_n hx hb dM_best_87 rfl (lv_at hl 0 rfl) ?_
    refine va_get (D := D) (ci := 11) (v := .ref (yr 43)) (C := R_M) (T := T_M) (N := 60) hx hb hT in_M hown hK hP 2 rfl rfl 43 (by decide) (hT _ w1147) (fun _ h9 => h9) rfl dM_best_88 ?_
    refine rw_v (wc := [(y, .inr (11, MO yr (va_up yi 1 0) ysb ybs)), (yr 0, .inl (cT 0, 19, .inl fp)), (yr 29, .inl (cT 0, 302, .inl f1u6)), (yr 40, .inl (cT 0, 19, .inl f1u7)), (yr 43, .inl (cT 0, 19, .inl gb))]) (wr := [(yr 38, .inl (cT 0, 302, .inl fb)), (yr 30, .inl (cT 0, 302, .inl f8u5)), (yr 41, .inl (cT 0, 19, .inl g8u5)), (yr 32, .inl (cT 0, 302, .inl fq7u5)), (yr 4, .inl (cT 0, 48, .inl tg)), (yr 27, .inl (cT 0, 65472, .inl up)), (yr 28, .inl (cT 0, 9424, .inl lw)), (yr 19, .inl (cT 0, 496, .inl nc)), (yr 22, .inl (cT 0, 496, .inl nl)), (yr 23, .inl (cT 0, 496, .inl nr)), (yr 5, .inl (cT 0, 288, .inl vv)), (yr 21, .inl (cT 3, 496, .inl tl)), (yr 26, .inl (cT 3, 496, .inl kd)), (yr 20, .inl (cT 0, 496, .inl ed)), (yr 37, .inl (cT 0, 302, .inl ft7u5)), (yr 42, .inl (cT 0, 19, .inl gt7u5))]) hP hD hS hA [2, 3, 18, 20, 1] [0, 4, 5, 6, 7, 8, 9, 10, 11, 12, 13, 14, 15, 16, 17, 19] rfl rfl (by decide) (by decide) (va_runV (As := [.ref (yr 29), .ref (yr 40), .ref (yr 43)]) (rest := []) ⟨hx, hb, hml, hown, hT⟩ (m_raise l D cT y yr (va_up yi 1 0) ysb ybs fp (yr 29) f1u6 zt7u5 (yr 40) f1u7 (yr 43) gb (2 * bb) hPR oN oL iL (by omega) (sq_fit1 uz id hSB) _) ⟨callB_of 3 hT (tb_gd w1414) rfl rfl rfl (hT _ w13) (hT _ w1411) hM_raise ⟨Nat.le_of_ble_eq_true rfl, Nat.le_of_ble_eq_true rfl⟩, (hT _ w1413), (hT _ wp41)⟩ (RW.preV (ci := 11) (q0 := 0) hZ hS (va_free (wc := [(y, .inr (11, MO yr (va_up yi 1 0) ysb ybs)), (yr 0, .inl (cT 0, 19, .inl fp)), (yr 29, .inl (cT 0, 302, .inl f1u6)), (yr 40, .inl (cT 0, 19, .inl f1u7)), (yr 43, .inl (cT 0, 19, .inl gb))]) hD hS hA [2, 3, 18, 20, 1] rfl) (hP.sub (ws' := [(y, .inr (11, MO yr (va_up yi 1 0) ysb ybs)), (yr 0, .inl (cT 0, 19, .inl fp)), (yr 29, .inl (cT 0, 302, .inl f1u6)), (yr 40, .inl (cT 0, 19, .inl f1u7)), (yr 43, .inl (cT 0, 19, .inl gb))]) [2, 3, 18, 20, 1] rfl) hK (hD.sub (ws' := [(y, .inr (11, MO yr (va_up yi 1 0) ysb ybs)), (yr 0, .inl (cT 0, 19, .inl fp)), (yr 29, .inl (cT 0, 302, .inl f1u6)), (yr 40, .inl (cT 0, 19, .inl f1u7)), (yr 43, .inl (cT 0, 19, .inl gb))]) [2, 3, 18, 20, 1] (by decide) rfl) rfl rfl) rfl rfl hl.1 rfl (lv_room (Nat.le_of_ble_eq_true rfl)) dM_best_91 ⟨Nat.le_of_ble_eq_true rfl, Nat.le_of_ble_eq_true rfl⟩) (fun u9 H locs hpu8 hP hD hS => ?_)
    obtain ⟨z9u8, f9u8, g9u8⟩ := u9
    have hpu8 : MN f9u8 z9u8 ∧ LOK g9u8 (2 * bb) ∧ (∀ q8, q8 < 19 → dg g9u8 q8 = max (dg f1u7 q8) (dg gb q8)) ∧ z9u8 * (dn f1u7 : Int) = zt7u5 * (dn g9u8 : Int) := hpu8
    have hP : va_P D vwCl [(yr 38, .inl (cT 0, 302, .inl fb)), (yr 30, .inl (cT 0, 302, .inl f8u5)), (yr 41, .inl (cT 0, 19, .inl g8u5)), (yr 32, .inl (cT 0, 302, .inl fq7u5)), (yr 4, .inl (cT 0, 48, .inl tg)), (yr 27, .inl (cT 0, 65472, .inl up)), (yr 28, .inl (cT 0, 9424, .inl lw)), (yr 19, .inl (cT 0, 496, .inl nc)), (yr 22, .inl (cT 0, 496, .inl nl)), (yr 23, .inl (cT 0, 496, .inl nr)), (yr 5, .inl (cT 0, 288, .inl vv)), (yr 21, .inl (cT 3, 496, .inl tl)), (yr 26, .inl (cT 3, 496, .inl kd)), (yr 20, .inl (cT 0, 496, .inl ed)), (yr 37, .inl (cT 0, 302, .inl ft7u5)), (yr 42, .inl (cT 0, 19, .inl gt7u5)), (y, .inr (11, MO yr (va_up yi 1 0) ysb ybs)), (yr 0, .inl (cT 0, 19, .inl fp)), (yr 29, .inl (cT 0, 302, .inl f9u8)), (yr 40, .inl (cT 0, 19, .inl g9u8)), (yr 43, .inl (cT 0, 19, .inl gb))] _ := hP
    have hD : va_D A [(yr 38, .inl (cT 0, 302, .inl fb)), (yr 30, .inl (cT 0, 302, .inl f8u5)), (yr 41, .inl (cT 0, 19, .inl g8u5)), (yr 32, .inl (cT 0, 302, .inl fq7u5)), (yr 4, .inl (cT 0, 48, .inl tg)), (yr 27, .inl (cT 0, 65472, .inl up)), (yr 28, .inl (cT 0, 9424, .inl lw)), (yr 19, .inl (cT 0, 496, .inl nc)), (yr 22, .inl (cT 0, 496, .inl nl)), (yr 23, .inl (cT 0, 496, .inl nr)), (yr 5, .inl (cT 0, 288, .inl vv)), (yr 21, .inl (cT 3, 496, .inl tl)), (yr 26, .inl (cT 3, 496, .inl kd)), (yr 20, .inl (cT 0, 496, .inl ed)), (yr 37, .inl (cT 0, 302, .inl ft7u5)), (yr 42, .inl (cT 0, 19, .inl gt7u5)), (y, .inr (11, MO yr (va_up yi 1 0) ysb ybs)), (yr 0, .inl (cT 0, 19, .inl fp)), (yr 29, .inl (cT 0, 302, .inl f9u8)), (yr 40, .inl (cT 0, 19, .inl g9u8)), (yr 43, .inl (cT 0, 19, .inl gb))] := hD
    obtain ⟨pN, pL, pm, pv⟩ := hpu8
    refine lv_aload_n hx hb dM_best_94 rfl (lv_at hl 0 rfl) ?_
    refine va_get (D := D) (ci := 11) (v := .ref (yr 38)) (C := R_M) (T := T_M) (N := 60) hx hb hT in_M hown hK hP 16 rfl rfl 38 (by decide) (hT _ w1142) (fun _ h9 => h9) rfl dM_best_95 ?_
    refine lv_aload_n hx hb dM_best_98 rfl (lv_at hl 0 rfl) ?_
    refine va_get (D := D) (ci := 11) (v := .ref (yr 30)) (C := R_M) (T := T_M) (N := 60) hx hb hT in_M hown hK hP 16 rfl rfl 30 (by decide) (hT _ w1134) (fun _ h9 => h9) rfl dM_best_99 ?_
    refine rw_v (wc := [(yr 38, .inl (cT 0, 302, .inl fb)), (yr 30, .inl (cT 0, 302, .inl f8u5))]) (wr := [(yr 41, .inl (cT 0, 19, .inl g8u5)), (yr 32, .inl (cT 0, 302, .inl fq7u5)), (yr 4, .inl (cT 0, 48, .inl tg)), (yr 27, .inl (cT 0, 65472, .inl up)), (yr 28, .inl (cT 0, 9424, .inl lw)), (yr 19, .inl (cT 0, 496, .inl nc)), (yr 22, .inl (cT 0, 496, .inl nl)), (yr 23, .inl (cT 0, 496, .inl nr)), (yr 5, .inl (cT 0, 288, .inl vv)), (yr 21, .inl (cT 3, 496, .inl tl)), (yr 26, .inl (cT 3, 496, .inl kd)), (yr 20, .inl (cT 0, 496, .inl ed)), (yr 37, .inl (cT 0, 302, .inl ft7u5)), (yr 42, .inl (cT 0, 19, .inl gt7u5)), (y, .inr (11, MO yr (va_up yi 1 0) ysb ybs)), (yr 0, .inl (cT 0, 19, .inl fp)), (yr 29, .inl (cT 0, 302, .inl f9u8)), (yr 40, .inl (cT 0, 19, .inl g9u8)), (yr 43, .inl (cT 0, 19, .inl gb))]) hP hD hS hA [0, 1] [2, 3, 4, 5, 6, 7, 8, 9, 10, 11, 12, 13, 14, 15, 16, 17, 18, 19, 20] rfl rfl (by decide) (by decide) (va_runS (As := [.ref (yr 38), .ref (yr 30)]) (rest := []) ⟨hx, hb, hml, hown, hT⟩ (m_copy l D cT (yr 38) fb zb (yr 30) f8u5 iN _) ⟨callB_of 2 hT (tb_gd w1426) rfl rfl rfl (hT _ w13) (hT _ w1424) hM_copy ⟨Nat.le_of_ble_eq_true rfl, Nat.le_of_ble_eq_true rfl⟩, (hT _ w1425)⟩ (RW.preS hZ hS (va_free (wc := [(yr 38, .inl (cT 0, 302, .inl fb)), (yr 30, .inl (cT 0, 302, .inl f8u5))]) hD hS hA [0, 1] rfl) (hP.sub (ws' := [(yr 38, .inl (cT 0, 302, .inl fb)), (yr 30, .inl (cT 0, 302, .inl f8u5))]) [0, 1] rfl) hK (hD.sub (ws' := [(yr 38, .inl (cT 0, 302, .inl fb)), (yr 30, .inl (cT 0, 302, .inl f8u5))]) [0, 1] (by decide) rfl)) rfl rfl hl.1 rfl (lv_room (Nat.le_of_ble_eq_true rfl)) dM_best_102 ⟨Nat.le_of_ble_eq_true rfl, Nat.le_of_ble_eq_true rfl⟩) (fun u9 H locs hpu9 hP hD hS => ?_)
    obtain ⟨f1u9, rfl⟩ : ∃ q9, q9 = u9 := ⟨_, rfl⟩
    have hpu9 : MN f1u9 zb := hpu9
    have hP : va_P D vwCl [(yr 41, .inl (cT 0, 19, .inl g8u5)), (yr 32, .inl (cT 0, 302, .inl fq7u5)), (yr 4, .inl (cT 0, 48, .inl tg)), (yr 27, .inl (cT 0, 65472, .inl up)), (yr 28, .inl (cT 0, 9424, .inl lw)), (yr 19, .inl (cT 0, 496, .inl nc)), (yr 22, .inl (cT 0, 496, .inl nl)), (yr 23, .inl (cT 0, 496, .inl nr)), (yr 5, .inl (cT 0, 288, .inl vv)), (yr 21, .inl (cT 3, 496, .inl tl)), (yr 26, .inl (cT 3, 496, .inl kd)), (yr 20, .inl (cT 0, 496, .inl ed)), (yr 37, .inl (cT 0, 302, .inl ft7u5)), (yr 42, .inl (cT 0, 19, .inl gt7u5)), (y, .inr (11, MO yr (va_up yi 1 0) ysb ybs)), (yr 0, .inl (cT 0, 19, .inl fp)), (yr 29, .inl (cT 0, 302, .inl f9u8)), (yr 40, .inl (cT 0, 19, .inl g9u8)), (yr 43, .inl (cT 0, 19, .inl gb)), (yr 38, .inl (cT 0, 302, .inl fb)), (yr 30, .inl (cT 0, 302, .inl f1u9))] _ := hP
    have hD : va_D A [(yr 41, .inl (cT 0, 19, .inl g8u5)), (yr 32, .inl (cT 0, 302, .inl fq7u5)), (yr 4, .inl (cT 0, 48, .inl tg)), (yr 27, .inl (cT 0, 65472, .inl up)), (yr 28, .inl (cT 0, 9424, .inl lw)), (yr 19, .inl (cT 0, 496, .inl nc)), (yr 22, .inl (cT 0, 496, .inl nl)), (yr 23, .inl (cT 0, 496, .inl nr)), (yr 5, .inl (cT 0, 288, .inl vv)), (yr 21, .inl (cT 3, 496, .inl tl)), (yr 26, .inl (cT 3, 496, .inl kd)), (yr 20, .inl (cT 0, 496, .inl ed)), (yr 37, .inl (cT 0, 302, .inl ft7u5)), (yr 42, .inl (cT 0, 19, .inl gt7u5)), (y, .inr (11, MO yr (va_up yi 1 0) ysb ybs)), (yr 0, .inl (cT 0, 19, .inl fp)), (yr 29, .inl (cT 0, 302, .inl f9u8)), (yr 40, .inl (cT 0, 19, .inl g9u8)), (yr 43, .inl (cT 0, 19, .inl gb)), (yr 38, .inl (cT 0, 302, .inl fb)), (yr 30, .inl (cT 0, 302, .inl f1u9))] := hD
    have tN := hpu9
    refine lv_aload_n hx hb dM_best_105 rfl (lv_at hl 0 rfl) ?_
    refine va_get (D := D) (ci := 11) (v := .ref (yr 43)) (C := R_M) (T := T_M) (N := 60) hx hb hT in_M hown hK hP 14 rfl rfl 43 (by decide) (hT _ w1147) (fun _ h9 => h9) rfl dM_best_106 ?_
    refine lv_aload_n hx hb dM_best_109 rfl (lv_at hl 0 rfl) ?_
    refine va_get (D := D) (ci := 11) (v := .ref (yr 41)) (C := R_M) (T := T_M) (N := 60) hx hb hT in_M hown hK hP 14 rfl rfl 41 (by decide) (hT _ w1145) (fun _ h9 => h9) rfl dM_best_110 ?_
    refine lv_iconst (v := 0) hx hb dM_best_113 (by decide) ?_
    refine rw_v (wc := [(yr 43, .inl (cT 0, 19, .inl gb)), (yr 41, .inl (cT 0, 19, .inl g8u5))]) (wr := [(yr 32, .inl (cT 0, 302, .inl fq7u5)), (yr 4, .inl (cT 0, 48, .inl tg)), (yr 27, .inl (cT 0, 65472, .inl up)), (yr 28, .inl (cT 0, 9424, .inl lw)), (yr 19, .inl (cT 0, 496, .inl nc)), (yr 22, .inl (cT 0, 496, .inl nl)), (yr 23, .inl (cT 0, 496, .inl nr)), (yr 5, .inl (cT 0, 288, .inl vv)), (yr 21, .inl (cT 3, 496, .inl tl)), (yr 26, .inl (cT 3, 496, .inl kd)), (yr 20, .inl (cT 0, 496, .inl ed)), (yr 37, .inl (cT 0, 302, .inl ft7u5)), (yr 42, .inl (cT 0, 19, .inl gt7u5)), (y, .inr (11, MO yr (va_up yi 1 0) ysb ybs)), (yr 0, .inl (cT 0, 19, .inl fp)), (yr 29, .inl (cT 0, 302, .inl f9u8)), (yr 40, .inl (cT 0, 19, .inl g9u8)), (yr 38, .inl (cT 0, 302, .inl fb)), (yr 30, .inl (cT 0, 302, .inl f1u9))]) hP hD hS hA [18, 0] [1, 2, 3, 4, 5, 6, 7, 8, 9, 10, 11, 12, 13, 14, 15, 16, 17, 19, 20] rfl rfl (by decide) (by decide) (va_runS (As := [.ref (yr 43), .ref (yr 41), .int 0]) (rest := []) ⟨hx, hb, hml, hown, hT⟩ (m_storeL l D cT (yr 43) gb (yr 41) 19 g8u5 0 (by decide) (by decide) _) ⟨callB_of 3 hT (tb_gd w1452) rfl rfl rfl (hT _ w13) (hT _ w1450) hM_storeLows ⟨Nat.le_of_ble_eq_true rfl, Nat.le_of_ble_eq_true rfl⟩, (hT _ w1451)⟩ (RW.preS hZ hS (va_free (wc := [(yr 43, .inl (cT 0, 19, .inl gb)), (yr 41, .inl (cT 0, 19, .inl g8u5))]) hD hS hA [18, 0] rfl) (hP.sub (ws' := [(yr 43, .inl (cT 0, 19, .inl gb)), (yr 41, .inl (cT 0, 19, .inl g8u5))]) [18, 0] rfl) hK (hD.sub (ws' := [(yr 43, .inl (cT 0, 19, .inl gb)), (yr 41, .inl (cT 0, 19, .inl g8u5))]) [18, 0] (by decide) rfl)) rfl rfl hl.1 rfl (lv_room (Nat.le_of_ble_eq_true rfl)) dM_best_114 ⟨Nat.le_of_ble_eq_true rfl, Nat.le_of_ble_eq_true rfl⟩) (fun u9 H locs hpu10 hP hD hS => ?_)
    obtain ⟨f1u10, rfl⟩ : ∃ q9, q9 = u9 := ⟨_, rfl⟩
    have hpu10 : (∀ q8, q8 < 19 → f1u10 (0 + q8) = gb q8) ∧ ∀ q8, q8 < 0 ∨ 0 + 19 ≤ q8 → f1u10 q8 = g8u5 q8 := hpu10
    have hP : va_P D vwCl [(yr 32, .inl (cT 0, 302, .inl fq7u5)), (yr 4, .inl (cT 0, 48, .inl tg)), (yr 27, .inl (cT 0, 65472, .inl up)), (yr 28, .inl (cT 0, 9424, .inl lw)), (yr 19, .inl (cT 0, 496, .inl nc)), (yr 22, .inl (cT 0, 496, .inl nl)), (yr 23, .inl (cT 0, 496, .inl nr)), (yr 5, .inl (cT 0, 288, .inl vv)), (yr 21, .inl (cT 3, 496, .inl tl)), (yr 26, .inl (cT 3, 496, .inl kd)), (yr 20, .inl (cT 0, 496, .inl ed)), (yr 37, .inl (cT 0, 302, .inl ft7u5)), (yr 42, .inl (cT 0, 19, .inl gt7u5)), (y, .inr (11, MO yr (va_up yi 1 0) ysb ybs)), (yr 0, .inl (cT 0, 19, .inl fp)), (yr 29, .inl (cT 0, 302, .inl f9u8)), (yr 40, .inl (cT 0, 19, .inl g9u8)), (yr 38, .inl (cT 0, 302, .inl fb)), (yr 30, .inl (cT 0, 302, .inl f1u9)), (yr 43, .inl (cT 0, 19, .inl gb)), (yr 41, .inl (cT 0, 19, .inl f1u10))] _ := hP
    have hD : va_D A [(yr 32, .inl (cT 0, 302, .inl fq7u5)), (yr 4, .inl (cT 0, 48, .inl tg)), (yr 27, .inl (cT 0, 65472, .inl up)), (yr 28, .inl (cT 0, 9424, .inl lw)), (yr 19, .inl (cT 0, 496, .inl nc)), (yr 22, .inl (cT 0, 496, .inl nl)), (yr 23, .inl (cT 0, 496, .inl nr)), (yr 5, .inl (cT 0, 288, .inl vv)), (yr 21, .inl (cT 3, 496, .inl tl)), (yr 26, .inl (cT 3, 496, .inl kd)), (yr 20, .inl (cT 0, 496, .inl ed)), (yr 37, .inl (cT 0, 302, .inl ft7u5)), (yr 42, .inl (cT 0, 19, .inl gt7u5)), (y, .inr (11, MO yr (va_up yi 1 0) ysb ybs)), (yr 0, .inl (cT 0, 19, .inl fp)), (yr 29, .inl (cT 0, 302, .inl f9u8)), (yr 40, .inl (cT 0, 19, .inl g9u8)), (yr 38, .inl (cT 0, 302, .inl fb)), (yr 30, .inl (cT 0, 302, .inl f1u9)), (yr 43, .inl (cT 0, 19, .inl gb)), (yr 41, .inl (cT 0, 19, .inl f1u10))] := hD
    have tE : ∀ q, q < 19 → f1u10 q = gb q := fun q hq => by have q0 := hpu10.1 q hq; rw [Nat.zero_add] at q0; exact q0
    have tL := lok_cg iL tE
    have tD := dn_cg tE
    have tG := fun q hq => dg_cg (tE q hq)
    refine lv_aload_n hx hb dM_best_117 rfl (lv_at hl 0 rfl) ?_
    refine lv_aload_n hx hb dM_best_118 rfl (lv_at hl 0 rfl) ?_
    refine va_get (D := D) (ci := 11) (v := .ref (yr 30)) (C := R_M) (T := T_M) (N := 60) hx hb hT in_M hown hK hP 13 rfl rfl 30 (by decide) (hT _ w1134) (fun _ h9 => h9) rfl dM_best_119 ?_
    refine lv_aload_n hx hb dM_best_122 rfl (lv_at hl 0 rfl) ?_
    refine va_get (D := D) (ci := 11) (v := .ref (yr 41)) (C := R_M) (T := T_M) (N := 60) hx hb hT in_M hown hK hP 13 rfl rfl 41 (by decide) (hT _ w1145) (fun _ h9 => h9) rfl dM_best_123 ?_
    refine lv_aload_n hx hb dM_best_126 rfl (lv_at hl 0 rfl) ?_
    refine va_get (D := D) (ci := 11) (v := .ref (yr 42)) (C := R_M) (T := T_M) (N := 60) hx hb hT in_M hown hK hP 13 rfl rfl 42 (by decide) (hT _ w1146) (fun _ h9 => h9) rfl dM_best_127 ?_
    refine rw_v (wc := [(y, .inr (11, MO yr (va_up yi 1 0) ysb ybs)), (yr 0, .inl (cT 0, 19, .inl fp)), (yr 30, .inl (cT 0, 302, .inl f1u9)), (yr 41, .inl (cT 0, 19, .inl f1u10)), (yr 42, .inl (cT 0, 19, .inl gt7u5))]) (wr := [(yr 32, .inl (cT 0, 302, .inl fq7u5)), (yr 4, .inl (cT 0, 48, .inl tg)), (yr 27, .inl (cT 0, 65472, .inl up)), (yr 28, .inl (cT 0, 9424, .inl lw)), (yr 19, .inl (cT 0, 496, .inl nc)), (yr 22, .inl (cT 0, 496, .inl nl)), (yr 23, .inl (cT 0, 496, .inl nr)), (yr 5, .inl (cT 0, 288, .inl vv)), (yr 21, .inl (cT 3, 496, .inl tl)), (yr 26, .inl (cT 3, 496, .inl kd)), (yr 20, .inl (cT 0, 496, .inl ed)), (yr 37, .inl (cT 0, 302, .inl ft7u5)), (yr 29, .inl (cT 0, 302, .inl f9u8)), (yr 40, .inl (cT 0, 19, .inl g9u8)), (yr 38, .inl (cT 0, 302, .inl fb)), (yr 43, .inl (cT 0, 19, .inl gb))]) hP hD hS hA [13, 14, 18, 20, 12] [0, 1, 2, 3, 4, 5, 6, 7, 8, 9, 10, 11, 15, 16, 17, 19] rfl rfl (by decide) (by decide) (va_runV (As := [.ref (yr 30), .ref (yr 41), .ref (yr 42)]) (rest := []) ⟨hx, hb, hml, hown, hT⟩ (m_raise l D cT y yr (va_up yi 1 0) ysb ybs fp (yr 30) f1u9 zb (yr 41) f1u10 (yr 42) gt7u5 (2 * bb) hPR tN tL uL (by omega) (sq_fit1 iz ud hSB) _) ⟨callB_of 3 hT (tb_gd w1414) rfl rfl rfl (hT _ w13) (hT _ w1411) hM_raise ⟨Nat.le_of_ble_eq_true rfl, Nat.le_of_ble_eq_true rfl⟩, (hT _ w1413), (hT _ wp41)⟩ (RW.preV (ci := 11) (q0 := 0) hZ hS (va_free (wc := [(y, .inr (11, MO yr (va_up yi 1 0) ysb ybs)), (yr 0, .inl (cT 0, 19, .inl fp)), (yr 30, .inl (cT 0, 302, .inl f1u9)), (yr 41, .inl (cT 0, 19, .inl f1u10)), (yr 42, .inl (cT 0, 19, .inl gt7u5))]) hD hS hA [13, 14, 18, 20, 12] rfl) (hP.sub (ws' := [(y, .inr (11, MO yr (va_up yi 1 0) ysb ybs)), (yr 0, .inl (cT 0, 19, .inl fp)), (yr 30, .inl (cT 0, 302, .inl f1u9)), (yr 41, .inl (cT 0, 19, .inl f1u10)), (yr 42, .inl (cT 0, 19, .inl gt7u5))]) [13, 14, 18, 20, 12] rfl) hK (hD.sub (ws' := [(y, .inr (11, MO yr (va_up yi 1 0) ysb ybs)), (yr 0, .inl (cT 0, 19, .inl fp)), (yr 30, .inl (cT 0, 302, .inl f1u9)), (yr 41, .inl (cT 0, 19, .inl f1u10)), (yr 42, .inl (cT 0, 19, .inl gt7u5))]) [13, 14, 18, 20, 12] (by decide) rfl) rfl rfl) rfl rfl hl.1 rfl (lv_room (Nat.le_of_ble_eq_true rfl)) dM_best_130 ⟨Nat.le_of_ble_eq_true rfl, Nat.le_of_ble_eq_true rfl⟩) (fun u9 H locs hpu11 hP hD hS => ?_)
    obtain ⟨z9u11, f9u11, g9u11⟩ := u9
    have hpu11 : MN f9u11 z9u11 ∧ LOK g9u11 (2 * bb) ∧ (∀ q8, q8 < 19 → dg g9u11 q8 = max (dg f1u10 q8) (dg gt7u5 q8)) ∧ z9u11 * (dn f1u10 : Int) = zb * (dn g9u11 : Int) := hpu11
    have hP : va_P D vwCl [(yr 32, .inl (cT 0, 302, .inl fq7u5)), (yr 4, .inl (cT 0, 48, .inl tg)), (yr 27, .inl (cT 0, 65472, .inl up)), (yr 28, .inl (cT 0, 9424, .inl lw)), (yr 19, .inl (cT 0, 496, .inl nc)), (yr 22, .inl (cT 0, 496, .inl nl)), (yr 23, .inl (cT 0, 496, .inl nr)), (yr 5, .inl (cT 0, 288, .inl vv)), (yr 21, .inl (cT 3, 496, .inl tl)), (yr 26, .inl (cT 3, 496, .inl kd)), (yr 20, .inl (cT 0, 496, .inl ed)), (yr 37, .inl (cT 0, 302, .inl ft7u5)), (yr 29, .inl (cT 0, 302, .inl f9u8)), (yr 40, .inl (cT 0, 19, .inl g9u8)), (yr 38, .inl (cT 0, 302, .inl fb)), (yr 43, .inl (cT 0, 19, .inl gb)), (y, .inr (11, MO yr (va_up yi 1 0) ysb ybs)), (yr 0, .inl (cT 0, 19, .inl fp)), (yr 30, .inl (cT 0, 302, .inl f9u11)), (yr 41, .inl (cT 0, 19, .inl g9u11)), (yr 42, .inl (cT 0, 19, .inl gt7u5))] _ := hP
    have hD : va_D A [(yr 32, .inl (cT 0, 302, .inl fq7u5)), (yr 4, .inl (cT 0, 48, .inl tg)), (yr 27, .inl (cT 0, 65472, .inl up)), (yr 28, .inl (cT 0, 9424, .inl lw)), (yr 19, .inl (cT 0, 496, .inl nc)), (yr 22, .inl (cT 0, 496, .inl nl)), (yr 23, .inl (cT 0, 496, .inl nr)), (yr 5, .inl (cT 0, 288, .inl vv)), (yr 21, .inl (cT 3, 496, .inl tl)), (yr 26, .inl (cT 3, 496, .inl kd)), (yr 20, .inl (cT 0, 496, .inl ed)), (yr 37, .inl (cT 0, 302, .inl ft7u5)), (yr 29, .inl (cT 0, 302, .inl f9u8)), (yr 40, .inl (cT 0, 19, .inl g9u8)), (yr 38, .inl (cT 0, 302, .inl fb)), (yr 43, .inl (cT 0, 19, .inl gb)), (y, .inr (11, MO yr (va_up yi 1 0) ysb ybs)), (yr 0, .inl (cT 0, 19, .inl fp)), (yr 30, .inl (cT 0, 302, .inl f9u11)), (yr 41, .inl (cT 0, 19, .inl g9u11)), (yr 42, .inl (cT 0, 19, .inl gt7u5))] := hD
    obtain ⟨sN, sL, sm, sv⟩ := hpu11
    have mD : dn g9u8 = dn g9u11 := max_dn (g1 := gt7u5) (g2 := gb) (fun q hq => by rw [pm q hq, oG q hq]) (fun q hq => by rw [sm q hq, tG q hq])
    rw [oD] at pv
    rw [tD, ← mD] at sv
    have cc := bst_cmp dn_pos dn_pos dn_pos (Nat.mul_pos hP1.1 hP1.1) (Nat.mul_pos hP2.1 hP2.1) pv sv uv iv
    refine lv_aload_n hx hb dM_best_133 rfl (lv_at hl 0 rfl) ?_
    refine va_get (D := D) (ci := 11) (v := .ref (yr 29)) (C := R_M) (T := T_M) (N := 60) hx hb hT in_M hown hK hP 16 rfl rfl 29 (by decide) (hT _ w1133) (fun _ h9 => h9) rfl dM_best_134 ?_
    refine lv_aload_n hx hb dM_best_137 rfl (lv_at hl 0 rfl) ?_
    refine va_get (D := D) (ci := 11) (v := .ref (yr 30)) (C := R_M) (T := T_M) (N := 60) hx hb hT in_M hown hK hP 16 rfl rfl 30 (by decide) (hT _ w1134) (fun _ h9 => h9) rfl dM_best_138 ?_
    refine ro_i (va_Run.run (va_runS (As := [.ref (yr 29), .ref (yr 30)]) (rest := []) ⟨hx, hb, hml, hown, hT⟩ (m_cmp l D cT (yr 29) f9u8 z9u8 (yr 30) f9u11 z9u11 pN sN) ⟨callB_of 2 hT (tb_gd w1491) rfl rfl rfl (hT _ w13) (hT _ w1489) hM_compare ⟨Nat.le_of_ble_eq_true rfl, Nat.le_of_ble_eq_true rfl⟩, (hT _ w1490)⟩ (RO.preS hZ hS (hP.sub (ws' := [(yr 29, .inl (cT 0, 302, .inl f9u8)), (yr 30, .inl (cT 0, 302, .inl f9u11))]) [12, 18] rfl) hK) rfl rfl hl.1 rfl (lv_room (Nat.le_of_ble_eq_true rfl)) dM_best_141 ⟨Nat.le_of_ble_eq_true rfl, Nat.le_of_ble_eq_true rfl⟩)) ?_
    refine lv_if_ge (tgt := 173) hx hb dM_best_144 rfl (fun h12 => ?_) (fun h12 => ?_)
    · have glt := fun q => Int32.not_lt.mpr h12 (cz_neg.mpr (cc.mpr q))
      have hl : lv_has ls 5 [(0, .ref y), (1, .long x), (3, .int (nI (bst (sqs X x n) (sqd Pp) (k + 1)))), (4, .int (nI (k + 1)))] := by
        rw [bst_n glt]; exact hl
      refine lv_iinc (k := 3) (v := nI (k + 1 + 1)) hx hb dM_best_173 hl rfl (nI_1 (k + 1)) (by decide) rfl (fun ls hl => ?_)
      have hl : lv_has ls 5 [(4, .int (nI (k + 1 + 1))), (0, .ref y), (1, .long x), (3, .int (nI (bst (sqs X x n) (sqd Pp) (k + 1))))] := hl
      refine lv_goto (tgt := 39) hx hb dM_best_176 rfl ?_
      exact ih39 (k + 1, zb, fb, gb, ft7u5, gt7u5, fq7u5, f9u8, g9u8, f9u11, g9u11) (show (k + 1) ≤ T ∧ MN fb zb ∧ LOK gb (2 * bb) ∧ RED zb gb ∧ zb * ((sqd Pp (bst (sqs X x n) (sqd Pp) (k + 1)) : Nat) : Int) = sqs X x n (bst (sqs X x n) (sqd Pp) (k + 1)) * (dn gb : Int) from ⟨by omega, iN, iL, iR, by rw [bst_n glt]; exact iv⟩) (show T - (k + 1) < T - k from (by omega)) ls H locs (lv_sub hl [1, 2, 3, 0] rfl) (hP.sub (ws' := [(y, .inr (11, MO yr (va_up yi 1 0) ysb ybs)), (yr 0, .inl (cT 0, 19, .inl fp)), (yr 29, .inl (cT 0, 302, .inl f9u8)), (yr 40, .inl (cT 0, 19, .inl g9u8)), (yr 30, .inl (cT 0, 302, .inl f9u11)), (yr 41, .inl (cT 0, 19, .inl g9u11)), (yr 32, .inl (cT 0, 302, .inl fq7u5)), (yr 4, .inl (cT 0, 48, .inl tg)), (yr 27, .inl (cT 0, 65472, .inl up)), (yr 28, .inl (cT 0, 9424, .inl lw)), (yr 19, .inl (cT 0, 496, .inl nc)), (yr 22, .inl (cT 0, 496, .inl nl)), (yr 23, .inl (cT 0, 496, .inl nr)), (yr 5, .inl (cT 0, 288, .inl vv)), (yr 21, .inl (cT 3, 496, .inl tl)), (yr 26, .inl (cT 3, 496, .inl kd)), (yr 20, .inl (cT 0, 496, .inl ed)), (yr 37, .inl (cT 0, 302, .inl ft7u5)), (yr 38, .inl (cT 0, 302, .inl fb)), (yr 42, .inl (cT 0, 19, .inl gt7u5)), (yr 43, .inl (cT 0, 19, .inl gb))]) [16, 17, 12, 13, 18, 19, 0, 1, 2, 3, 4, 5, 6, 7, 8, 9, 10, 11, 14, 20, 15] rfl) (hD.sub (ws' := [(y, .inr (11, MO yr (va_up yi 1 0) ysb ybs)), (yr 0, .inl (cT 0, 19, .inl fp)), (yr 29, .inl (cT 0, 302, .inl f9u8)), (yr 40, .inl (cT 0, 19, .inl g9u8)), (yr 30, .inl (cT 0, 302, .inl f9u11)), (yr 41, .inl (cT 0, 19, .inl g9u11)), (yr 32, .inl (cT 0, 302, .inl fq7u5)), (yr 4, .inl (cT 0, 48, .inl tg)), (yr 27, .inl (cT 0, 65472, .inl up)), (yr 28, .inl (cT 0, 9424, .inl lw)), (yr 19, .inl (cT 0, 496, .inl nc)), (yr 22, .inl (cT 0, 496, .inl nl)), (yr 23, .inl (cT 0, 496, .inl nr)), (yr 5, .inl (cT 0, 288, .inl vv)), (yr 21, .inl (cT 3, 496, .inl tl)), (yr 26, .inl (cT 3, 496, .inl kd)), (yr 20, .inl (cT 0, 496, .inl ed)), (yr 37, .inl (cT 0, 302, .inl ft7u5)), (yr 38, .inl (cT 0, 302, .inl fb)), (yr 42, .inl (cT 0, 19, .inl gt7u5)), (yr 43, .inl (cT 0, 19, .inl gb))]) [16, 17, 12, 13, 18, 19, 0, 1, 2, 3, 4, 5, 6, 7, 8, 9, 10, 11, 14, 20, 15] (by decide) rfl) hS
    · have glt := cc.mp (cz_neg.mp (Int32.not_le.mp h12))
      refine lv_iload hx hb dM_best_147 (lv_at hl 3 rfl) ?_
      refine lv_istore_n hx hb dM_best_149 rfl hl (by decide) rfl (fun ls hl => ?_)
      have hl : lv_has ls 5 [(3, .int (nI (k + 1))), (0, .ref y), (1, .long x), (4, .int (nI (k + 1)))] := hl
      refine lv_aload_n hx hb dM_best_150 rfl (lv_at hl 1 rfl) ?_
      refine va_get (D := D) (ci := 11) (v := .ref (yr 37)) (C := R_M) (T := T_M) (N := 60) hx hb hT in_M hown hK hP 16 rfl rfl 37 (by decide) (hT _ w1141) (fun _ h9 => h9) rfl dM_best_151 ?_
      refine lv_aload_n hx hb dM_best_154 rfl (lv_at hl 1 rfl) ?_
      refine va_get (D := D) (ci := 11) (v := .ref (yr 38)) (C := R_M) (T := T_M) (N := 60) hx hb hT in_M hown hK hP 16 rfl rfl 38 (by decide) (hT _ w1142) (fun _ h9 => h9) rfl dM_best_155 ?_
      refine rw_v (wc := [(yr 37, .inl (cT 0, 302, .inl ft7u5)), (yr 38, .inl (cT 0, 302, .inl fb))]) (wr := [(yr 32, .inl (cT 0, 302, .inl fq7u5)), (yr 4, .inl (cT 0, 48, .inl tg)), (yr 27, .inl (cT 0, 65472, .inl up)), (yr 28, .inl (cT 0, 9424, .inl lw)), (yr 19, .inl (cT 0, 496, .inl nc)), (yr 22, .inl (cT 0, 496, .inl nl)), (yr 23, .inl (cT 0, 496, .inl nr)), (yr 5, .inl (cT 0, 288, .inl vv)), (yr 21, .inl (cT 3, 496, .inl tl)), (yr 26, .inl (cT 3, 496, .inl kd)), (yr 20, .inl (cT 0, 496, .inl ed)), (yr 29, .inl (cT 0, 302, .inl f9u8)), (yr 40, .inl (cT 0, 19, .inl g9u8)), (yr 43, .inl (cT 0, 19, .inl gb)), (y, .inr (11, MO yr (va_up yi 1 0) ysb ybs)), (yr 0, .inl (cT 0, 19, .inl fp)), (yr 30, .inl (cT 0, 302, .inl f9u11)), (yr 41, .inl (cT 0, 19, .inl g9u11)), (yr 42, .inl (cT 0, 19, .inl gt7u5))]) hP hD hS hA [11, 14] [0, 1, 2, 3, 4, 5, 6, 7, 8, 9, 10, 12, 13, 15, 16, 17, 18, 19, 20] rfl rfl (by decide) (by decide) (va_runS (As := [.ref (yr 37), .ref (yr 38)]) (rest := []) ⟨hx, hb, hml, hown, hT⟩ (m_copy l D cT (yr 37) ft7u5 zt7u5 (yr 38) fb uN _) ⟨callB_of 2 hT (tb_gd w1426) rfl rfl rfl (hT _ w13) (hT _ w1424) hM_copy ⟨Nat.le_of_ble_eq_true rfl, Nat.le_of_ble_eq_true rfl⟩, (hT _ w1425)⟩ (RW.preS hZ hS (va_free (wc := [(yr 37, .inl (cT 0, 302, .inl ft7u5)), (yr 38, .inl (cT 0, 302, .inl fb))]) hD hS hA [11, 14] rfl) (hP.sub (ws' := [(yr 37, .inl (cT 0, 302, .inl ft7u5)), (yr 38, .inl (cT 0, 302, .inl fb))]) [11, 14] rfl) hK (hD.sub (ws' := [(yr 37, .inl (cT 0, 302, .inl ft7u5)), (yr 38, .inl (cT 0, 302, .inl fb))]) [11, 14] (by decide) rfl)) rfl rfl hl.1 rfl (lv_room (Nat.le_of_ble_eq_true rfl)) dM_best_158 ⟨Nat.le_of_ble_eq_true rfl, Nat.le_of_ble_eq_true rfl⟩) (fun u9 H locs hpu13 hP hD hS => ?_)
      obtain ⟨f1u13, rfl⟩ : ∃ q9, q9 = u9 := ⟨_, rfl⟩
      have hpu13 : MN f1u13 zt7u5 := hpu13
      have hP : va_P D vwCl [(yr 32, .inl (cT 0, 302, .inl fq7u5)), (yr 4, .inl (cT 0, 48, .inl tg)), (yr 27, .inl (cT 0, 65472, .inl up)), (yr 28, .inl (cT 0, 9424, .inl lw)), (yr 19, .inl (cT 0, 496, .inl nc)), (yr 22, .inl (cT 0, 496, .inl nl)), (yr 23, .inl (cT 0, 496, .inl nr)), (yr 5, .inl (cT 0, 288, .inl vv)), (yr 21, .inl (cT 3, 496, .inl tl)), (yr 26, .inl (cT 3, 496, .inl kd)), (yr 20, .inl (cT 0, 496, .inl ed)), (yr 29, .inl (cT 0, 302, .inl f9u8)), (yr 40, .inl (cT 0, 19, .inl g9u8)), (yr 43, .inl (cT 0, 19, .inl gb)), (y, .inr (11, MO yr (va_up yi 1 0) ysb ybs)), (yr 0, .inl (cT 0, 19, .inl fp)), (yr 30, .inl (cT 0, 302, .inl f9u11)), (yr 41, .inl (cT 0, 19, .inl g9u11)), (yr 42, .inl (cT 0, 19, .inl gt7u5)), (yr 37, .inl (cT 0, 302, .inl ft7u5)), (yr 38, .inl (cT 0, 302, .inl f1u13))] _ := hP
      have hD : va_D A [(yr 32, .inl (cT 0, 302, .inl fq7u5)), (yr 4, .inl (cT 0, 48, .inl tg)), (yr 27, .inl (cT 0, 65472, .inl up)), (yr 28, .inl (cT 0, 9424, .inl lw)), (yr 19, .inl (cT 0, 496, .inl nc)), (yr 22, .inl (cT 0, 496, .inl nl)), (yr 23, .inl (cT 0, 496, .inl nr)), (yr 5, .inl (cT 0, 288, .inl vv)), (yr 21, .inl (cT 3, 496, .inl tl)), (yr 26, .inl (cT 3, 496, .inl kd)), (yr 20, .inl (cT 0, 496, .inl ed)), (yr 29, .inl (cT 0, 302, .inl f9u8)), (yr 40, .inl (cT 0, 19, .inl g9u8)), (yr 43, .inl (cT 0, 19, .inl gb)), (y, .inr (11, MO yr (va_up yi 1 0) ysb ybs)), (yr 0, .inl (cT 0, 19, .inl fp)), (yr 30, .inl (cT 0, 302, .inl f9u11)), (yr 41, .inl (cT 0, 19, .inl g9u11)), (yr 42, .inl (cT 0, 19, .inl gt7u5)), (yr 37, .inl (cT 0, 302, .inl ft7u5)), (yr 38, .inl (cT 0, 302, .inl f1u13))] := hD
      have nN := hpu13
      refine lv_aload_n hx hb dM_best_161 rfl (lv_at hl 1 rfl) ?_
      refine va_get (D := D) (ci := 11) (v := .ref (yr 42)) (C := R_M) (T := T_M) (N := 60) hx hb hT in_M hown hK hP 14 rfl rfl 42 (by decide) (hT _ w1146) (fun _ h9 => h9) rfl dM_best_162 ?_
      refine lv_aload_n hx hb dM_best_165 rfl (lv_at hl 1 rfl) ?_
      refine va_get (D := D) (ci := 11) (v := .ref (yr 43)) (C := R_M) (T := T_M) (N := 60) hx hb hT in_M hown hK hP 14 rfl rfl 43 (by decide) (hT _ w1147) (fun _ h9 => h9) rfl dM_best_166 ?_
      refine lv_iconst (v := 0) hx hb dM_best_169 (by decide) ?_
      refine rw_v (wc := [(yr 42, .inl (cT 0, 19, .inl gt7u5)), (yr 43, .inl (cT 0, 19, .inl gb))]) (wr := [(yr 32, .inl (cT 0, 302, .inl fq7u5)), (yr 4, .inl (cT 0, 48, .inl tg)), (yr 27, .inl (cT 0, 65472, .inl up)), (yr 28, .inl (cT 0, 9424, .inl lw)), (yr 19, .inl (cT 0, 496, .inl nc)), (yr 22, .inl (cT 0, 496, .inl nl)), (yr 23, .inl (cT 0, 496, .inl nr)), (yr 5, .inl (cT 0, 288, .inl vv)), (yr 21, .inl (cT 3, 496, .inl tl)), (yr 26, .inl (cT 3, 496, .inl kd)), (yr 20, .inl (cT 0, 496, .inl ed)), (yr 29, .inl (cT 0, 302, .inl f9u8)), (yr 40, .inl (cT 0, 19, .inl g9u8)), (y, .inr (11, MO yr (va_up yi 1 0) ysb ybs)), (yr 0, .inl (cT 0, 19, .inl fp)), (yr 30, .inl (cT 0, 302, .inl f9u11)), (yr 41, .inl (cT 0, 19, .inl g9u11)), (yr 37, .inl (cT 0, 302, .inl ft7u5)), (yr 38, .inl (cT 0, 302, .inl f1u13))]) hP hD hS hA [18, 13] [0, 1, 2, 3, 4, 5, 6, 7, 8, 9, 10, 11, 12, 14, 15, 16, 17, 19, 20] rfl rfl (by decide) (by decide) (va_runS (As := [.ref (yr 42), .ref (yr 43), .int 0]) (rest := []) ⟨hx, hb, hml, hown, hT⟩ (m_storeL l D cT (yr 42) gt7u5 (yr 43) 19 gb 0 (by decide) (by decide) _) ⟨callB_of 3 hT (tb_gd w1452) rfl rfl rfl (hT _ w13) (hT _ w1450) hM_storeLows ⟨Nat.le_of_ble_eq_true rfl, Nat.le_of_ble_eq_true rfl⟩, (hT _ w1451)⟩ (RW.preS hZ hS (va_free (wc := [(yr 42, .inl (cT 0, 19, .inl gt7u5)), (yr 43, .inl (cT 0, 19, .inl gb))]) hD hS hA [18, 13] rfl) (hP.sub (ws' := [(yr 42, .inl (cT 0, 19, .inl gt7u5)), (yr 43, .inl (cT 0, 19, .inl gb))]) [18, 13] rfl) hK (hD.sub (ws' := [(yr 42, .inl (cT 0, 19, .inl gt7u5)), (yr 43, .inl (cT 0, 19, .inl gb))]) [18, 13] (by decide) rfl)) rfl rfl hl.1 rfl (lv_room (Nat.le_of_ble_eq_true rfl)) dM_best_170 ⟨Nat.le_of_ble_eq_true rfl, Nat.le_of_ble_eq_true rfl⟩) (fun u9 H locs hpu14 hP hD hS => ?_)
      obtain ⟨f1u14, rfl⟩ : ∃ q9, q9 = u9 := ⟨_, rfl⟩
      have hpu14 : (∀ q8, q8 < 19 → f1u14 (0 + q8) = gt7u5 q8) ∧ ∀ q8, q8 < 0 ∨ 0 + 19 ≤ q8 → f1u14 q8 = gb q8 := hpu14
      have hP : va_P D vwCl [(yr 32, .inl (cT 0, 302, .inl fq7u5)), (yr 4, .inl (cT 0, 48, .inl tg)), (yr 27, .inl (cT 0, 65472, .inl up)), (yr 28, .inl (cT 0, 9424, .inl lw)), (yr 19, .inl (cT 0, 496, .inl nc)), (yr 22, .inl (cT 0, 496, .inl nl)), (yr 23, .inl (cT 0, 496, .inl nr)), (yr 5, .inl (cT 0, 288, .inl vv)), (yr 21, .inl (cT 3, 496, .inl tl)), (yr 26, .inl (cT 3, 496, .inl kd)), (yr 20, .inl (cT 0, 496, .inl ed)), (yr 29, .inl (cT 0, 302, .inl f9u8)), (yr 40, .inl (cT 0, 19, .inl g9u8)), (y, .inr (11, MO yr (va_up yi 1 0) ysb ybs)), (yr 0, .inl (cT 0, 19, .inl fp)), (yr 30, .inl (cT 0, 302, .inl f9u11)), (yr 41, .inl (cT 0, 19, .inl g9u11)), (yr 37, .inl (cT 0, 302, .inl ft7u5)), (yr 38, .inl (cT 0, 302, .inl f1u13)), (yr 42, .inl (cT 0, 19, .inl gt7u5)), (yr 43, .inl (cT 0, 19, .inl f1u14))] _ := hP
      have hD : va_D A [(yr 32, .inl (cT 0, 302, .inl fq7u5)), (yr 4, .inl (cT 0, 48, .inl tg)), (yr 27, .inl (cT 0, 65472, .inl up)), (yr 28, .inl (cT 0, 9424, .inl lw)), (yr 19, .inl (cT 0, 496, .inl nc)), (yr 22, .inl (cT 0, 496, .inl nl)), (yr 23, .inl (cT 0, 496, .inl nr)), (yr 5, .inl (cT 0, 288, .inl vv)), (yr 21, .inl (cT 3, 496, .inl tl)), (yr 26, .inl (cT 3, 496, .inl kd)), (yr 20, .inl (cT 0, 496, .inl ed)), (yr 29, .inl (cT 0, 302, .inl f9u8)), (yr 40, .inl (cT 0, 19, .inl g9u8)), (y, .inr (11, MO yr (va_up yi 1 0) ysb ybs)), (yr 0, .inl (cT 0, 19, .inl fp)), (yr 30, .inl (cT 0, 302, .inl f9u11)), (yr 41, .inl (cT 0, 19, .inl g9u11)), (yr 37, .inl (cT 0, 302, .inl ft7u5)), (yr 38, .inl (cT 0, 302, .inl f1u13)), (yr 42, .inl (cT 0, 19, .inl gt7u5)), (yr 43, .inl (cT 0, 19, .inl f1u14))] := hD
      have nE : ∀ q, q < 19 → f1u14 q = gt7u5 q := fun q hq => by have q0 := hpu14.1 q hq; rw [Nat.zero_add] at q0; exact q0
      have hl : lv_has ls 5 [(3, .int (nI (bst (sqs X x n) (sqd Pp) (k + 1)))), (0, .ref y), (1, .long x), (4, .int (nI (k + 1)))] := by
        rw [bst_y glt]; exact hl
      refine lv_iinc (k := 3) (v := nI (k + 1 + 1)) hx hb dM_best_173 hl rfl (nI_1 (k + 1)) (by decide) rfl (fun ls hl => ?_)
      have hl : lv_has ls 5 [(4, .int (nI (k + 1 + 1))), (3, .int (nI (bst (sqs X x n) (sqd Pp) (k + 1)))), (0, .ref y), (1, .long x)] := hl
      refine lv_goto (tgt := 39) hx hb dM_best_176 rfl ?_
      exact ih39 (k + 1, zt7u5, f1u13, f1u14, ft7u5, gt7u5, fq7u5, f9u8, g9u8, f9u11, g9u11) (show (k + 1) ≤ T ∧ MN f1u13 zt7u5 ∧ LOK f1u14 (2 * bb) ∧ RED zt7u5 f1u14 ∧ zt7u5 * ((sqd Pp (bst (sqs X x n) (sqd Pp) (k + 1)) : Nat) : Int) = sqs X x n (bst (sqs X x n) (sqd Pp) (k + 1)) * (dn f1u14 : Int) from ⟨by omega, nN, lok_cg uL nE, red_cg uR nE, by rw [dn_cg nE, bst_y glt]; exact uv⟩) (show T - (k + 1) < T - k from (by omega)) ls H locs (lv_sub hl [2, 3, 1, 0] rfl) (hP.sub (ws' := [(y, .inr (11, MO yr (va_up yi 1 0) ysb ybs)), (yr 0, .inl (cT 0, 19, .inl fp)), (yr 29, .inl (cT 0, 302, .inl f9u8)), (yr 40, .inl (cT 0, 19, .inl g9u8)), (yr 30, .inl (cT 0, 302, .inl f9u11)), (yr 41, .inl (cT 0, 19, .inl g9u11)), (yr 32, .inl (cT 0, 302, .inl fq7u5)), (yr 4, .inl (cT 0, 48, .inl tg)), (yr 27, .inl (cT 0, 65472, .inl up)), (yr 28, .inl (cT 0, 9424, .inl lw)), (yr 19, .inl (cT 0, 496, .inl nc)), (yr 22, .inl (cT 0, 496, .inl nl)), (yr 23, .inl (cT 0, 496, .inl nr)), (yr 5, .inl (cT 0, 288, .inl vv)), (yr 21, .inl (cT 3, 496, .inl tl)), (yr 26, .inl (cT 3, 496, .inl kd)), (yr 20, .inl (cT 0, 496, .inl ed)), (yr 37, .inl (cT 0, 302, .inl ft7u5)), (yr 38, .inl (cT 0, 302, .inl f1u13)), (yr 42, .inl (cT 0, 19, .inl gt7u5)), (yr 43, .inl (cT 0, 19, .inl f1u14))]) [13, 14, 11, 12, 15, 16, 0, 1, 2, 3, 4, 5, 6, 7, 8, 9, 10, 17, 18, 19, 20] rfl) (hD.sub (ws' := [(y, .inr (11, MO yr (va_up yi 1 0) ysb ybs)), (yr 0, .inl (cT 0, 19, .inl fp)), (yr 29, .inl (cT 0, 302, .inl f9u8)), (yr 40, .inl (cT 0, 19, .inl g9u8)), (yr 30, .inl (cT 0, 302, .inl f9u11)), (yr 41, .inl (cT 0, 19, .inl g9u11)), (yr 32, .inl (cT 0, 302, .inl fq7u5)), (yr 4, .inl (cT 0, 48, .inl tg)), (yr 27, .inl (cT 0, 65472, .inl up)), (yr 28, .inl (cT 0, 9424, .inl lw)), (yr 19, .inl (cT 0, 496, .inl nc)), (yr 22, .inl (cT 0, 496, .inl nl)), (yr 23, .inl (cT 0, 496, .inl nr)), (yr 5, .inl (cT 0, 288, .inl vv)), (yr 21, .inl (cT 3, 496, .inl tl)), (yr 26, .inl (cT 3, 496, .inl kd)), (yr 20, .inl (cT 0, 496, .inl ed)), (yr 37, .inl (cT 0, 302, .inl ft7u5)), (yr 38, .inl (cT 0, 302, .inl f1u13)), (yr 42, .inl (cT 0, 19, .inl gt7u5)), (yr 43, .inl (cT 0, 19, .inl f1u14))]) [13, 14, 11, 12, 15, 16, 0, 1, 2, 3, 4, 5, 6, 7, 8, 9, 10, 17, 18, 19, 20] (by decide) rfl) hS
/-! The search in other units: residuals that are the same but for a common factor. -/
def BLN (P C : Nat) (b b' : BST) : Prop := b.1 * ((P * P : Nat) : Int) = b'.1 * ((C * C : Nat) : Int) ∧ b.2 = b'.2
theorem lt_lin {g g' b b' : Int} {Q R : Nat} (hQ : 0 < Q) (hR : 0 < R) (u v : Nat) (hb : b * (Q : Int) = b' * (R : Int)) (hg : g * (Q : Int) = g' * (R : Int)) : b * (u : Int) < g * (v : Int) ↔ b' * (u : Int) < g' * (v : Int) := by
  have e1 : b * (u : Int) * (Q : Int) = b' * (u : Int) * (R : Int) := by
    rw [show b * (u : Int) * (Q : Int) = b * (Q : Int) * u by ac_rfl, hb]; ac_rfl
  have e2 : g * (v : Int) * (Q : Int) = g' * (v : Int) * (R : Int) := by
    rw [show g * (v : Int) * (Q : Int) = g * (Q : Int) * v by ac_rfl, hg]; ac_rfl
  constructor
  · intro h
    have h1 := Int.mul_lt_mul_of_pos_right h (show (0 : Int) < (Q : Int) by omega)
    rw [e1, e2] at h1
    exact Int.lt_of_mul_lt_mul_right h1 (by omega)
  · intro h
    have h1 := Int.mul_lt_mul_of_pos_right h (show (0 : Int) < (R : Int) by omega)
    rw [← e1, ← e2] at h1
    exact Int.lt_of_mul_lt_mul_right h1 (by omega)
theorem eq_lin {g g' b b' : Int} {Q R : Nat} (hQ : 0 < Q) (hR : 0 < R) (u v : Nat) (hb : b * (Q : Int) = b' * (R : Int)) (hg : g * (Q : Int) = g' * (R : Int)) : b * (u : Int) = g * (v : Int) ↔ b' * (u : Int) = g' * (v : Int) := by
  have h1 := lt_lin hQ hR u v hb hg
  have h2 := lt_lin hQ hR v u hg hb
  omega
theorem wgh_lin {zr RR : Nat → Int} {n w lst P C : Nat} {A S : Int64} {b b' : BST} {cc ee ml : Int32} (hz : ∀ i, i < n → zr i * (P : Int) = RR i * (C : Int)) (hP : 0 < P) (hC : 0 < C) (hb : BLN P C b b') : BLN P C (wgh zr n w lst A b S cc ee ml) (wgh RR n w lst A b' S cc ee ml) := by
  obtain ⟨g, u⟩ := b
  obtain ⟨g', u'⟩ := b'
  obtain ⟨h1, h2⟩ := hb
  have h1 : g * ((P * P : Nat) : Int) = g' * ((C * C : Nat) : Int) := h1
  have h2 : u = u' := h2
  subst h2
  unfold wgh
  by_cases h : cb S < lst ∨ cb (A &&& (S ^^^ (-1))) < lst
  · rw [if_pos h, if_pos h]; exact ⟨h1, rfl⟩
  · rw [if_neg h, if_neg h]
    have hg := gZ_lin (l := cb S + w) (r := cb (A &&& (S ^^^ (-1))) + w) (n := cb S + cb (A &&& (S ^^^ (-1))) + w) (smv_lin (x := S) hz n (Nat.le_refl _)) (smv_lin (x := A &&& (S ^^^ (-1))) hz n (Nat.le_refl _))
    have hi := lt_lin (Nat.mul_pos hP hP) (Nat.mul_pos hC hC) ((cb S + w) * (cb (A &&& (S ^^^ (-1))) + w) * (cb S + cb (A &&& (S ^^^ (-1))) + w)) u.1 h1 hg
    by_cases q : g * (((cb S + w) * (cb (A &&& (S ^^^ (-1))) + w) * (cb S + cb (A &&& (S ^^^ (-1))) + w) : Nat) : Int) < gZ (smv zr S n) (smv zr (A &&& (S ^^^ (-1))) n) (cb S + w) (cb (A &&& (S ^^^ (-1))) + w) (cb S + cb (A &&& (S ^^^ (-1))) + w) * (u.1 : Int)
    · rw [if_pos q, if_pos (hi.mp q)]; exact ⟨hg, rfl⟩
    · rw [if_neg q, if_neg (fun r => q (hi.mpr r))]; exact ⟨h1, rfl⟩
theorem bef_lin {zr RR : Nat → Int} {n w P C : Nat} {x y : Int64} {k k2 : Int32} (hz : ∀ i, i < n → zr i * (P : Int) = RR i * (C : Int)) (hP : 0 < P) (hC : 0 < C) : bef zr n w x k y k2 = bef RR n w x k y k2 := by
  unfold bef
  have hx := smv_lin (x := x) hz n (Nat.le_refl _)
  have hy := smv_lin (x := y) hz n (Nat.le_refl _)
  have a := lt_lin hP hC (cb y + w) (cb x + w) hx hy
  have b := eq_lin hP hC (cb y + w) (cb x + w) hx hy
  rw [decide_eq_decide.mpr a, decide_eq_decide.mpr b]
theorem nxk_lin {zr RR : Nat → Int} {n w P C : Nat} {vv : Nat → Int32} {c : Nat} {A : Int64} {bits : Int32} (hz : ∀ i, i < n → zr i * (P : Int) = RR i * (C : Int)) (hP : 0 < P) (hC : 0 < C) : ∀ k, nxk zr n w vv c A bits k = nxk RR n w vv c A bits k
  | 0 => rfl
  | k + 1 => by
    show (if _ then _ else _) = (if _ then _ else _)
    rw [nxk_lin hz hP hC k, bef_lin hz hP hC]
theorem lks_lin {zr RR : Nat → Int} {n w lst P C : Nat} {A M S : Int64} {b b' : BST} {cc ee : Int32} (hz : ∀ i, i < n → zr i * (P : Int) = RR i * (C : Int)) (hP : 0 < P) (hC : 0 < C) (hb : BLN P C b b') : BLN P C (lks zr n w lst A M b S cc ee) (lks RR n w lst A M b' S cc ee) := by
  unfold lks
  split
  · exact wgh_lin hz hP hC hb
  · exact wgh_lin hz hP hC (wgh_lin hz hP hC hb)
theorem lkE_lin {zr RR : Nat → Int} {n w lst P C : Nat} {vv eg : Nat → Int32} {c : Nat} {A M : Int64} {b b' : BST} (hz : ∀ i, i < n → zr i * (P : Int) = RR i * (C : Int)) (hP : 0 < P) (hC : 0 < C) (hb : BLN P C b b') : ∀ k, BLN P C (lkE zr n w lst vv eg c A M b k) (lkE RR n w lst vv eg c A M b' k)
  | 0 => hb
  | k + 1 => lks_lin hz hP hC (lkE_lin hz hP hC hb k)
theorem lkk_lin {zr RR : Nat → Int} {n w lst P C : Nat} {vv : Nat → Int32} {c : Nat} {A M : Int64} (hz : ∀ i, i < n → zr i * (P : Int) = RR i * (C : Int)) (hP : 0 < P) (hC : 0 < C) : ∀ f bits side b b', BLN P C b b' → BLN P C (lkk zr n w lst vv c A M f bits side b) (lkk RR n w lst vv c A M f bits side b')
  | 0, _, _, _, _, hb => hb
  | f + 1, bits, side, b, b', hb => by
    show BLN P C (if _ then _ else _) (if _ then _ else _)
    rw [← nxk_lin (bits := bits) hz hP hC 12]
    rw [← nxk_lin (bits := bits ||| ((1 : Int32) <<< (nxk zr n w vv c A bits 12 &&& 31))) hz hP hC 12]
    by_cases q : nxk zr n w vv c A bits 12 < 0
    · rw [if_pos q, if_pos q]; exact hb
    · rw [if_neg q, if_neg q]
      refine lkk_lin hz hP hC f _ _ _ _ ?_
      split
      · exact hb
      · exact lks_lin hz hP hC hb
theorem colF_lin {zr RR : Nat → Int} {n w lst P C : Nat} {vv eg ik : Nat → Int32} {ne : Nat → Nat} {chb : Int32} {A : Int64} (hz : ∀ i, i < n → zr i * (P : Int) = RR i * (C : Int)) (hP : 0 < P) (hC : 0 < C) : ∀ c, BLN P C (colF zr n w lst vv eg ik ne chb A c) (colF RR n w lst vv eg ik ne chb A c)
  | 0 => ⟨by show (0 : Int) * _ = 0 * _; rw [Int.zero_mul, Int.zero_mul], rfl⟩
  | c + 1 => by
    have ih := colF_lin (w := w) (lst := lst) (vv := vv) (eg := eg) (ik := ik) (ne := ne) (chb := chb) (A := A) hz hP hC c
    show BLN P C (colS _ _ _ _ _ _ _ _ _ _ _ _) (colS _ _ _ _ _ _ _ _ _ _ _ _)
    unfold colS
    split
    · split
      · exact lkE_lin hz hP hC ih _
      · exact lkk_lin hz hP hC _ _ _ _ _ ih
    · exact ih
theorem bln_0 {P C : Nat} {b b' : BST} (hP : 0 < P) (hC : 0 < C) (h : BLN P C b b') : b.1 ≤ 0 ↔ b'.1 ≤ 0 := by
  have h1 := lt_lin (g := b.1) (g' := b'.1) (b := 0) (b' := 0) (Nat.mul_pos hP hP) (Nat.mul_pos hC hC) 1 1 (by rw [Int.zero_mul, Int.zero_mul]) h.1
  rw [Int.zero_mul, show ((1 : Nat) : Int) = 1 from rfl, Int.mul_one, Int.mul_one] at h1
  omega
/-- two searches that find the same -/
def SMB (best best' : Int64 → BST) : Prop := ∀ x, ((best x).1 ≤ 0 ↔ (best' x).1 ≤ 0) ∧ (best x).2 = (best' x).2
theorem gst_cg {best best' : Int64 → BST} {ik : Nat → Int32} {b0 dpt : Nat} (h : SMB best best') (g : GST) (it : ITM) : gst best ik b0 dpt g it = gst best' ik b0 dpt g it := by
  obtain ⟨a, m, rs⟩ := g
  obtain ⟨x, d, ab, lf⟩ := it
  obtain ⟨h1, h2⟩ := h x
  by_cases q : d = dpt ∨ (best x).1 ≤ 0
  · rw [gst_l q, gst_l (q.imp id h1.mp)]
  · rw [gst_s q, gst_s (fun r => q (r.imp id h1.mpr))]
    unfold gSpl
    rw [h2]
theorem gall_cg {best best' : Int64 → BST} {ik : Nat → Int32} {b0 dpt : Nat} (h : SMB best best') : ∀ f g st, gall best ik b0 dpt f g st = gall best' ik b0 dpt f g st
  | 0, _, _ => rfl
  | _ + 1, _, [] => rfl
  | f + 1, g, it :: st => by
    show gall best ik b0 dpt f (gst best ik b0 dpt g it).1 ((gst best ik b0 dpt g it).2 ++ st) = gall best' ik b0 dpt f (gst best' ik b0 dpt g it).1 ((gst best' ik b0 dpt g it).2 ++ st)
    rw [gst_cg h g it]
    exact gall_cg h f _ _
theorem ndf_cb {best best' : Int64 → BST} (hb : SMB best best') {RR : Nat → Int} {n w ru rl Pt BB b0 : Nat} {up lw nc : Nat → Int32} {rs : Nat → Int64} {k : Nat} (h : NDF best RR n w ru rl Pt BB b0 up lw nc rs k) : NDF best' RR n w ru rl Pt BB b0 up lw nc rs k := by
  unfold NDF at h ⊢
  rw [(hb (rs k)).2] at h
  exact h
theorem colF_smb {zr RR : Nat → Int} {n w lst P C wd : Nat} {vv eg ik : Nat → Int32} {ne : Nat → Nat} {chb : Int32} (hz : ∀ i, i < n → zr i * (P : Int) = RR i * (C : Int)) (hP : 0 < P) (hC : 0 < C) : SMB (fun x => colF zr n w lst vv eg ik ne chb x wd) (fun x => colF RR n w lst vv eg ik ne chb x wd) := fun x => by
  have h := colF_lin (w := w) (lst := lst) (vv := vv) (eg := eg) (ik := ik) (ne := ne) (chb := chb) (A := x) hz hP hC wd
  exact ⟨bln_0 hP hC h, h.2⟩
/-! What a grown tree is like. -/
theorem cb_add {A S : Int64} (h : WIN S A) : ∀ k, k ≤ 64 → cbn S k + cbn (A &&& (S ^^^ (-1))) k = cbn A k
  | 0, _ => rfl
  | k + 1, hk => by
    have ih := cb_add h k (by omega)
    show cbn S k + _ + (cbn (A &&& (S ^^^ (-1))) k + _) = cbn A k + _
    have e : bx (A &&& (S ^^^ (-1))) k = (bx A k && !bx S k) := by rw [bx_and, bx_not S (by omega)]
    rw [e]
    generalize cbn (A &&& (S ^^^ (-1))) k = u1 at ih ⊢
    generalize cbn S k = u2 at ih ⊢
    generalize cbn A k = u3 at ih ⊢
    cases hs : bx S k
    · cases ha : bx A k
      · simp; omega
      · simp; omega
    · rw [h k hs]; simp; omega
theorem gPar_0 {a : Nat → Nat → Int32} {m : Nat} {ab lf : Int32} : gPar a m ab lf 0 = a 0 ∧ gPar a m ab lf 1 = a 1 ∧ gPar a m ab lf 2 = a 2 ∧ gPar a m ab lf 5 = a 5 ∧ gPar a m ab lf 6 = a 6 ∧ gPar a m ab lf 7 = a 7 := by
  unfold gPar
  split
  · exact ⟨rfl, rfl, rfl, rfl, rfl, rfl⟩
  · split <;> exact ⟨rfl, rfl, rfl, rfl, rfl, rfl⟩
theorem gPar_3 {a : Nat → Nat → Int32} {m j : Nat} {ab lf : Int32} : gPar a m ab lf 3 j = if ¬ ab < 0 ∧ ¬ lf = 0 ∧ j = ab.toNatClampNeg then nI m else a 3 j := by
  unfold gPar
  by_cases h : ab < 0
  · rw [if_pos h, if_neg (fun q => q.1 h)]
  · rw [if_neg h]
    by_cases h2 : lf = 0
    · rw [if_pos h2, if_neg (fun q => q.2.1 h2)]; rfl
    · rw [if_neg h2]
      show upd (a 3) ab.toNatClampNeg (nI m) j = _
      by_cases h3 : j = ab.toNatClampNeg
      · rw [if_pos ⟨h, h2, h3⟩, h3]; exact pk_us
      · rw [if_neg (fun q => h3 q.2.2)]; exact pk_un h3
theorem gPar_4 {a : Nat → Nat → Int32} {m j : Nat} {ab lf : Int32} : gPar a m ab lf 4 j = if ¬ ab < 0 ∧ lf = 0 ∧ j = ab.toNatClampNeg then nI m else a 4 j := by
  unfold gPar
  by_cases h : ab < 0
  · rw [if_pos h, if_neg (fun q => q.1 h)]
  · rw [if_neg h]
    by_cases h2 : lf = 0
    · rw [if_pos h2]
      show upd (a 4) ab.toNatClampNeg (nI m) j = _
      by_cases h3 : j = ab.toNatClampNeg
      · rw [if_pos ⟨h, h2, h3⟩, h3]; exact pk_us
      · rw [if_neg (fun q => h3 q.2.2)]; exact pk_un h3
    · rw [if_neg h2, if_neg (fun q => h2 q.2.1)]; rfl
/-- the best split's left side of a node's rows -/
abbrev bsd (best : Int64 → BST) (x : Int64) : Int64 := (best x).2.2.2.2.2
/-- one side of node k: made already, or waiting -/
def SDN (a : Nat → Nat → Int32) (m : Nat) (rs : Nat → Int64) (st : List ITM) (b0 f k : Nat) (lf : Int32) (x : Int64) : Prop :=
  (∃ l, l < m ∧ a f (b0 + k) = nI l ∧ dg (a 6) (b0 + l) = dg (a 6) (b0 + k) + 1 ∧ rs l = x) ∨ (∃ it, it ∈ st ∧ it.1 = x ∧ it.2.1 = dg (a 6) (b0 + k) + 1 ∧ it.2.2.1 = nI (b0 + k) ∧ it.2.2.2 = lf)
def NOD (best : Int64 → BST) (b0 dpt : Nat) (AA : Int64) (a : Nat → Nat → Int32) (m : Nat) (rs : Nat → Int64) (st : List ITM) (k : Nat) : Prop :=
  a 6 (b0 + k) = nI (dg (a 6) (b0 + k)) ∧ dg (a 6) (b0 + k) ≤ dpt ∧ a 5 (b0 + k) = nI (cb (rs k)) ∧ 0 < cb (rs k) ∧ WIN (rs k) AA ∧
  (a 0 (b0 + k) = -1 ∨ ((∃ c, c < 6 ∧ a 0 (b0 + k) = nI c) ∧ dg (a 6) (b0 + k) < dpt ∧ ¬ (best (rs k)).1 ≤ 0 ∧ WIN (bsd best (rs k)) (rs k) ∧ SDN a m rs st b0 3 k 1 (rs k &&& bsd best (rs k)) ∧ SDN a m rs st b0 4 k 0 (rs k &&& (bsd best (rs k) ^^^ (-1)))))
def STI (best : Int64 → BST) (b0 dpt : Nat) (AA : Int64) (a : Nat → Nat → Int32) (m : Nat) (rs : Nat → Int64) (it : ITM) : Prop :=
  it.2.1 ≤ dpt ∧ 0 < cb it.1 ∧ WIN it.1 AA ∧ (it.2.2.1 < 0 ∨ ∃ k, k < m ∧ it.2.2.1 = nI (b0 + k) ∧ it.2.1 = dg (a 6) (b0 + k) + 1 ∧ (it.2.2.2 = 0 → it.1 = rs k &&& (bsd best (rs k) ^^^ (-1))) ∧ (¬ it.2.2.2 = 0 → it.1 = rs k &&& bsd best (rs k)))
/-- the rows of the leaves that are made, and of what waits -/
def lsm (nc : Nat → Int32) (rs : Nat → Int64) (b0 : Nat) : Nat → Nat
  | 0 => 0
  | k + 1 => lsm nc rs b0 k + if nc (b0 + k) = -1 then cb (rs k) else 0
def ssm : List ITM → Nat
  | [] => 0
  | it :: st => cb it.1 + ssm st
theorem lsm_cg {nc nc' : Nat → Int32} {rs rs' : Nat → Int64} {b0 : Nat} : ∀ {m : Nat}, (∀ k, k < m → nc' (b0 + k) = nc (b0 + k) ∧ rs' k = rs k) → lsm nc' rs' b0 m = lsm nc rs b0 m
  | 0, _ => rfl
  | m + 1, h => by
    show lsm nc' rs' b0 m + _ = lsm nc rs b0 m + _
    rw [lsm_cg (fun k hk => h k (by omega)), (h m (by omega)).1, (h m (by omega)).2]
def GIV (best : Int64 → BST) (b0 dpt : Nat) (AA : Int64) (a : Nat → Nat → Int32) (m : Nat) (rs : Nat → Int64) (st : List ITM) : Prop :=
  (∀ k, k < m → NOD best b0 dpt AA a m rs st k) ∧ (∀ it, it ∈ st → STI best b0 dpt AA a m rs it) ∧ lsm (a 0) rs b0 m + ssm st = cb AA ∧ ((m = 0 ∧ ∃ ab lf, st = [(AA, 0, ab, lf)]) ∨ (0 < m ∧ a 6 b0 = nI 0 ∧ rs 0 = AA))
/-- what the search gives for a set of rows -/
def HBS (best : Int64 → BST) (AA : Int64) : Prop := ∀ x, WIN x AA → 0 < cb x → ¬ (best x).1 ≤ 0 → (∃ c, c < 6 ∧ (best x).2.2.1 = nI c) ∧ WIN (bsd best x) x ∧ 0 < cb (bsd best x) ∧ 0 < cb (x &&& (bsd best x ^^^ (-1)))
theorem win_tr {x y z : Int64} (h1 : WIN x y) (h2 : WIN y z) : WIN x z := fun r h => h2 r (h1 r h)
/-- a node behind the others: its number goes to the node above; it is a leaf at first -/
theorem giv_b {best : Int64 → BST} {b0 dpt : Nat} {AA : Int64} {a : Nat → Nat → Int32} {m : Nat} {rs : Nat → Int64} {st : List ITM} {x : Int64} {d : Nat} {ab lf : Int32} {a' : Nat → Nat → Int32} {ch : List ITM} (hb0 : b0 + m < 2 ^ 30) (hd4 : dpt ≤ 4) (h : GIV best b0 dpt AA a m rs ((x, d, ab, lf) :: st))
    (h3 : ∀ k, k < m → a' 3 (b0 + k) = gPar a m ab lf 3 (b0 + k)) (h4 : ∀ k, k < m → a' 4 (b0 + k) = gPar a m ab lf 4 (b0 + k)) (hot : ∀ k, k < m → a' 0 (b0 + k) = a 0 (b0 + k) ∧ a' 5 (b0 + k) = a 5 (b0 + k) ∧ a' 6 (b0 + k) = a 6 (b0 + k)) (h6 : a' 6 (b0 + m) = nI d)
    (hnew : NOD best b0 dpt AA a' (m + 1) (va_up rs m x) (ch ++ st) m) (hch : ∀ it, it ∈ ch → STI best b0 dpt AA a' (m + 1) (va_up rs m x) it) (hsum : (if a' 0 (b0 + m) = -1 then cb x else 0) + ssm ch = cb x) (happ : ssm (ch ++ st) = ssm ch + ssm st) : GIV best b0 dpt AA a' (m + 1) (va_up rs m x) (ch ++ st) := by
  obtain ⟨g1, g2, g3, g4⟩ := h
  have it0 := g2 _ (List.mem_cons_self ..)
  have d6 : ∀ k, k < m → dg (a' 6) (b0 + k) = dg (a 6) (b0 + k) := fun k hk => dg_cg (hot k hk).2.2
  have d6m : dg (a' 6) (b0 + m) = d := by
    show (a' 6 (b0 + m)).toNatClampNeg = d
    rw [h6]
    exact nI_clamp (by have := it0.1; show d < 2 ^ 31; have h5 : d ≤ dpt := this; omega)
  have rsk : ∀ k, k < m → va_up rs m x k = rs k := fun k hk => va_up_ne _ _ (by omega)
  have clp : ∀ k, k < m → (nI (b0 + k)).toNatClampNeg = b0 + k := fun k hk => nI_clamp (by omega)
  have nneg : ∀ k, k < m → ¬ nI (b0 + k) < 0 := fun k hk q => by
    have := nI_toInt (n := b0 + k) (by omega)
    rw [Int32.lt_iff_toInt_lt, this] at q
    have e0 : (0 : Int32).toInt = 0 := by decide
    omega
  have sd : ∀ k, k < m → ∀ f l0 y, (f = 3 ∧ l0 = 1 ∨ f = 4 ∧ l0 = 0) → (f = 3 → y = rs k &&& bsd best (rs k)) → (f = 4 → y = rs k &&& (bsd best (rs k) ^^^ (-1))) → SDN a m rs ((x, d, ab, lf) :: st) b0 f k l0 y → SDN a' (m + 1) (va_up rs m x) (ch ++ st) b0 f k l0 y := by
    intro k hk f l0 y hf hy3 hy4 hs
    by_cases hq : ¬ ab < 0 ∧ b0 + k = ab.toNatClampNeg ∧ (f = 3 ∧ ¬ lf = 0 ∨ f = 4 ∧ lf = 0)
    · -- the new node is this side
      obtain ⟨q1, q2, q3⟩ := hq
      rcases it0.2.2.2 with r | ⟨k2, r1, r2, r3, r4, r5⟩
      · exact absurd r q1
      · have r2 : ab = nI (b0 + k2) := r2
        have ek : k2 = k := by rw [r2, clp k2 r1] at q2; omega
        subst ek
        refine Or.inl ⟨m, by omega, ?_, ?_, ?_⟩
        · rcases q3 with ⟨e, q⟩ | ⟨e, q⟩
          · rw [e, h3 k2 hk, gPar_3, if_pos ⟨q1, q, q2⟩]
          · rw [e, h4 k2 hk, gPar_4, if_pos ⟨q1, q, q2⟩]
        · rw [d6m, d6 k2 hk]; exact r3
        · rw [va_up_self]
          rcases q3 with ⟨e, q⟩ | ⟨e, q⟩
          · rw [hy3 e]; exact r5 q
          · rw [hy4 e]; exact r4 q
    · have ef : a' f (b0 + k) = a f (b0 + k) := by
        rcases hf with ⟨e, _⟩ | ⟨e, _⟩
        · subst e; rw [h3 k hk, gPar_3, if_neg (fun q => hq ⟨q.1, q.2.2, Or.inl ⟨rfl, q.2.1⟩⟩)]
        · subst e; rw [h4 k hk, gPar_4, if_neg (fun q => hq ⟨q.1, q.2.2, Or.inr ⟨rfl, q.2.1⟩⟩)]
      rcases hs with ⟨l, s1, s2, s3, s4⟩ | ⟨it, s1, s2, s3, s4, s5⟩
      · exact Or.inl ⟨l, by omega, by rw [ef]; exact s2, by rw [d6 l s1, d6 k hk]; exact s3, by rw [rsk l s1]; exact s4⟩
      · rcases List.mem_cons.mp s1 with e | e
        · exfalso
          subst e
          have s4 : ab = nI (b0 + k) := s4
          have s5 : lf = l0 := s5
          refine hq ⟨by rw [s4]; exact nneg k hk, by rw [s4, clp k hk], ?_⟩
          rcases hf with ⟨e, e2⟩ | ⟨e, e2⟩
          · exact Or.inl ⟨e, by rw [s5, e2]; decide⟩
          · exact Or.inr ⟨e, by rw [s5, e2]⟩
        · exact Or.inr ⟨it, List.mem_append_right _ e, s2, by rw [d6 k hk]; exact s3, s4, s5⟩
  refine ⟨fun k hk => ?_, fun it hi => ?_, ?_, Or.inr ⟨by omega, ?_⟩⟩
  · rcases (show k = m ∨ k < m by omega) with e | e
    · rw [e]; exact hnew
    · obtain ⟨n1, n2, n3, n4, n5, n6⟩ := g1 k e
      obtain ⟨o1, o2, o3⟩ := hot k e
      unfold NOD
      rw [rsk k e, d6 k e, o1, o2, o3]
      refine ⟨n1, n2, n3, n4, n5, n6.imp id (fun ⟨c1, c2, c0, c3, c5, c6⟩ => ⟨c1, c2, c0, c3, ?_, ?_⟩)⟩
      · exact sd k e 3 1 _ (Or.inl ⟨rfl, rfl⟩) (fun _ => rfl) (fun q => absurd q (by decide)) c5
      · exact sd k e 4 0 _ (Or.inr ⟨rfl, rfl⟩) (fun q => absurd q (by decide)) (fun _ => rfl) c6
  · rcases List.mem_append.mp hi with e | e
    · exact hch it e
    · obtain ⟨s1, s2, s3, s4⟩ := g2 it (List.mem_cons_of_mem _ e)
      exact ⟨s1, s2, s3, s4.imp id (fun ⟨k, r1, r2, r3, r4, r5⟩ => ⟨k, by omega, r2, by rw [d6 k r1]; exact r3, by rw [rsk k r1]; exact r4, by rw [rsk k r1]; exact r5⟩)⟩
  · show lsm (a' 0) (va_up rs m x) b0 m + _ + _ = _
    rw [lsm_cg (fun k hk => ⟨(hot k hk).1, rsk k hk⟩), va_up_self, happ]
    have g3 : lsm (a 0) rs b0 m + (cb x + ssm st) = cb AA := g3
    omega
  · rcases g4 with ⟨e, ab', lf', e2⟩ | ⟨p, q1, q2⟩
    · subst e
      obtain ⟨e3, _⟩ := List.cons.inj e2
      have ex : x = AA := congrArg (fun z : ITM => z.1) e3
      have ed : d = 0 := congrArg (fun z : ITM => z.2.1) e3
      exact ⟨by rw [Nat.add_zero, ed] at h6; exact h6, by rw [va_up_self]; exact ex⟩
    · exact ⟨by have := (hot 0 p).2.2; rw [Nat.add_zero] at this; rw [this]; exact q1, by rw [rsk 0 p]; exact q2⟩
theorem ssm_app : ∀ s t, ssm (s ++ t) = ssm s + ssm t
  | [], t => by show ssm t = 0 + ssm t; omega
  | it :: s, t => by show cb it.1 + ssm (s ++ t) = cb it.1 + ssm s + ssm t; rw [ssm_app s t]; omega
theorem giv_s {best : Int64 → BST} {ik : Nat → Int32} {b0 dpt : Nat} {AA : Int64} {a : Nat → Nat → Int32} {m : Nat} {rs : Nat → Int64} {st : List ITM} {x : Int64} {d : Nat} {ab lf : Int32} (hb0 : b0 + m + 1 < 2 ^ 30) (hd4 : dpt ≤ 4) (hv0 : vp_nar .boolean 0 = 0) (hv1 : vp_nar .boolean 1 = 1) (hB : HBS best AA) (h : GIV best b0 dpt AA a m rs ((x, d, ab, lf) :: st)) :
    GIV best b0 dpt AA (gst best ik b0 dpt (a, m, rs) (x, d, ab, lf)).1.1 (m + 1) (va_up rs m x) ((gst best ik b0 dpt (a, m, rs) (x, d, ab, lf)).2 ++ st) := by
  have it0 := h.2.1 _ (List.mem_cons_self ..)
  obtain ⟨i1, i2, i3, i4⟩ := it0
  have i1 : d ≤ dpt := i1
  obtain ⟨p0, p1, p2, p5, p6, p7⟩ := gPar_0 (a := a) (m := m) (ab := ab) (lf := lf)
  have dnew : ∀ {g : Nat → Int32}, g (b0 + m) = nI d → dg g (b0 + m) = d := fun {g} hg => by
    show (g (b0 + m)).toNatClampNeg = d
    rw [hg]; exact nI_clamp (by omega)
  by_cases q : d = dpt ∨ (best x).1 ≤ 0
  · rw [gst_l q]
    have e6 : (gBeg (gPar a m ab lf) (b0 + m) x d) 6 (b0 + m) = nI d := pk_us
    refine giv_b (by omega) hd4 h (fun k hk => pk_un (by omega)) (fun k hk => pk_un (by omega)) (fun k hk => ⟨?_, ?_, ?_⟩) e6 ?_ (fun it hi => absurd hi (List.not_mem_nil)) ?_ (ssm_app _ _)
    · exact (pk_un (by omega)).trans (by rw [p0])
    · exact (pk_un (by omega)).trans (by rw [p5])
    · exact (pk_un (by omega)).trans (by rw [p6])
    · refine ⟨by rw [dnew e6]; exact e6, by rw [dnew e6]; exact i1, by rw [va_up_self]; exact pk_us, by rw [va_up_self]; exact i2, by rw [va_up_self]; exact i3, Or.inl pk_us⟩
    · rw [if_pos (show (gBeg (gPar a m ab lf) (b0 + m) x d) 0 (b0 + m) = -1 from pk_us)]; rfl
  · rw [gst_s q]
    have hq2 : ¬ (best x).1 ≤ 0 := fun r => q (Or.inr r)
    have hq1 : d < dpt := by rcases Nat.lt_or_ge d dpt with r | r; exact r; exact absurd (Or.inl (by omega)) q
    obtain ⟨⟨c, hc, hcc⟩, b2, b3, b4⟩ := hB x i3 i2 hq2
    have hxl : x &&& bsd best x = bsd best x := win_eq b2
    have e6 : (gSpl (gBeg (gPar a m ab lf) (b0 + m) x d) (b0 + m) (best x) (ik (best x).2.2.1.toNatClampNeg)) 6 (b0 + m) = nI d := pk_us
    have e0 : (gSpl (gBeg (gPar a m ab lf) (b0 + m) x d) (b0 + m) (best x) (ik (best x).2.2.1.toNatClampNeg)) 0 (b0 + m) = nI c := by
      have r : (gSpl (gBeg (gPar a m ab lf) (b0 + m) x d) (b0 + m) (best x) (ik (best x).2.2.1.toNatClampNeg)) 0 (b0 + m) = (best x).2.2.1 := pk_us
      rw [r, hcc]
    have hadd : cb (bsd best x) + cb (x &&& (bsd best x ^^^ (-1))) = cb x := cb_add b2 64 (Nat.le_refl _)
    rw [hv0, hv1]
    have hst : ∀ it, it ∈ [(x &&& bsd best x, d + 1, nI (b0 + m), (1 : Int32)), (x &&& (bsd best x ^^^ (-1)), d + 1, nI (b0 + m), (0 : Int32))] → STI best b0 dpt AA (gSpl (gBeg (gPar a m ab lf) (b0 + m) x d) (b0 + m) (best x) (ik (best x).2.2.1.toNatClampNeg)) (m + 1) (va_up rs m x) it := by
      intro it hi
      rcases List.mem_cons.mp hi with e | e
      · subst e
        refine ⟨by show d + 1 ≤ dpt; omega, by show 0 < cb (x &&& bsd best x); rw [hxl]; exact b3, win_andl i3, Or.inr ⟨m, by omega, rfl, by rw [dnew e6], fun r => absurd (show (1 : Int32) = 0 from r) (by decide), fun _ => by rw [va_up_self]⟩⟩
      · rcases List.mem_cons.mp e with e | e
        · subst e
          refine ⟨by show d + 1 ≤ dpt; omega, b4, win_andl i3, Or.inr ⟨m, by omega, rfl, by rw [dnew e6], fun _ => by rw [va_up_self], fun r => absurd rfl r⟩⟩
        · exact absurd e (List.not_mem_nil)
    refine giv_b (by omega) hd4 h (fun k hk => pk_un (by omega)) (fun k hk => pk_un (by omega)) (fun k hk => ⟨?_, ?_, ?_⟩) e6 ?_ hst ?_ (ssm_app _ _)
    · exact (pk_un (by omega)).trans ((pk_un (by omega)).trans (by rw [p0]))
    · exact (pk_un (by omega)).trans (by rw [p5])
    · exact (pk_un (by omega)).trans (by rw [p6])
    · refine ⟨by rw [dnew e6]; exact e6, by rw [dnew e6]; exact i1, by rw [va_up_self]; exact pk_us, by rw [va_up_self]; exact i2, by rw [va_up_self]; exact i3, Or.inr ⟨⟨c, hc, e0⟩, by rw [dnew e6]; exact hq1, by rw [va_up_self]; exact hq2, by rw [va_up_self]; exact b2, Or.inr ⟨_, List.mem_append_left _ (List.mem_cons_self ..), by rw [va_up_self], by rw [dnew e6], rfl, rfl⟩, Or.inr ⟨_, List.mem_append_left _ (List.mem_cons_of_mem _ (List.mem_cons_self ..)), by rw [va_up_self], by rw [dnew e6], rfl, rfl⟩⟩⟩
    · rw [if_neg (show ¬ (gSpl (gBeg (gPar a m ab lf) (b0 + m) x d) (b0 + m) (best x) (ik (best x).2.2.1.toNatClampNeg)) 0 (b0 + m) = -1 by rw [e0]; exact nI_nm1 (by omega))]
      show 0 + (cb (x &&& bsd best x) + (cb (x &&& (bsd best x ^^^ (-1))) + 0)) = cb x
      rw [hxl]
      omega
theorem gst_m {best : Int64 → BST} {ik : Nat → Int32} {b0 dpt : Nat} {a : Nat → Nat → Int32} {m : Nat} {rs : Nat → Int64} {it : ITM} : (gst best ik b0 dpt (a, m, rs) it).1.2 = (m + 1, va_up rs m it.1) := by
  obtain ⟨x, d, ab, lf⟩ := it
  by_cases q : d = dpt ∨ (best x).1 ≤ 0
  · rw [gst_l q]
  · rw [gst_s q]
theorem gst_w {best : Int64 → BST} {ik : Nat → Int32} {b0 dpt : Nat} {a : Nat → Nat → Int32} {m : Nat} {rs : Nat → Int64} {x : Int64} {d : Nat} {ab lf : Int32} {st : List ITM} (hd : d ≤ dpt) : gws dpt ((gst best ik b0 dpt (a, m, rs) (x, d, ab, lf)).2 ++ st) + 1 ≤ gws dpt ((x, d, ab, lf) :: st) := by
  have hp := Nat.pow_le_pow_right (show 0 < 2 by decide) (show 1 ≤ dpt - d + 1 by omega)
  by_cases q : d = dpt ∨ (best x).1 ≤ 0
  · rw [gst_l q]
    show gws dpt st + 1 ≤ (2 ^ (dpt - d + 1) - 1) + gws dpt st
    omega
  · rw [gst_s q]
    show (2 ^ (dpt - (d + 1) + 1) - 1) + ((2 ^ (dpt - (d + 1) + 1) - 1) + gws dpt st) + 1 ≤ (2 ^ (dpt - d + 1) - 1) + gws dpt st
    have hq1 : d < dpt := by rcases Nat.lt_or_ge d dpt with r | r; exact r; exact absurd (Or.inl (by omega)) q
    have := gws_2 hq1
    omega
theorem giv_all {best : Int64 → BST} {ik : Nat → Int32} {b0 dpt : Nat} {AA : Int64} (hb0 : b0 + 31 < 2 ^ 30) (hd4 : dpt ≤ 4) (hv0 : vp_nar .boolean 0 = 0) (hv1 : vp_nar .boolean 1 = 1) (hB : HBS best AA) : ∀ f a m rs st, GIV best b0 dpt AA a m rs st → gws dpt st ≤ f → m + gws dpt st ≤ 31 →
    GIV best b0 dpt AA (gall best ik b0 dpt f (a, m, rs) st).1 (gall best ik b0 dpt f (a, m, rs) st).2.1 (gall best ik b0 dpt f (a, m, rs) st).2.2 [] ∧ (gall best ik b0 dpt f (a, m, rs) st).2.1 ≤ 31
  | 0, a, m, rs, [], h, _, hm => ⟨h, by show m ≤ 31; omega⟩
  | 0, a, m, rs, it :: st, h, hf, _ => by
    exfalso
    have h1 := (h.2.1 _ (List.mem_cons_self ..)).1
    have hp := Nat.pow_le_pow_right (show 0 < 2 by decide) (show 1 ≤ dpt - it.2.1 + 1 by omega)
    have hf : (2 ^ (dpt - it.2.1 + 1) - 1) + gws dpt st ≤ 0 := hf
    omega
  | f + 1, a, m, rs, [], h, _, hm => ⟨h, by show m ≤ 31; omega⟩
  | f + 1, a, m, rs, (x, d, ab, lf) :: st, h, hf, hm => by
    have h1 : d ≤ dpt := (h.2.1 _ (List.mem_cons_self ..)).1
    have hw := gst_w (best := best) (ik := ik) (b0 := b0) (a := a) (m := m) (rs := rs) (x := x) (ab := ab) (lf := lf) (st := st) h1
    have hs := giv_s (ik := ik) (by omega) hd4 hv0 hv1 hB h
    have hg := gst_m (best := best) (ik := ik) (b0 := b0) (dpt := dpt) (a := a) (m := m) (rs := rs) (it := (x, d, ab, lf))
    have ih := giv_all (ik := ik) hb0 hd4 hv0 hv1 hB f (gst best ik b0 dpt (a, m, rs) (x, d, ab, lf)).1.1 (m + 1) (va_up rs m x) ((gst best ik b0 dpt (a, m, rs) (x, d, ab, lf)).2 ++ st) hs (by omega) (by omega)
    have e : (gst best ik b0 dpt (a, m, rs) (x, d, ab, lf)).1 = ((gst best ik b0 dpt (a, m, rs) (x, d, ab, lf)).1.1, m + 1, va_up rs m x) := Prod.ext rfl hg
    show GIV best b0 dpt AA (gall best ik b0 dpt f (gst best ik b0 dpt (a, m, rs) (x, d, ab, lf)).1 _).1 (gall best ik b0 dpt f (gst best ik b0 dpt (a, m, rs) (x, d, ab, lf)).1 _).2.1 (gall best ik b0 dpt f (gst best ik b0 dpt (a, m, rs) (x, d, ab, lf)).1 _).2.2 [] ∧ (gall best ik b0 dpt f (gst best ik b0 dpt (a, m, rs) (x, d, ab, lf)).1 _).2.1 ≤ 31
    rw [e]
    exact ih
/-! The room of the leaves' denominators: least common multiples of rows and weight. -/
def lch (w : Nat) : Nat → Nat → Nat → Nat → Bool
  | 0, _, _, acc => Nat.ble acc 111767455800
  | f + 1, v, s, acc => cond (Nat.blt s v) (Nat.ble acc 111767455800) (cond (lch w f (v + 1) s acc) (lch w f (v + 1) (s - v) (Nat.lcm acc (v + w))) false)
theorem lch_ok : ∀ w, w < 21 → lch w 48 1 48 1 = true := by decide +kernel
/-- over the sizes from 1 to v that p has: the least common multiple with the weight, and the sum -/
def lcn (w : Nat) (p : Nat → Bool) : Nat → Nat
  | 0 => 1
  | v + 1 => if p (v + 1) = true then Nat.lcm (lcn w p v) (v + 1 + w) else lcn w p v
def smn (p : Nat → Bool) : Nat → Nat
  | 0 => 0
  | v + 1 => smn p v + if p (v + 1) = true then v + 1 else 0
theorem smn_mono {p : Nat → Bool} {u : Nat} : ∀ j, smn p u ≤ smn p (u + j)
  | 0 => Nat.le_refl _
  | j + 1 => Nat.le_trans (smn_mono j) (Nat.le_add_right _ _)
theorem lcn_st {w : Nat} {p : Nat → Bool} {u s : Nat} (hs : s < u + 1) : ∀ j, smn p (u + j) ≤ smn p u + s → lcn w p (u + j) = lcn w p u
  | 0, _ => rfl
  | j + 1, h => by
    have h : smn p (u + j) + (if p (u + j + 1) = true then u + j + 1 else 0) ≤ smn p u + s := h
    have hm := smn_mono (p := p) (u := u) j
    show (if p (u + j + 1) = true then Nat.lcm (lcn w p (u + j)) (u + j + 1 + w) else lcn w p (u + j)) = lcn w p u
    by_cases q : p (u + j + 1) = true
    · rw [if_pos q] at h; omega
    · rw [if_neg q] at h ⊢
      exact lcn_st hs j (by omega)
theorem lch_use {w : Nat} {p : Nat → Bool} : ∀ f u s acc, lch w f (u + 1) s acc = true → smn p (u + f) ≤ smn p u + s → acc = lcn w p u → lcn w p (u + f) ≤ 111767455800
  | 0, u, s, acc, h, _, ha => by
    have h : Nat.ble acc 111767455800 = true := h
    rw [Nat.add_zero, ← ha]
    exact Nat.le_of_ble_eq_true h
  | f + 1, u, s, acc, h, hs, ha => by
    have h : cond (Nat.blt s (u + 1)) (Nat.ble acc 111767455800) (cond (lch w f (u + 1 + 1) s acc) (lch w f (u + 1 + 1) (s - (u + 1)) (Nat.lcm acc (u + 1 + w))) false) = true := h
    cases hb : Nat.blt s (u + 1)
    · rw [hb] at h
      have h : cond (lch w f (u + 1 + 1) s acc) (lch w f (u + 1 + 1) (s - (u + 1)) (Nat.lcm acc (u + 1 + w))) false = true := h
      cases h1 : lch w f (u + 1 + 1) s acc
      · rw [h1] at h; exact absurd (show false = true from h) (by decide)
      · rw [h1] at h
        have h2 : lch w f (u + 1 + 1) (s - (u + 1)) (Nat.lcm acc (u + 1 + w)) = true := h
        have hge : u + 1 ≤ s := by
          rcases Nat.lt_or_ge s (u + 1) with q | q
          · have : Nat.blt s (u + 1) = true := Nat.ble_eq_true_of_le (n := s + 1) (m := u + 1) (by omega)
            rw [hb] at this; exact absurd this (by decide)
          · exact q
        have e : u + (f + 1) = u + 1 + f := by omega
        rw [e] at hs ⊢
        have es : smn p (u + 1) = smn p u + if p (u + 1) = true then u + 1 else 0 := rfl
        have el : lcn w p (u + 1) = if p (u + 1) = true then Nat.lcm (lcn w p u) (u + 1 + w) else lcn w p u := rfl
        by_cases q : p (u + 1) = true
        · rw [if_pos q] at es el
          exact lch_use f (u + 1) _ _ h2 (by omega) (by rw [el, ha])
        · rw [if_neg q] at es el
          exact lch_use f (u + 1) _ _ h1 (by omega) (by rw [el, ha])
    · rw [hb] at h
      have h : Nat.ble acc 111767455800 = true := h
      have hlt : s < u + 1 := Nat.le_of_ble_eq_true hb
      rw [lcn_st hlt (f + 1) hs, ← ha]
      exact Nat.le_of_ble_eq_true h
theorem lcn_le {w : Nat} {p : Nat → Bool} (hw : w ≤ 20) (hs : smn p 48 ≤ 48) : lcn w p 48 ≤ 111767455800 := by
  have := lch_use (p := p) 48 0 48 1 (lch_ok w (by omega)) (by rw [Nat.zero_add]; show smn p 48 ≤ 0 + 48; omega) rfl
  rw [Nat.zero_add] at this
  exact this
theorem lcn_pos {w : Nat} {p : Nat → Bool} : ∀ v, 0 < lcn w p v
  | 0 => Nat.one_pos
  | v + 1 => by
    show 0 < if _ then _ else _
    split
    · exact Nat.lcm_pos (lcn_pos v) (by omega)
    · exact lcn_pos v
theorem lcn_mem {w : Nat} {p : Nat → Bool} {u : Nat} (hu : p u = true) (h1 : 1 ≤ u) : ∀ v, u ≤ v → u + w ∣ lcn w p v
  | 0, h => absurd h (by omega)
  | v + 1, h => by
    show u + w ∣ if _ then _ else _
    by_cases q : u = v + 1
    · subst q
      rw [if_pos hu]
      exact Nat.dvd_lcm_right _ _
    · have ih := lcn_mem (w := w) hu h1 v (by omega)
      split
      · exact Nat.dvd_trans ih (Nat.dvd_lcm_left _ _)
      · exact ih
theorem lcn_mono {w : Nat} {p p' : Nat → Bool} (h : ∀ v, p v = true → p' v = true) : ∀ v, lcn w p v ∣ lcn w p' v
  | 0 => Nat.dvd_refl _
  | v + 1 => by
    show (if p (v + 1) = true then Nat.lcm (lcn w p v) (v + 1 + w) else lcn w p v) ∣ (if p' (v + 1) = true then Nat.lcm (lcn w p' v) (v + 1 + w) else lcn w p' v)
    have ih := lcn_mono (w := w) h v
    by_cases q : p (v + 1) = true
    · rw [if_pos q, if_pos (h _ q)]
      exact Nat.lcm_dvd (Nat.dvd_trans ih (Nat.dvd_lcm_left _ _)) (Nat.dvd_lcm_right _ _)
    · rw [if_neg q]
      split
      · exact Nat.dvd_trans ih (Nat.dvd_lcm_left _ _)
      · exact ih
theorem smn_or {p : Nat → Bool} {c : Nat} : ∀ V, smn (fun v => p v || decide (c = v)) V ≤ smn p V + if c ≤ V then c else 0
  | 0 => Nat.zero_le _
  | V + 1 => by
    have ih := smn_or (p := p) (c := c) V
    show smn (fun v => p v || decide (c = v)) V + (if (p (V + 1) || decide (c = V + 1)) = true then V + 1 else 0) ≤ smn p V + (if p (V + 1) = true then V + 1 else 0) + if c ≤ V + 1 then c else 0
    by_cases q : c = V + 1
    · rw [if_neg (show ¬ c ≤ V by omega)] at ih
      rw [if_pos (show c ≤ V + 1 by omega)]
      split <;> split <;> omega
    · have e : decide (c = V + 1) = false := decide_eq_false q
      rw [e, Bool.or_false]
      by_cases r : c ≤ V
      · rw [if_pos r] at ih; rw [if_pos (show c ≤ V + 1 by omega)]; omega
      · rw [if_neg r] at ih; rw [if_neg (show ¬ c ≤ V + 1 by omega)]; omega
theorem smn_cg {p p' : Nat → Bool} (h : ∀ v, p v = p' v) : ∀ V, smn p V = smn p' V
  | 0 => rfl
  | V + 1 => by
    show smn p V + _ = smn p' V + _
    rw [smn_cg h V, h]
/-! All trees, as both sides keep them: arrays of nodes, how many nodes, their sums, the plan's weight and rate. -/
abbrev TFR : Type := (Nat → Nat → Int32) × (Nat → Nat) × (Nat → Nat → Int) × (Nat → Nat) × (Nat → Nat) × (Nat → Nat)
abbrev tA (F : TFR) : Nat → Nat → Int32 := F.1
abbrev tM (F : TFR) : Nat → Nat := F.2.1
abbrev tS (F : TFR) : Nat → Nat → Int := F.2.2.1
abbrev tW (F : TFR) : Nat → Nat := F.2.2.2.1
abbrev tU (F : TFR) : Nat → Nat := F.2.2.2.2.1
abbrev tL (F : TFR) : Nat → Nat := F.2.2.2.2.2
/-- a node's rows; what its sum is divided by; what that needs; the tree's scale; the scales' product; a leaf's value -/
def nR (F : TFR) (t k : Nat) : Nat := dg (tA F 5) (31 * t + k)
def unr (F : TFR) (t k : Nat) : Nat := tL F t * (nR F t k + tW F t)
def ndd (F : TFR) (t k : Nat) : Nat := unr F t k / Nat.gcd (unr F t k) (tU F t * (tS F t k).natAbs)
def scl (F : TFR) (t : Nat) : Nat → Nat
  | 0 => 1
  | k + 1 => if tA F 0 (31 * t + k) = -1 then Nat.lcm (scl F t k) (ndd F t k) else scl F t k
def sca (F : TFR) (t : Nat) : Nat := scl F t (tM F t)
def Ppf (F : TFR) : Nat → Nat
  | 0 => 1
  | t + 1 => Ppf F t * sca F t
def lvf (F : TFR) (t k : Nat) : Int := tS F t k * ((tU F t * sca F t : Nat) : Int) / (unr F t k : Int)
/-- the rows of the first k nodes' leaves; the sizes that leaves have -/
def lfs (F : TFR) (t : Nat) : Nat → Nat
  | 0 => 0
  | k + 1 => lfs F t k + if tA F 0 (31 * t + k) = -1 then nR F t k else 0
def inl (F : TFR) (t : Nat) : Nat → Nat → Bool
  | 0, _ => false
  | k + 1, v => inl F t k v || (decide (tA F 0 (31 * t + k) = -1) && decide (nR F t k = v))
theorem smn_inl {F : TFR} {t : Nat} : ∀ k, smn (inl F t k) 48 ≤ lfs F t k
  | 0 => by
    have : ∀ V, smn (inl F t 0) V = 0 := fun V => by
      induction V with
      | zero => rfl
      | succ V ih => show smn (inl F t 0) V + 0 = 0; omega
    rw [this]; exact Nat.zero_le _
  | k + 1 => by
    have ih := smn_inl (F := F) (t := t) k
    show _ ≤ lfs F t k + _
    by_cases q : tA F 0 (31 * t + k) = -1
    · rw [if_pos q]
      have e := smn_cg (p := inl F t (k + 1)) (p' := fun v => inl F t k v || decide (nR F t k = v)) (fun v => by show (_ || (_ && _)) = _; rw [decide_eq_true q, Bool.true_and]) 48
      have := smn_or (p := inl F t k) (c := nR F t k) 48
      rw [e]
      split at this <;> omega
    · rw [if_neg q]
      have e := smn_cg (p := inl F t (k + 1)) (p' := inl F t k) (fun v => by show (_ || (_ && _)) = _; rw [decide_eq_false q, Bool.false_and, Bool.or_false]) 48
      rw [e]; exact ih
theorem ndd_dvd {F : TFR} {t k : Nat} : ndd F t k ∣ unr F t k := Nat.div_dvd_of_dvd (Nat.gcd_dvd_left _ _)
theorem ndd_pos {F : TFR} {t k : Nat} (h : 0 < unr F t k) : 0 < ndd F t k := Nat.div_pos (Nat.le_of_dvd h (Nat.gcd_dvd_left _ _)) (Nat.gcd_pos_of_pos_left _ h)
theorem scl_pos {F : TFR} {t : Nat} : ∀ {k : Nat}, (∀ j, j < k → 0 < unr F t j) → 0 < scl F t k
  | 0, _ => by show 0 < 1; decide
  | k + 1, h => by
    show 0 < if _ then _ else _
    have ih := scl_pos (F := F) (t := t) (k := k) (fun j hj => h j (by omega))
    split
    · exact Nat.lcm_pos ih (ndd_pos (h k (by omega)))
    · exact ih
theorem scl_mem {F : TFR} {t j : Nat} (hj : tA F 0 (31 * t + j) = -1) : ∀ k, j < k → ndd F t j ∣ scl F t k
  | 0, h => absurd h (by omega)
  | k + 1, h => by
    show ndd F t j ∣ if _ then _ else _
    by_cases q : j = k
    · subst q; rw [if_pos hj]; exact Nat.dvd_lcm_right _ _
    · have ih := scl_mem (F := F) (t := t) hj k (by omega)
      split
      · exact Nat.dvd_trans ih (Nat.dvd_lcm_left _ _)
      · exact ih
theorem scl_dvd {F : TFR} {t : Nat} : ∀ {k : Nat}, (∀ j, j < k → 1 ≤ nR F t j ∧ nR F t j ≤ 48) → scl F t k ∣ tL F t * lcn (tW F t) (inl F t k) 48
  | 0, _ => Nat.one_dvd _
  | k + 1, h => by
    have ih := scl_dvd (F := F) (t := t) (k := k) (fun j hj => h j (by omega))
    have mono : lcn (tW F t) (inl F t k) 48 ∣ lcn (tW F t) (inl F t (k + 1)) 48 := lcn_mono (fun v hv => by show (_ || _) = true; rw [hv]; rfl) 48
    have ih2 := Nat.dvd_trans ih (Nat.mul_dvd_mul_left (tL F t) mono)
    show (if _ then _ else _) ∣ _
    by_cases q : tA F 0 (31 * t + k) = -1
    · rw [if_pos q]
      refine Nat.lcm_dvd ih2 (Nat.dvd_trans ndd_dvd (Nat.mul_dvd_mul_left _ (lcn_mem ?_ (h k (by omega)).1 48 (h k (by omega)).2)))
      show (_ || (_ && _)) = true
      rw [decide_eq_true q, decide_eq_true rfl]; simp
    · rw [if_neg q]; exact ih2
theorem lvf_v {F : TFR} {t k : Nat} (hk : k < tM F t) (hl : tA F 0 (31 * t + k) = -1) : lvf F t k * (unr F t k : Int) = tS F t k * ((tU F t * sca F t : Nat) : Int) := by
  unfold lvf
  apply Int.ediv_mul_cancel
  apply Int.natAbs_dvd_natAbs.mp
  rw [Int.natAbs_natCast, Int.natAbs_mul, Int.natAbs_natCast]
  obtain ⟨q, hq⟩ := scl_mem (F := F) (t := t) hl (tM F t) hk
  have hg := Nat.gcd_dvd_left (unr F t k) (tU F t * (tS F t k).natAbs)
  obtain ⟨r, hr⟩ := Nat.gcd_dvd_right (unr F t k) (tU F t * (tS F t k).natAbs)
  have e1 : unr F t k = ndd F t k * Nat.gcd (unr F t k) (tU F t * (tS F t k).natAbs) := (Nat.div_mul_cancel hg).symm
  refine ⟨q * r, ?_⟩
  have e2 : (tS F t k).natAbs * (tU F t * sca F t) = tU F t * (tS F t k).natAbs * sca F t := by ac_rfl
  have e3 : sca F t = ndd F t k * q := hq
  rw [e2, hr, e3]
  calc Nat.gcd (unr F t k) (tU F t * (tS F t k).natAbs) * r * (ndd F t k * q) = ndd F t k * Nat.gcd (unr F t k) (tU F t * (tS F t k).natAbs) * (q * r) := by ac_rfl
    _ = unr F t k * (q * r) := by rw [← e1]
/-! The trees are in order: what both sides rest on. -/
abbrev goF (a : Nat → Nat → Int32) (vq : Nat → Int32) (t k : Nat) : Bool := goB (a 2 (31 * t + k)) (a 7 (31 * t + k)) (a 1 (31 * t + k)) (vq (a 0 (31 * t + k)).toNatClampNeg)
def lfF (a : Nat → Nat → Int32) (vq : Nat → Int32) (t : Nat) : Nat := lfw (a 0) (a 3) (a 4) (goF a vq t) (31 * t) 4 0
/-- what the first trees leave of a number -/
def xF (F : TFR) (vq : Nat → Int32) (x0 : Int) : Nat → Int
  | 0 => x0
  | t + 1 => xF F vq x0 t * (sca F t : Int) - lvf F t (lfF (tA F) vq t)
def TOK1 (F : TFR) (t : Nat) : Prop :=
  TWF (tA F 0) (tA F 3) (tA F 4) (fun k => dg (tA F 6) (31 * t + k)) (31 * t) (tM F t) ∧ (0 < tU F t ∧ tU F t ≤ tL F t ∧ tL F t ≤ 16) ∧ tW F t ≤ 20 ∧ lfs F t (tM F t) ≤ 48 ∧
  ∀ k, k < tM F t → (tA F 5 (31 * t + k) = nI (nR F t k) ∧ tA F 6 (31 * t + k) = nI (dg (tA F 6) (31 * t + k))) ∧ (1 ≤ nR F t k ∧ nR F t k ≤ 48) ∧ (tS F t k).natAbs ≤ nR F t k * (1000 * 2 ^ t * Ppf F t) ∧
    (tA F 0 (31 * t + k) = -1 ∨ (nR F t k = nR F t (dg (tA F 3) (31 * t + k)) + nR F t (dg (tA F 4) (31 * t + k)) ∧ tS F t k = tS F t (dg (tA F 3) (31 * t + k)) + tS F t (dg (tA F 4) (31 * t + k))))
def TOK (F : TFR) (T : Nat) : Prop := (∀ q, q < 496 → tA F 2 q = 0 ∨ tA F 2 q = 1) ∧ ∀ t, t < T → TOK1 F t
theorem lfw_end {nc nl nr : Nat → Int32} {go : Nat → Bool} {dp : Nat → Nat} {b n : Nat} (h : TWF nc nl nr dp b n) : ∀ f k, k < n → 4 ≤ dp k + f → lfw nc nl nr go b f k < n ∧ nc (b + lfw nc nl nr go b f k) = -1
  | 0, k, hk, hd => by
    have h1 := h.2.2.2 k hk
    refine ⟨hk, ?_⟩
    rcases h1.2 with q | ⟨_, q, _⟩
    · exact q
    · exact absurd q (by omega)
  | f + 1, k, hk, hd => by
    have h1 := h.2.2.2 k hk
    rcases h1.2 with q | ⟨⟨c, q0, q00⟩, q1, q2, q3, q4, q5, q6, q7⟩
    · have hn : nc (b + k) < 0 := by rw [q]; decide
      rw [lfw_leaf hn]
      exact ⟨hk, q⟩
    · have hn : ¬ nc (b + k) < 0 := fun r => by
        have e := nI_toInt (n := c) (by omega)
        rw [q00, Int32.lt_iff_toInt_lt, e] at r
        have e0 : (0 : Int32).toInt = 0 := by decide
        omega
      rw [lfw_s hn]
      split
      · exact lfw_end h f _ q4 (by omega)
      · exact lfw_end h f _ q5 (by omega)
theorem lfF_ok {F : TFR} {t : Nat} (h : TOK1 F t) (vq : Nat → Int32) : lfF (tA F) vq t < tM F t ∧ tA F 0 (31 * t + lfF (tA F) vq t) = -1 := lfw_end h.1 4 0 h.1.1 (by omega)
theorem unr_pos {F : TFR} {t k : Nat} (h : TOK1 F t) (hk : k < tM F t) : 0 < unr F t k := Nat.mul_pos (by have := h.2.1; omega) (by have := (h.2.2.2.2 k hk).2.1; omega)
theorem sca_pos {F : TFR} {t : Nat} (h : TOK1 F t) : 0 < sca F t := scl_pos (fun j hj => unr_pos h hj)
theorem sca_le {F : TFR} {t : Nat} (h : TOK1 F t) : sca F t ≤ 1788279292800 := by
  have h1 := scl_dvd (F := F) (t := t) (k := tM F t) (fun j hj => (h.2.2.2.2 j hj).2.1)
  have h2 : lcn (tW F t) (inl F t (tM F t)) 48 ≤ 111767455800 := lcn_le h.2.2.1 (Nat.le_trans (smn_inl _) h.2.2.2.1)
  have h3 : 0 < tL F t := by have := h.2.1; omega
  have h4 : sca F t ≤ tL F t * lcn (tW F t) (inl F t (tM F t)) 48 := Nat.le_of_dvd (Nat.mul_pos h3 (lcn_pos _)) h1
  have h5 := Nat.mul_le_mul h.2.1.2.2 h2
  omega
theorem Ppf_b {F : TFR} : ∀ {T : Nat}, (∀ t, t < T → TOK1 F t) → 0 < Ppf F T ∧ Ppf F T ≤ 1788279292800 ^ T
  | 0, _ => ⟨by show 0 < 1; decide, by show 1 ≤ _; exact Nat.le_refl _⟩
  | T + 1, h => by
    have ih := Ppf_b (F := F) (T := T) (fun t ht => h t (by omega))
    exact ⟨Nat.mul_pos ih.1 (sca_pos (h T (by omega))), Nat.mul_le_mul ih.2 (sca_le (h T (by omega)))⟩
/-- the greatest product of scales, and the greatest number over it -/
def PBc : Nat := 1788279292800 ^ 16
def XBc : Nat := 1000 * 2 ^ 16 * PBc
theorem lvf_b {F : TFR} {t k : Nat} (h : TOK1 F t) (hk : k < tM F t) (hl : tA F 0 (31 * t + k) = -1) : (lvf F t k).natAbs ≤ 1000 * 2 ^ t * (Ppf F t * sca F t) := by
  have hv := nat_eq (lvf_v hk hl)
  have hu := unr_pos h hk
  obtain ⟨_, h1, h2, _⟩ := h.2.2.2.2 k hk
  have hr := h.2.1
  apply Nat.le_of_mul_le_mul_right (c := unr F t k) _ hu
  rw [hv]
  have a1 : (tS F t k).natAbs * (tU F t * sca F t) ≤ nR F t k * (1000 * 2 ^ t * Ppf F t) * (tL F t * sca F t) := Nat.mul_le_mul h2 (Nat.mul_le_mul_right _ hr.2.1)
  have a2 : nR F t k * (1000 * 2 ^ t * Ppf F t) * (tL F t * sca F t) = (1000 * 2 ^ t * (Ppf F t * sca F t)) * (tL F t * nR F t k) := by ac_rfl
  rw [a2] at a1
  exact Nat.le_trans a1 (Nat.mul_le_mul_left _ (Nat.mul_le_mul_left _ (by omega)))
theorem xF_b {F : TFR} {vq : Nat → Int32} {x0 : Int} (hx : x0.natAbs ≤ 1000) : ∀ {T : Nat}, (∀ t, t < T → TOK1 F t) → (xF F vq x0 T).natAbs ≤ 1000 * 2 ^ T * Ppf F T
  | 0, _ => by show x0.natAbs ≤ 1000 * 1 * 1; omega
  | T + 1, h => by
    have ih := xF_b (F := F) (vq := vq) hx (T := T) (fun t ht => h t (by omega))
    have hT := h T (by omega)
    obtain ⟨l1, l2⟩ := lfF_ok hT vq
    have hl := lvf_b hT l1 l2
    show (xF F vq x0 T * (sca F T : Int) - lvf F T (lfF (tA F) vq T)).natAbs ≤ 1000 * 2 ^ (T + 1) * (Ppf F T * sca F T)
    have a1 : (xF F vq x0 T * (sca F T : Int)).natAbs ≤ 1000 * 2 ^ T * (Ppf F T * sca F T) := by
      rw [Int.natAbs_mul, Int.natAbs_natCast, ← Nat.mul_assoc]
      exact Nat.mul_le_mul_right _ ih
    have a2 : 1000 * 2 ^ (T + 1) * (Ppf F T * sca F T) = 1000 * 2 ^ T * (Ppf F T * sca F T) + 1000 * 2 ^ T * (Ppf F T * sca F T) := by
      rw [Nat.pow_succ, ← Nat.add_mul]; congr 1; omega
    rw [a2]
    generalize 1000 * 2 ^ T * (Ppf F T * sca F T) = Z at a1 hl ⊢
    omega
theorem Ppf_16 {F : TFR} {T t : Nat} (h : TOK F T) (hT : T ≤ 16) (ht : t ≤ T) : 0 < Ppf F t ∧ Ppf F t ≤ PBc := by
  have h1 := Ppf_b (F := F) (T := t) (fun u hu => h.2 u (by omega))
  exact ⟨h1.1, Nat.le_trans h1.2 (Nat.pow_le_pow_right (by decide) (by omega))⟩
theorem xb_m {t P : Nat} (ht : t ≤ 16) (hP : P ≤ PBc) : 1000 * 2 ^ t * P ≤ XBc := Nat.mul_le_mul (Nat.mul_le_mul_left _ (Nat.pow_le_pow_right (by decide) ht)) hP
theorem chn_tok {F : TFR} {T : Nat} (h : TOK F T) (hT : T ≤ 16) (vq : Nat → Int32) {x0 : Int} (hx : x0.natAbs ≤ 1000) : CHN (Ppf F) (sca F) (xF F vq x0) (fun t => lvf F t (lfF (tA F) vq t)) true T PBc XBc := by
  refine ⟨rfl, fun t ht => ⟨rfl, (if_pos rfl).symm, ?_⟩, fun t ht => ?_⟩
  · obtain ⟨l1, l2⟩ := lfF_ok (h.2 t ht) vq
    exact Nat.le_trans (lvf_b (h.2 t ht) l1 l2) (xb_m (by omega) (Ppf_16 (t := t + 1) h hT (by omega)).2)
  · have h1 := Ppf_16 h hT ht
    exact ⟨h1.1, h1.2, Nat.le_trans (xF_b hx (fun u hu => h.2 u (by omega))) (xb_m (by omega) h1.2)⟩
/-- the question: added, not taken away -/
theorem chn_tokQ {F : TFR} {T : Nat} (h : TOK F T) (hT : T ≤ 16) (vq : Nat → Int32) : CHN (Ppf F) (sca F) (fun t => -(xF F vq 0 t)) (fun t => lvf F t (lfF (tA F) vq t)) false T PBc XBc := by
  obtain ⟨h1, h2, h3⟩ := chn_tok h hT vq (x0 := 0) (by decide)
  refine ⟨h1, fun t ht => ⟨(h2 t ht).1, ?_, (h2 t ht).2.2⟩, fun t ht => ⟨(h3 t ht).1, (h3 t ht).2.1, by rw [Int.natAbs_neg]; exact (h3 t ht).2.2⟩⟩
  rw [if_neg (by decide)]
  show -(xF F vq 0 t * (sca F t : Int) - lvf F t (lfF (tA F) vq t)) = -(xF F vq 0 t) * (sca F t : Int) + lvf F t (lfF (tA F) vq t)
  rw [Int.neg_mul]; omega
/-! Trees before the newest stay as they are. -/
def FEQ (F F' : TFR) (T : Nat) : Prop := (∀ t, t < T → tM F' t = tM F t ∧ tS F' t = tS F t ∧ tW F' t = tW F t ∧ tU F' t = tU F t ∧ tL F' t = tL F t) ∧ OLD8 (tA F') (tA F) (31 * T)
theorem nR_eq {F F' : TFR} {T t k : Nat} (h : FEQ F F' T) (ht : t < T) (hk : k < 31) : nR F' t k = nR F t k := dg_cg (h.2 (31 * t + k) (by omega)).2.2.2.2.2.1
theorem unr_eq {F F' : TFR} {T t k : Nat} (h : FEQ F F' T) (ht : t < T) (hk : k < 31) : unr F' t k = unr F t k := by
  unfold unr; rw [nR_eq h ht hk, (h.1 t ht).2.2.1, (h.1 t ht).2.2.2.2]
theorem scl_eq {F F' : TFR} {T t : Nat} (h : FEQ F F' T) (ht : t < T) : ∀ k, k ≤ 31 → scl F' t k = scl F t k
  | 0, _ => rfl
  | k + 1, hk => by
    show (if tA F' 0 (31 * t + k) = -1 then Nat.lcm (scl F' t k) (ndd F' t k) else scl F' t k) = (if tA F 0 (31 * t + k) = -1 then Nat.lcm (scl F t k) (ndd F t k) else scl F t k)
    have e : ndd F' t k = ndd F t k := by unfold ndd; rw [unr_eq h ht (by omega), (h.1 t ht).2.1, (h.1 t ht).2.2.2.1]
    rw [(h.2 (31 * t + k) (by omega)).1, scl_eq h ht k (by omega), e]
theorem sca_eq {F F' : TFR} {T t : Nat} (h : FEQ F F' T) (ht : t < T) (hm : tM F t ≤ 31) : sca F' t = sca F t := by
  unfold sca; rw [(h.1 t ht).1]; exact scl_eq h ht _ hm
theorem Ppf_eq {F F' : TFR} {T : Nat} (h : FEQ F F' T) (hm : ∀ t, t < T → tM F t ≤ 31) : ∀ t, t ≤ T → Ppf F' t = Ppf F t
  | 0, _ => rfl
  | t + 1, ht => by
    show Ppf F' t * sca F' t = Ppf F t * sca F t
    rw [Ppf_eq h hm t (by omega), sca_eq h (by omega) (hm t (by omega))]
theorem lvf_eq {F F' : TFR} {T t k : Nat} (h : FEQ F F' T) (ht : t < T) (hm : tM F t ≤ 31) (hk : k < 31) : lvf F' t k = lvf F t k := by
  unfold lvf; rw [sca_eq h ht hm, unr_eq h ht hk, (h.1 t ht).2.1, (h.1 t ht).2.2.2.1]
theorem lfs_eq {F F' : TFR} {T t : Nat} (h : FEQ F F' T) (ht : t < T) : ∀ k, k ≤ 31 → lfs F' t k = lfs F t k
  | 0, _ => rfl
  | k + 1, hk => by
    show lfs F' t k + (if tA F' 0 (31 * t + k) = -1 then nR F' t k else 0) = lfs F t k + if tA F 0 (31 * t + k) = -1 then nR F t k else 0
    rw [(h.2 (31 * t + k) (by omega)).1, lfs_eq h ht k (by omega), nR_eq h ht (by omega)]
theorem twf_cg {nc nl nr nc' nl' nr' : Nat → Int32} {dp dp' : Nat → Nat} {b n : Nat} (h : TWF nc nl nr dp b n) (he : ∀ k, k < 31 → nc' (b + k) = nc (b + k) ∧ nl' (b + k) = nl (b + k) ∧ nr' (b + k) = nr (b + k) ∧ dp' k = dp k) : TWF nc' nl' nr' dp' b n := by
  obtain ⟨h1, h2, h3, h4⟩ := h
  refine ⟨h1, h2, by rw [(he 0 (by omega)).2.2.2]; exact h3, fun k hk => ?_⟩
  obtain ⟨e1, e2, e3, e4⟩ := he k (by omega)
  have d2 : dg nl' (b + k) = dg nl (b + k) := dg_cg e2
  have d3 : dg nr' (b + k) = dg nr (b + k) := dg_cg e3
  rw [e1, e2, e3, e4, d2, d3]
  refine ⟨(h4 k hk).1, (h4 k hk).2.imp id (fun ⟨q1, q2, q3, q4, q5, q6, q7, q8⟩ => ⟨q1, q2, q3, q4, q5, q6, ?_, ?_⟩)⟩
  · rw [(he _ (by omega)).2.2.2]; exact q7
  · rw [(he _ (by omega)).2.2.2]; exact q8
theorem lfw_cg {nc nl nr nc' nl' nr' : Nat → Int32} {dp : Nat → Nat} {go go' : Nat → Bool} {b n : Nat} (h : TWF nc nl nr dp b n) (he : ∀ k, k < 31 → nc' (b + k) = nc (b + k) ∧ nl' (b + k) = nl (b + k) ∧ nr' (b + k) = nr (b + k) ∧ go' k = go k) : ∀ f k, k < n → lfw nc' nl' nr' go' b f k = lfw nc nl nr go b f k
  | 0, _, _ => rfl
  | f + 1, k, hk => by
    obtain ⟨e1, e2, e3, e4⟩ := he k (by have := h.2.1; omega)
    have d2 : dg nl' (b + k) = dg nl (b + k) := dg_cg e2
    have d3 : dg nr' (b + k) = dg nr (b + k) := dg_cg e3
    by_cases q : nc (b + k) < 0
    · rw [lfw_leaf q, lfw_leaf (by rw [e1]; exact q)]
    · rw [lfw_s q, lfw_s (by rw [e1]; exact q), d2, d3, e4]
      obtain ⟨_, _, _, _, q4, q5, _⟩ := tw_in h hk q
      split
      · exact lfw_cg h he f _ q4
      · exact lfw_cg h he f _ q5
theorem lfF_eq {F F' : TFR} {T t : Nat} (h : FEQ F F' T) (ht : t < T) (h1 : TOK1 F t) (vq : Nat → Int32) : lfF (tA F') vq t = lfF (tA F) vq t := by
  refine lfw_cg h1.1 (fun k hk => ?_) 4 0 h1.1.1
  obtain ⟨a0, a1, a2, a3, a4, a5, a6, a7⟩ := h.2 (31 * t + k) (by omega)
  exact ⟨a0, a3, a4, by unfold goF; rw [a0, a1, a2, a7]⟩
theorem xF_eq {F F' : TFR} {T : Nat} (h : FEQ F F' T) (hk : ∀ t, t < T → TOK1 F t) (vq : Nat → Int32) (x0 : Int) : ∀ t, t ≤ T → xF F' vq x0 t = xF F vq x0 t
  | 0, _ => rfl
  | t + 1, ht => by
    have h1 := hk t (by omega)
    show xF F' vq x0 t * (sca F' t : Int) - lvf F' t (lfF (tA F') vq t) = xF F vq x0 t * (sca F t : Int) - lvf F t (lfF (tA F) vq t)
    rw [xF_eq h hk vq x0 t (by omega), sca_eq h (by omega) h1.1.2.1, lfF_eq h (by omega) h1 vq, lvf_eq h (by omega) h1.1.2.1 (by have := (lfF_ok h1 vq).1; have := h1.1.2.1; omega)]
theorem tok1_eq {F F' : TFR} {T t : Nat} (h : FEQ F F' T) (ht : t < T) (hk : ∀ t, t < T → TOK1 F t) : TOK1 F' t := by
  obtain ⟨h1, h2, h3, h4, h5⟩ := hk t ht
  have hm := h1.2.1
  have P := Ppf_eq h (fun t ht => (hk t ht).1.2.1) t (by omega)
  obtain ⟨m1, m2, m3, m4, m5⟩ := h.1 t ht
  unfold TOK1
  rw [m1, m3, m4, m5, m2, P]
  refine ⟨twf_cg h1 (fun k hk => ?_), h2, h3, by rw [lfs_eq h ht _ hm]; exact h4, fun k hk => ?_⟩
  · obtain ⟨a0, a1, a2, a3, a4, a5, a6, a7⟩ := h.2 (31 * t + k) (by omega)
    exact ⟨a0, a3, a4, dg_cg a6⟩
  · obtain ⟨a0, a1, a2, a3, a4, a5, a6, a7⟩ := h.2 (31 * t + k) (by omega)
    have d3 : dg (tA F' 3) (31 * t + k) = dg (tA F 3) (31 * t + k) := dg_cg a3
    have d4 : dg (tA F' 4) (31 * t + k) = dg (tA F 4) (31 * t + k) := dg_cg a4
    have d6 : dg (tA F' 6) (31 * t + k) = dg (tA F 6) (31 * t + k) := dg_cg a6
    rw [a0, a5, a6, d3, d4, d6, nR_eq h ht (by omega)]
    obtain ⟨q1, q2, q3, q4⟩ := h5 k hk
    refine ⟨q1, q2, q3, ?_⟩
    rcases (h1.2.2.2 k hk).2 with r | ⟨_, _, _, _, r4, r5, _⟩
    · exact Or.inl r
    · rw [nR_eq h ht (by omega), nR_eq h ht (by omega)]; exact q4
theorem tok_eq {F F' : TFR} {T : Nat} (h : FEQ F F' T) (hk : ∀ t, t < T → TOK1 F t) : ∀ t, t < T → TOK1 F' t := fun _ ht => tok1_eq h ht hk
/-! One round of training: the new tree. -/
theorem giv_ind {best : Int64 → BST} {ik : Nat → Int32} {b0 dpt : Nat} {AA : Int64} (hb0 : b0 + 31 < 2 ^ 30) (hd4 : dpt ≤ 4) (hv0 : vp_nar .boolean 0 = 0) (hv1 : vp_nar .boolean 1 = 1) (hB : HBS best AA) (I : (Nat → Nat → Int32) → Prop)
    (hI : ∀ a m rs x d ab lf st, GIV best b0 dpt AA a m rs ((x, d, ab, lf) :: st) → m < 31 → I a → I (gst best ik b0 dpt (a, m, rs) (x, d, ab, lf)).1.1) : ∀ f a m rs st, GIV best b0 dpt AA a m rs st → m + gws dpt st ≤ 31 → I a → I (gall best ik b0 dpt f (a, m, rs) st).1
  | 0, a, m, rs, _, h, _, hi => hi
  | f + 1, a, m, rs, [], h, hm, hi => hi
  | f + 1, a, m, rs, (x, d, ab, lf) :: st, h, hm, hi => by
    have h1 : d ≤ dpt := (h.2.1 _ (List.mem_cons_self ..)).1
    have hw := gst_w (best := best) (ik := ik) (b0 := b0) (a := a) (m := m) (rs := rs) (x := x) (ab := ab) (lf := lf) (st := st) h1
    have hs := giv_s (ik := ik) (by omega) hd4 hv0 hv1 hB h
    have hg := gst_m (best := best) (ik := ik) (b0 := b0) (dpt := dpt) (a := a) (m := m) (rs := rs) (it := (x, d, ab, lf))
    have ih := giv_ind (ik := ik) hb0 hd4 hv0 hv1 hB I hI f (gst best ik b0 dpt (a, m, rs) (x, d, ab, lf)).1.1 (m + 1) (va_up rs m x) ((gst best ik b0 dpt (a, m, rs) (x, d, ab, lf)).2 ++ st) hs (by omega) (hI a m rs x d ab lf st h (by omega) hi)
    have e : (gst best ik b0 dpt (a, m, rs) (x, d, ab, lf)).1 = ((gst best ik b0 dpt (a, m, rs) (x, d, ab, lf)).1.1, m + 1, va_up rs m x) := Prod.ext rfl hg
    show I (gall best ik b0 dpt f (gst best ik b0 dpt (a, m, rs) (x, d, ab, lf)).1 _).1
    rw [e]
    exact ih
theorem gst_old {best : Int64 → BST} {ik : Nat → Int32} {b0 dpt : Nat} {AA : Int64} {a a0 : Nat → Nat → Int32} {m : Nat} {rs : Nat → Int64} {x : Int64} {d : Nat} {ab lf : Int32} {st : List ITM} (hb0 : b0 + 31 < 2 ^ 30) (hm : m < 31) (h : GIV best b0 dpt AA a m rs ((x, d, ab, lf) :: st)) (ho : OLD8 a a0 b0) : OLD8 (gst best ik b0 dpt (a, m, rs) (x, d, ab, lf)).1.1 a0 b0 := by
  intro j hj
  obtain ⟨o0, o1, o2, o3, o4, o5, o6, o7⟩ := ho j hj
  obtain ⟨p0, p1, p2, p5, p6, p7⟩ := gPar_0 (a := a) (m := m) (ab := ab) (lf := lf)
  have it0 := (h.2.1 _ (List.mem_cons_self ..)).2.2.2
  have hne : ¬ ab < 0 → ¬ j = ab.toNatClampNeg := fun q r => by
    rcases it0 with s | ⟨k, s1, s2, _⟩
    · exact q s
    · have s2 : ab = nI (b0 + k) := s2
      rw [s2, nI_clamp (by omega)] at r
      omega
  have p3 : gPar a m ab lf 3 j = a 3 j := by rw [gPar_3, if_neg (fun q => hne q.1 q.2.2)]
  have p4 : gPar a m ab lf 4 j = a 4 j := by rw [gPar_4, if_neg (fun q => hne q.1 q.2.2)]
  have hjn : j ≠ b0 + m := by omega
  by_cases q : d = dpt ∨ (best x).1 ≤ 0
  · rw [gst_l q]
    exact ⟨(pk_un hjn).trans (by rw [p0]; exact o0), (pk_un hjn).trans (by rw [p1]; exact o1), (pk_un hjn).trans (by rw [p2]; exact o2), (pk_un hjn).trans (by rw [p3]; exact o3), (pk_un hjn).trans (by rw [p4]; exact o4), (pk_un hjn).trans (by rw [p5]; exact o5), (pk_un hjn).trans (by rw [p6]; exact o6), (pk_un hjn).trans (by rw [p7]; exact o7)⟩
  · rw [gst_s q]
    exact ⟨(pk_un hjn).trans ((pk_un hjn).trans (by rw [p0]; exact o0)), (pk_un hjn).trans ((pk_un hjn).trans (by rw [p1]; exact o1)), (pk_un hjn).trans ((pk_un hjn).trans (by rw [p2]; exact o2)), (pk_un hjn).trans (by rw [p3]; exact o3), (pk_un hjn).trans (by rw [p4]; exact o4), (pk_un hjn).trans (by rw [p5]; exact o5), (pk_un hjn).trans (by rw [p6]; exact o6), (pk_un hjn).trans ((pk_un hjn).trans (by rw [p7]; exact o7))⟩
theorem gst_2 {best : Int64 → BST} {ik : Nat → Int32} {b0 dpt : Nat} {a : Nat → Nat → Int32} {m : Nat} {rs : Nat → Int64} {it : ITM} (hv : ∀ x, vp_nar .boolean x = 0 ∨ vp_nar .boolean x = 1) (ho : ∀ q, q < 496 → a 2 q = 0 ∨ a 2 q = 1) : ∀ q, q < 496 → (gst best ik b0 dpt (a, m, rs) it).1.1 2 q = 0 ∨ (gst best ik b0 dpt (a, m, rs) it).1.1 2 q = 1 := by
  intro j hj
  obtain ⟨x, d, ab, lf⟩ := it
  obtain ⟨p0, p1, p2, p5, p6, p7⟩ := gPar_0 (a := a) (m := m) (ab := ab) (lf := lf)
  have u : ∀ (g : Nat → Int32) k v, (g j = 0 ∨ g j = 1) → (v = 0 ∨ v = 1) → (upd g k v j = 0 ∨ upd g k v j = 1) := fun g k v h1 h2 => by
    by_cases e : j = k
    · subst e; rw [pk_us]; exact h2
    · rw [pk_un e]; exact h1
  by_cases q : d = dpt ∨ (best x).1 ≤ 0
  · rw [gst_l q]
    exact u _ _ _ (by rw [p2]; exact ho j hj) (hv 0)
  · rw [gst_s q]
    exact u _ _ _ (u _ _ _ (by rw [p2]; exact ho j hj) (hv 0)) (hv _)
theorem giv_0 {best : Int64 → BST} {b0 dpt : Nat} {AA : Int64} {a : Nat → Nat → Int32} {rs : Nat → Int64} {lf : Int32} (hA : 0 < cb AA) : GIV best b0 dpt AA a 0 rs [(AA, 0, -1, lf)] :=
  ⟨fun k hk => absurd hk (by omega), fun it hi => by
    rcases List.mem_cons.mp hi with e | e
    · subst e; exact ⟨Nat.zero_le _, hA, fun _ h => h, Or.inl (by show (-1 : Int32) < 0; decide)⟩
    · exact absurd e (List.not_mem_nil), by show 0 + (cb AA + 0) = cb AA; omega, Or.inl ⟨rfl, _, _, rfl⟩⟩
theorem gws_0 {dpt : Nat} {AA : Int64} {lf : Int32} (hd : dpt ≤ 4) : gws dpt [(AA, 0, -1, lf)] ≤ 31 := by
  show (2 ^ (dpt - 0 + 1) - 1) + 0 ≤ 31
  have := Nat.pow_le_pow_right (show 0 < 2 by decide) (show dpt - 0 + 1 ≤ 5 by omega)
  omega
theorem hbs_col {RR : Nat → Int} {n w lst wd : Nat} {vv eg ik : Nat → Int32} {ne : Nat → Nat} {chb : Int32} {AA : Int64} (hn : n ≤ 48) (hw : w ≤ 20) (hl : 1 ≤ lst) (hwd : wd ≤ 6) (hA : SUBn AA n) : HBS (fun x => colF RR n w lst vv eg ik ne chb x wd) AA := by
  intro x hx h0 hg
  have hg : ¬ (colF RR n w lst vv eg ik ne chb x wd).1 ≤ 0 := hg
  have hs : SUBn x n := fun r hr => hA r (hx r hr)
  have h1 := colF_ok (zr := RR) (w := w) (lst := lst) (vv := vv) (eg := eg) (ik := ik) (ne := ne) (chb := chb) hn hw hl hs wd hwd
  obtain ⟨f1, f2, f3, f4, f5⟩ := colF_sd (zr := RR) (n := n) (w := w) (lst := lst) (vv := vv) (eg := eg) (ik := ik) (ne := ne) (chb := chb) (A := x) hl wd (by omega)
  exact ⟨(h1.2 (by omega)).1, f1, f2, f3⟩
theorem cbn_mono (x : Int64) {k : Nat} : ∀ j, cbn x k ≤ cbn x (k + j)
  | 0 => Nat.le_refl _
  | j + 1 => Nat.le_trans (cbn_mono x j) (Nat.le_add_right _ _)
theorem smv_cb {RR : Nat → Int} {x : Int64} {n B : Nat} (h : ∀ i, i < n → (RR i).natAbs ≤ B) : ∀ k, k ≤ n → (smv RR x k).natAbs ≤ cbn x k * B
  | 0, _ => by show (0 : Int).natAbs ≤ 0 * B; omega
  | k + 1, hk => by
    have ih := smv_cb (x := x) h k (by omega)
    have h1 := h k (by omega)
    show (smv RR x k + _).natAbs ≤ (cbn x k + _) * B
    rw [Nat.add_mul]
    split
    · rw [Nat.one_mul]; omega
    · rw [Nat.zero_mul]; omega
theorem smv_add {RR : Nat → Int} {A S : Int64} (h : WIN S A) : ∀ k, k ≤ 64 → smv RR S k + smv RR (A &&& (S ^^^ (-1))) k = smv RR A k
  | 0, _ => rfl
  | k + 1, hk => by
    have ih := smv_add (RR := RR) h k (by omega)
    show smv RR S k + _ + (smv RR (A &&& (S ^^^ (-1))) k + _) = smv RR A k + _
    have e : bx (A &&& (S ^^^ (-1))) k = (bx A k && !bx S k) := by rw [bx_and, bx_not S (by omega)]
    rw [e]
    generalize smv RR (A &&& (S ^^^ (-1))) k = u1 at ih ⊢
    generalize smv RR S k = u2 at ih ⊢
    generalize smv RR A k = u3 at ih ⊢
    cases hs : bx S k
    · cases ha : bx A k
      · simp; omega
      · simp; omega
    · rw [h k hs]; simp; omega
/-- the trees with one more -/
def trn (F : TFR) (T : Nat) (g : GST) (RR : Nat → Int) (n w ru rl : Nat) : TFR := (g.1, va_up (tM F) T g.2.1, va_up (tS F) T (fun k => smv RR (g.2.2 k) n), va_up (tW F) T w, va_up (tU F) T ru, va_up (tL F) T rl)
theorem trn_feq {F : TFR} {T : Nat} {g : GST} {RR : Nat → Int} {n w ru rl : Nat} (h : OLD8 g.1 (tA F) (31 * T)) : FEQ F (trn F T g RR n w ru rl) T :=
  ⟨fun t ht => ⟨va_up_ne _ _ (by omega), va_up_ne _ _ (by omega), va_up_ne _ _ (by omega), va_up_ne _ _ (by omega), va_up_ne _ _ (by omega)⟩, h⟩
theorem lfs_lsm {F : TFR} {t : Nat} {rs : Nat → Int64} : ∀ {m : Nat}, (∀ k, k < m → nR F t k = cb (rs k)) → lfs F t m = lsm (tA F 0) rs (31 * t) m
  | 0, _ => rfl
  | m + 1, h => by
    show lfs F t m + _ = lsm (tA F 0) rs (31 * t) m + _
    rw [lfs_lsm (fun k hk => h k (by omega)), h m (by omega)]
theorem nR_trn {F : TFR} {T : Nat} {a : Nat → Nat → Int32} {m : Nat} {rs : Nat → Int64} {RR : Nat → Int} {n w ru rl k : Nat} (h : a 5 (31 * T + k) = nI (cb (rs k))) : nR (trn F T (a, m, rs) RR n w ru rl) T k = cb (rs k) := by
  show (a 5 (31 * T + k)).toNatClampNeg = _
  rw [h]
  exact nI_clamp (by have := cbn_le (rs k) 64; show cbn (rs k) 64 < _; omega)
theorem tok_new {F : TFR} {T : Nat} {best : Int64 → BST} {dpt : Nat} {AA : Int64} {a : Nat → Nat → Int32} {m : Nat} {rs : Nat → Int64} {RR : Nat → Int} {n w ru rl : Nat} (hk : ∀ t, t < T → TOK1 F t) (hT : T < 16) (hd4 : dpt ≤ 4) (hn : n ≤ 48) (hA : SUBn AA n) (hw : w ≤ 20) (hr : 0 < ru ∧ ru ≤ rl ∧ rl ≤ 16) (hRR : ∀ i, i < n → (RR i).natAbs ≤ 1000 * 2 ^ T * Ppf F T) (hm : m ≤ 31) (hO : OLD8 a (tA F) (31 * T)) (h : GIV best (31 * T) dpt AA a m rs []) : TOK1 (trn F T (a, m, rs) RR n w ru rl) T := by
  obtain ⟨g1, g2, g3, g4⟩ := h
  have hF := trn_feq (RR := RR) (n := n) (w := w) (ru := ru) (rl := rl) (g := (a, m, rs)) hO
  have hP : Ppf (trn F T (a, m, rs) RR n w ru rl) T = Ppf F T := Ppf_eq hF (fun t ht => (hk t ht).1.2.1) T (Nat.le_refl _)
  have e1 : tM (trn F T (a, m, rs) RR n w ru rl) T = m := va_up_self _ _ _
  have e2 : tS (trn F T (a, m, rs) RR n w ru rl) T = fun k => smv RR (rs k) n := va_up_self _ _ _
  have e3 : tW (trn F T (a, m, rs) RR n w ru rl) T = w := va_up_self _ _ _
  have e4 : tU (trn F T (a, m, rs) RR n w ru rl) T = ru := va_up_self _ _ _
  have e5 : tL (trn F T (a, m, rs) RR n w ru rl) T = rl := va_up_self _ _ _
  have hnR : ∀ k, k < m → nR (trn F T (a, m, rs) RR n w ru rl) T k = cb (rs k) := fun k hk => nR_trn (g1 k hk).2.2.1
  have hcb : ∀ k, k < m → cb (rs k) ≤ 48 := fun k hk => cb_n (fun r hr => hA r ((g1 k hk).2.2.2.2.1 r hr)) hn
  have g4' : 0 < m ∧ a 6 (31 * T) = nI 0 ∧ rs 0 = AA := by
    rcases g4 with ⟨_, _, _, e⟩ | q
    · exact absurd e (by simp)
    · exact q
  -- the sides
  have sides : ∀ k, k < m → ¬ a 0 (31 * T + k) = -1 → (∃ c, c < 6 ∧ a 0 (31 * T + k) = nI c) ∧ dg (a 6) (31 * T + k) < dpt ∧ (a 3 (31 * T + k) = nI (dg (a 3) (31 * T + k)) ∧ dg (a 3) (31 * T + k) < m ∧ dg (a 6) (31 * T + dg (a 3) (31 * T + k)) = dg (a 6) (31 * T + k) + 1 ∧ rs (dg (a 3) (31 * T + k)) = bsd best (rs k)) ∧ (a 4 (31 * T + k) = nI (dg (a 4) (31 * T + k)) ∧ dg (a 4) (31 * T + k) < m ∧ dg (a 6) (31 * T + dg (a 4) (31 * T + k)) = dg (a 6) (31 * T + k) + 1 ∧ rs (dg (a 4) (31 * T + k)) = rs k &&& (bsd best (rs k) ^^^ (-1))) ∧ WIN (bsd best (rs k)) (rs k) := by
    intro k hk hl
    obtain ⟨n1, n2, n3, n4, n5, n6⟩ := g1 k hk
    rcases n6 with q | ⟨c1, c2, _, c3, c4, c5⟩
    · exact absurd q hl
    · rcases c4 with ⟨l, l1, l2, l3, l4⟩ | ⟨it, i1, _⟩
      · rcases c5 with ⟨r, r1, r2, r3, r4⟩ | ⟨it, i1, _⟩
        · have dl : dg (a 3) (31 * T + k) = l := by show (a 3 (31 * T + k)).toNatClampNeg = l; rw [l2]; exact nI_clamp (by omega)
          have dr : dg (a 4) (31 * T + k) = r := by show (a 4 (31 * T + k)).toNatClampNeg = r; rw [r2]; exact nI_clamp (by omega)
          rw [dl, dr]
          exact ⟨c1, c2, ⟨l2, l1, l3, by rw [l4]; exact win_eq c3⟩, ⟨r2, r1, r3, r4⟩, c3⟩
        · exact absurd i1 (List.not_mem_nil)
      · exact absurd i1 (List.not_mem_nil)
  unfold TOK1
  rw [e1, e2, e3, e4, e5, hP]
  refine ⟨⟨g4'.1, hm, ?_, fun k hk => ⟨?_, ?_⟩⟩, hr, hw, ?_, fun k hk => ⟨⟨?_, ?_⟩, ⟨?_, ?_⟩, ?_, ?_⟩⟩
  · show (a 6 (31 * T + 0)).toNatClampNeg = 0
    rw [Nat.add_zero, g4'.2.1]; exact nI_clamp (by decide)
  · exact Nat.le_trans (g1 k hk).2.1 hd4
  · by_cases hl : a 0 (31 * T + k) = -1
    · exact Or.inl hl
    · obtain ⟨s1, s2, ⟨s3, s4, s5, _⟩, ⟨s6, s7, s8, _⟩, _⟩ := sides k hk hl
      exact Or.inr ⟨s1, by show dg (a 6) (31 * T + k) < 4; omega, s3, s6, s4, s7, s5, s8⟩
  · rw [lfs_lsm hnR]
    have g3 : lsm (a 0) rs (31 * T) m + 0 = cb AA := g3
    have := cb_n hA hn
    show lsm (a 0) rs (31 * T) m ≤ 48
    omega
  · rw [hnR k hk]; exact (g1 k hk).2.2.1
  · exact (g1 k hk).1
  · rw [hnR k hk]; exact (g1 k hk).2.2.2.1
  · rw [hnR k hk]; exact hcb k hk
  · rw [hnR k hk]
    have h1 := smv_cb (x := rs k) hRR n (Nat.le_refl _)
    have h2 := cbn_mono (rs k) (k := n) (64 - n)
    rw [show n + (64 - n) = 64 by omega] at h2
    exact Nat.le_trans h1 (Nat.mul_le_mul_right _ h2)
  · by_cases hl : a 0 (31 * T + k) = -1
    · exact Or.inl hl
    · obtain ⟨s1, s2, ⟨s3, s4, s5, s9⟩, ⟨s6, s7, s8, s10⟩, s11⟩ := sides k hk hl
      refine Or.inr ⟨?_, ?_⟩
      · show nR _ T k = nR _ T (dg (a 3) (31 * T + k)) + nR _ T (dg (a 4) (31 * T + k))
        rw [hnR k hk, hnR _ s4, hnR _ s7, s9, s10]
        exact (cb_add s11 64 (Nat.le_refl _)).symm
      · show smv RR (rs k) n = smv RR (rs (dg (a 3) (31 * T + k))) n + smv RR (rs (dg (a 4) (31 * T + k))) n
        rw [s9, s10]
        exact (smv_add s11 n (by omega)).symm
/-- one round: the tree that the search grows -/
def grw (F : TFR) (T : Nat) (RR : Nat → Int) (n w lst dpt wd : Nat) (vv eg ik : Nat → Int32) (ne : Nat → Nat) (chb : Int32) (AA : Int64) : GST := gall (fun x => colF RR n w lst vv eg ik ne chb x wd) ik (31 * T) dpt 32 (tA F, 0, fun _ => 0) [(AA, 0, -1, vp_nar .boolean 0)]
theorem tok_s {F : TFR} {T : Nat} {RR : Nat → Int} {n w lst dpt wd ru rl : Nat} {vv eg ik : Nat → Int32} {ne : Nat → Nat} {chb : Int32} {AA : Int64} (hv0 : vp_nar .boolean 0 = 0) (hv1 : vp_nar .boolean 1 = 1) (hv : ∀ x, vp_nar .boolean x = 0 ∨ vp_nar .boolean x = 1) (h : TOK F T) (hT : T < 16) (hd4 : dpt ≤ 4) (hn : n ≤ 48) (hA : SUBn AA n) (hA0 : 0 < cb AA) (hw : w ≤ 20) (hl : 1 ≤ lst) (hwd : wd ≤ 6) (hr : 0 < ru ∧ ru ≤ rl ∧ rl ≤ 16) (hRR : ∀ i, i < n → (RR i).natAbs ≤ 1000 * 2 ^ T * Ppf F T) :
    TOK (trn F T (grw F T RR n w lst dpt wd vv eg ik ne chb AA) RR n w ru rl) (T + 1) ∧ FEQ F (trn F T (grw F T RR n w lst dpt wd vv eg ik ne chb AA) RR n w ru rl) T ∧ GIV (fun x => colF RR n w lst vv eg ik ne chb x wd) (31 * T) dpt AA (grw F T RR n w lst dpt wd vv eg ik ne chb AA).1 (grw F T RR n w lst dpt wd vv eg ik ne chb AA).2.1 (grw F T RR n w lst dpt wd vv eg ik ne chb AA).2.2 [] := by
  have hB := hbs_col (RR := RR) (w := w) (lst := lst) (wd := wd) (vv := vv) (eg := eg) (ik := ik) (ne := ne) (chb := chb) hn hw hl hwd hA
  have g0 := giv_0 (best := fun x => colF RR n w lst vv eg ik ne chb x wd) (b0 := 31 * T) (dpt := dpt) (a := tA F) (rs := fun _ => 0) (lf := vp_nar .boolean 0) hA0
  have w0 := gws_0 (AA := AA) (lf := vp_nar .boolean 0) hd4
  obtain ⟨gv, gm⟩ := giv_all (ik := ik) (by omega) hd4 hv0 hv1 hB 32 _ _ _ _ g0 (by omega) (by omega)
  have ho : OLD8 (grw F T RR n w lst dpt wd vv eg ik ne chb AA).1 (tA F) (31 * T) := giv_ind (ik := ik) (by omega) hd4 hv0 hv1 hB (fun a => OLD8 a (tA F) (31 * T)) (fun a m rs x d ab lf st hg hm hi => gst_old (by omega) hm hg hi) 32 _ _ _ _ g0 (by omega) (fun _ _ => ⟨rfl, rfl, rfl, rfl, rfl, rfl, rfl, rfl⟩)
  have h2 : ∀ q, q < 496 → (grw F T RR n w lst dpt wd vv eg ik ne chb AA).1 2 q = 0 ∨ (grw F T RR n w lst dpt wd vv eg ik ne chb AA).1 2 q = 1 := giv_ind (ik := ik) (by omega) hd4 hv0 hv1 hB (fun a => ∀ q, q < 496 → a 2 q = 0 ∨ a 2 q = 1) (fun a m rs x d ab lf st hg hm hi => gst_2 hv hi) 32 _ _ _ _ g0 (by omega) h.1
  have hF := trn_feq (RR := RR) (n := n) (w := w) (ru := ru) (rl := rl) ho
  refine ⟨⟨h2, fun t ht => ?_⟩, hF, gv⟩
  rcases (show t < T ∨ t = T by omega) with q | q
  · exact tok1_eq hF q h.2
  · rw [q]
    exact tok_new h.2 hT hd4 hn hA hw hr hRR gm ho gv
/-! The reference's trees against the trees as both sides keep them. -/
theorem comm_P {u g : Nat → Int32} {n : Nat} {zr Rr : Nat → Int} {Pt : Nat} (h : COMM u g n zr Rr Pt) : dn g ∣ Pt := by
  suffices hs : ∀ k, k ≤ 19 → dnk (dg g) k ∣ Pt from hs 19 (Nat.le_refl _)
  intro k
  induction k with
  | zero => intro _; exact Nat.one_dvd _
  | succ k ih =>
    intro hk
    show dnk (dg g) k * pr k ^ dg g k ∣ Pt
    refine Nat.Coprime.mul_dvd_of_dvd_of_dvd (Nat.Coprime.pow_right _ (Nat.Coprime.symm (dnk_cop (by omega) k (Nat.le_refl _)))) (ih (by omega)) ?_
    rcases h.2 k (by omega) with q | ⟨i, hi, q⟩
    · rw [q, Nat.pow_zero]
      exact Nat.one_dvd _
    · have h2 : pr k ^ dg g k ∣ (zr i).natAbs * Pt := by
        rw [nat_eq (h.1 i hi).2]
        exact Nat.dvd_mul_left_of_dvd (dnk_dvd (by omega)) _
      exact Nat.Coprime.dvd_of_dvd_mul_left (Nat.Coprime.pow_left _ (pr_gcd (by omega) q)) h2
theorem comm_le {u g : Nat → Int32} {n : Nat} {zr Rr : Nat → Int} {Pt : Nat} (hP : 0 < Pt) (h : COMM u g n zr Rr Pt) : dn g ≤ Pt ∧ ∀ i, i < n → (zr i).natAbs ≤ (Rr i).natAbs := by
  have h1 := Nat.le_of_dvd hP (comm_P h)
  refine ⟨h1, fun i hi => ?_⟩
  have h2 := nat_eq (h.1 i hi).2
  refine Nat.le_of_mul_le_mul_right (c := Pt) ?_ hP
  rw [h2]
  exact Nat.mul_le_mul_left _ h1
theorem nf_bd {up lw : Nat → Int32} {B nd : Nat} {X : Int} {Dn : Nat} (h : NF up lw B nd X Dn) (h0 : 0 < Dn) (hD : Dn < 2 ^ 4096) : NF up lw 4096 nd X Dn := by
  obtain ⟨z, h1, h2, h3, h4⟩ := h
  refine ⟨z, h1, fun k hk => ⟨(h2 k hk).1, ?_⟩, h3, h4⟩
  have h5 := (red_le h0 h3 h4).2
  have h6 : pr k ^ dg (sh (19 * nd) lw) k ≤ dn (sh (19 * nd) lw) := Nat.le_of_dvd dn_pos (dnk_dvd hk)
  have h7 : 2 ^ dg (sh (19 * nd) lw) k ≤ pr k ^ dg (sh (19 * nd) lw) k := Nat.pow_le_pow_left (by have := (pr_b k hk).1; omega) _
  have h8 : 2 ^ dg (sh (19 * nd) lw) k < 2 ^ 4096 := Nat.lt_of_le_of_lt (Nat.le_trans h7 (Nat.le_trans h6 h5)) hD
  rcases Nat.lt_or_ge 4096 (dg (sh (19 * nd) lw) k) with q | q
  · exact absurd (Nat.pow_le_pow_right (show 0 < 2 by decide) (Nat.le_of_lt q)) (Nat.not_le.mpr h8)
  · exact q
/-- what a node tells: a leaf's value, or a split's gain -/
def nvX (F : TFR) (t k : Nat) : Int := if tA F 0 (31 * t + k) = -1 then tS F t k * (tU F t : Int) else gZ (tS F t (dg (tA F 3) (31 * t + k))) (tS F t (dg (tA F 4) (31 * t + k))) (nR F t (dg (tA F 3) (31 * t + k)) + tW F t) (nR F t (dg (tA F 4) (31 * t + k)) + tW F t) (nR F t (dg (tA F 3) (31 * t + k)) + nR F t (dg (tA F 4) (31 * t + k)) + tW F t)
def nvD (F : TFR) (t k : Nat) : Nat := if tA F 0 (31 * t + k) = -1 then Ppf F t * unr F t k else Ppf F t * Ppf F t * ((nR F t (dg (tA F 3) (31 * t + k)) + tW F t) * (nR F t (dg (tA F 4) (31 * t + k)) + tW F t) * (nR F t (dg (tA F 3) (31 * t + k)) + nR F t (dg (tA F 4) (31 * t + k)) + tW F t))
def RFN (F : TFR) (T : Nat) (up lw : Nat → Int32) : Prop := ∀ t, t < T → ∀ k, k < tM F t → NF up lw 4096 (31 * t + k) (nvX F t k) (nvD F t k)
theorem pbc_b : PBc * PBc * 314432 < 2 ^ 4096 ∧ PBc < 2 ^ 652 ∧ 0 < PBc := by decide +kernel
theorem nvD_b {F : TFR} {T t k : Nat} (h : TOK F T) (hT : T ≤ 16) (ht : t < T) (hk : k < tM F t) : 0 < nvD F t k ∧ nvD F t k < 2 ^ 4096 := by
  have hP := Ppf_16 h hT (Nat.le_of_lt ht)
  obtain ⟨h1, h2, h3, h4, h5⟩ := h.2 t ht
  have hb := pbc_b
  have e1 : PBc ≤ PBc * PBc := Nat.le_mul_of_pos_left _ hb.2.2
  have fin : ∀ A B : Nat, A ≤ PBc * PBc → B ≤ 314432 → A * B < 2 ^ 4096 := fun A B hA hB => Nat.lt_of_le_of_lt (Nat.mul_le_mul hA hB) hb.1
  unfold nvD
  by_cases q : tA F 0 (31 * t + k) = -1
  · rw [if_pos q]
    refine ⟨Nat.mul_pos hP.1 (unr_pos (h.2 t ht) hk), fin _ _ (Nat.le_trans hP.2 e1) ?_⟩
    have : tL F t * (nR F t k + tW F t) ≤ 16 * 68 := Nat.mul_le_mul h2.2.2 (by have := (h5 k hk).2.1; omega)
    show tL F t * (nR F t k + tW F t) ≤ 314432
    omega
  · rw [if_neg q]
    rcases (h1.2.2.2 k hk).2 with r | ⟨_, _, _, _, r4, r5, _⟩
    · exact absurd r q
    · have s4 := (h5 _ r4).2.1
      have s5 := (h5 _ r5).2.1
      have s6 := (h5 k hk).2.2.2.resolve_left q
      have s7 := (h5 k hk).2.1
      refine ⟨Nat.mul_pos (Nat.mul_pos hP.1 hP.1) (Nat.mul_pos (Nat.mul_pos (by omega) (by omega)) (by omega)), fin _ _ (Nat.mul_le_mul hP.2 hP.2) ?_⟩
      exact Nat.mul_le_mul (Nat.mul_le_mul (show _ ≤ 68 by omega) (show _ ≤ 68 by omega)) (show _ ≤ 68 by omega)
theorem nvD_leaf {F : TFR} {t k : Nat} (hl : tA F 0 (31 * t + k) = -1) : nvX F t k = tS F t k * (tU F t : Int) ∧ nvD F t k = Ppf F t * unr F t k := ⟨if_pos hl, if_pos hl⟩
/-- a leaf's fraction is its value over the product of scales -/
theorem rfn_lf {F : TFR} {T : Nat} {up lw : Nat → Int32} (h : TOK F T) (hT : T ≤ 16) (hR : RFN F T up lw) {t k : Nat} (ht : t < T) (hk : k < tM F t) (hl : tA F 0 (31 * t + k) = -1) : NF up lw 4096 (31 * t + k) (lvf F t k) (Ppf F (t + 1)) := by
  refine nf_eq (nvD_b h hT ht hk).1 (hR t ht k hk) ?_
  rw [(nvD_leaf hl).1, (nvD_leaf hl).2]
  have hv := lvf_v hk hl
  show tS F t k * (tU F t : Int) * ((Ppf F t * sca F t : Nat) : Int) = lvf F t k * ((Ppf F t * unr F t k : Nat) : Int)
  rw [Int.natCast_mul, Int.natCast_mul]
  rw [Int.natCast_mul] at hv
  rw [show lvf F t k * ((Ppf F t : Int) * (unr F t k : Int)) = lvf F t k * (unr F t k : Int) * (Ppf F t : Int) by ac_rfl, hv]
  ac_rfl
abbrev rwf (vv : Nat → Int32) (i : Nat) : Nat → Int32 := fun c => vv (6 * i + c)
theorem rfn_go {a : Nat → Nat → Int32} {vq : Nat → Int32} {t k c : Nat} (hc : c < 6) (h : a 0 (31 * t + k) = nI c) : goF a vq t k = goB (a 2 (31 * t + k)) (a 7 (31 * t + k)) (a 1 (31 * t + k)) (vq c) := by
  unfold goF
  rw [h, nI_clamp (by omega)]
theorem nv_eq {F F' : TFR} {T t k : Nat} (h : FEQ F F' T) (ht : t < T) (hk : ∀ t, t < T → TOK1 F t) (hkm : k < tM F t) : nvX F' t k = nvX F t k ∧ nvD F' t k = nvD F t k := by
  obtain ⟨h1, _⟩ := hk t ht
  have hm := h1.2.1
  obtain ⟨a0, a1, a2, a3, a4, a5, a6, a7⟩ := h.2 (31 * t + k) (by omega)
  have d3 : dg (tA F' 3) (31 * t + k) = dg (tA F 3) (31 * t + k) := dg_cg a3
  have d4 : dg (tA F' 4) (31 * t + k) = dg (tA F 4) (31 * t + k) := dg_cg a4
  obtain ⟨m1, m2, m3, m4, m5⟩ := h.1 t ht
  have P := Ppf_eq h (fun t ht => (hk t ht).1.2.1) t (by omega)
  unfold nvX nvD
  rw [a0, d3, d4, m2, m3, m4, P, unr_eq h ht (by omega)]
  rcases (h1.2.2.2 k hkm).2 with r | ⟨_, _, _, _, r4, r5, _⟩
  · rw [if_pos r, if_pos r, if_pos r, if_pos r]; exact ⟨rfl, rfl⟩
  · rw [nR_eq h ht (by omega), nR_eq h ht (by omega)]; exact ⟨rfl, rfl⟩
theorem rfn_s {F : TFR} {T : Nat} {up lw up' lw' : Nat → Int32} {best : Int64 → BST} {dpt : Nat} {AA : Int64} {a : Nat → Nat → Int32} {m : Nat} {rs : Nat → Int64} {RR : Nat → Int} {n w ru rl BB : Nat} (h : TOK F T) (h' : TOK (trn F T (a, m, rs) RR n w ru rl) (T + 1)) (hF : FEQ F (trn F T (a, m, rs) RR n w ru rl) T) (hT : T < 16) (hR : RFN F T up lw) (hgv : GIV best (31 * T) dpt AA a m rs []) (hm : m ≤ 31)
    (hND : ∀ k, k < m → NDF best RR n w ru rl (Ppf F T) BB (31 * T) up' lw' (a 0) rs k) (hbu : ∀ k, k < m → ¬ a 0 (31 * T + k) = -1 → (best (rs k)).2.1 = (cb (bsd best (rs k)) + w) * (cb (rs k &&& (bsd best (rs k) ^^^ (-1))) + w) * (cb (bsd best (rs k)) + cb (rs k &&& (bsd best (rs k) ^^^ (-1))) + w))
    (h1 : ∀ q, q < 132 * (31 * T) → up' q = up q) (h2 : ∀ q, q < 19 * (31 * T) → lw' q = lw q) : RFN (trn F T (a, m, rs) RR n w ru rl) (T + 1) up' lw' := by
  intro t ht k hk
  rcases (show t < T ∨ t = T by omega) with q | q
  · have hm9 := (h.2 t q).1.2.1
    have e1 : tM (trn F T (a, m, rs) RR n w ru rl) t = tM F t := (hF.1 t q).1
    rw [e1] at hk
    obtain ⟨x1, x2⟩ := nv_eq hF q h.2 hk
    rw [x1, x2]
    exact nf_cg (hR t q k hk) (fun r r1 r2 => h1 r (by omega)) (fun r r1 r2 => h2 r (by omega))
  · subst q
    have e1 : tM (trn F t (a, m, rs) RR n w ru rl) t = m := va_up_self _ _ _
    have hk0 := hk
    rw [e1] at hk
    have e2 : tS (trn F t (a, m, rs) RR n w ru rl) t = fun k => smv RR (rs k) n := va_up_self _ _ _
    have e3 : tW (trn F t (a, m, rs) RR n w ru rl) t = w := va_up_self _ _ _
    have e4 : tU (trn F t (a, m, rs) RR n w ru rl) t = ru := va_up_self _ _ _
    have e5 : tL (trn F t (a, m, rs) RR n w ru rl) t = rl := va_up_self _ _ _
    have hP : Ppf (trn F t (a, m, rs) RR n w ru rl) t = Ppf F t := Ppf_eq hF (fun t ht => (h.2 t ht).1.2.1) t (Nat.le_refl _)
    have hnR : ∀ k, k < m → nR (trn F t (a, m, rs) RR n w ru rl) t k = cb (rs k) := fun k hk => nR_trn (hgv.1 k hk).2.2.1
    have hb := nvD_b h' (by omega) ht hk0
    refine nf_bd (B := BB) ?_ hb.1 hb.2
    have hn := hND k hk
    unfold NDF at hn
    by_cases hl : a 0 (31 * t + k) = -1
    · rw [if_pos hl] at hn
      obtain ⟨x1, x2⟩ := nvD_leaf (F := trn F t (a, m, rs) RR n w ru rl) (t := t) (k := k) hl
      rw [x1, x2, hP, e2, e4]
      unfold unr
      rw [hnR k hk, e3, e5]
      exact hn
    · rw [if_neg hl, hbu k hk hl] at hn
      obtain ⟨n1, n2, n3, n4, n5, n6⟩ := hgv.1 k hk
      rcases n6 with r | ⟨c1, c2, _, c3, c4, c5⟩
      · exact absurd r hl
      · rcases c4 with ⟨l, l1, l2, l3, l4⟩ | ⟨it, i1, _⟩
        · rcases c5 with ⟨r, r1, r2, r3, r4⟩ | ⟨it, i1, _⟩
          · have dl : dg (a 3) (31 * t + k) = l := by show (a 3 (31 * t + k)).toNatClampNeg = l; rw [l2]; exact nI_clamp (by omega)
            have dr : dg (a 4) (31 * t + k) = r := by show (a 4 (31 * t + k)).toNatClampNeg = r; rw [r2]; exact nI_clamp (by omega)
            have x1 : nvX (trn F t (a, m, rs) RR n w ru rl) t k = gZ (smv RR (rs l) n) (smv RR (rs r) n) (cb (rs l) + w) (cb (rs r) + w) (cb (rs l) + cb (rs r) + w) := by
              unfold nvX
              rw [if_neg (show ¬ tA (trn F t (a, m, rs) RR n w ru rl) 0 (31 * t + k) = -1 from hl)]
              show gZ (tS _ t (dg (a 3) (31 * t + k))) (tS _ t (dg (a 4) (31 * t + k))) (nR _ t (dg (a 3) (31 * t + k)) + _) (nR _ t (dg (a 4) (31 * t + k)) + _) (nR _ t (dg (a 3) (31 * t + k)) + nR _ t (dg (a 4) (31 * t + k)) + _) = _
              rw [dl, dr, hnR l l1, hnR r r1, e2, e3]
            have x2 : nvD (trn F t (a, m, rs) RR n w ru rl) t k = Ppf F t * Ppf F t * ((cb (rs l) + w) * (cb (rs r) + w) * (cb (rs l) + cb (rs r) + w)) := by
              unfold nvD
              rw [if_neg (show ¬ tA (trn F t (a, m, rs) RR n w ru rl) 0 (31 * t + k) = -1 from hl), hP]
              show Ppf F t * Ppf F t * ((nR _ t (dg (a 3) (31 * t + k)) + _) * (nR _ t (dg (a 4) (31 * t + k)) + _) * (nR _ t (dg (a 3) (31 * t + k)) + nR _ t (dg (a 4) (31 * t + k)) + _)) = _
              rw [dl, dr, hnR l l1, hnR r r1, e3]
            rw [x1, x2, l4, r4, win_eq c3]
            exact hn
          · exact absurd i1 (List.not_mem_nil)
        · exact absurd i1 (List.not_mem_nil)
theorem hbu_col {RR : Nat → Int} {n w lst wd dpt b0 : Nat} {vv eg ik : Nat → Int32} {ne : Nat → Nat} {chb : Int32} {AA : Int64} {a : Nat → Nat → Int32} {m : Nat} {rs : Nat → Int64} (hl : 1 ≤ lst) (hgv : GIV (fun x => colF RR n w lst vv eg ik ne chb x wd) b0 dpt AA a m rs []) : ∀ k, k < m → ¬ a 0 (b0 + k) = -1 → (colF RR n w lst vv eg ik ne chb (rs k) wd).2.1 = (cb (bsd (fun x => colF RR n w lst vv eg ik ne chb x wd) (rs k)) + w) * (cb (rs k &&& (bsd (fun x => colF RR n w lst vv eg ik ne chb x wd) (rs k) ^^^ (-1))) + w) * (cb (bsd (fun x => colF RR n w lst vv eg ik ne chb x wd) (rs k)) + cb (rs k &&& (bsd (fun x => colF RR n w lst vv eg ik ne chb x wd) (rs k) ^^^ (-1))) + w) := by
  intro k hk hn
  obtain ⟨_, _, _, _, _, n6⟩ := hgv.1 k hk
  rcases n6 with r | ⟨_, _, c0, _⟩
  · exact absurd r hn
  · have c0 : ¬ (colF RR n w lst vv eg ik ne chb (rs k) wd).1 ≤ 0 := c0
    exact (colF_sd (zr := RR) (n := n) (w := w) (lst := lst) (vv := vv) (eg := eg) (ik := ik) (ne := ne) (chb := chb) (A := rs k) hl wd (by omega)).2.2.2.2
/-! Rounds of training. -/
theorem nar_b (x : Int32) : vp_nar .boolean x = 0 ∨ vp_nar .boolean x = 1 := by
  show x &&& 1 = 0 ∨ x &&& 1 = 1
  have h1 : (x &&& 1).toBitVec = x.toBitVec &&& 1#32 := Int32.toBitVec_and x 1
  have h2 : x.toBitVec &&& 1#32 = 0#32 ∨ x.toBitVec &&& 1#32 = 1#32 := by
    rw [BitVec.and_one_eq_setWidth_ofBool_getLsbD]
    cases x.toBitVec.getLsbD 0
    · exact Or.inl (by decide)
    · exact Or.inr (by decide)
  rcases h2 with q | q
  · exact Or.inl (Int32.toBitVec_inj.mp (by rw [h1, q]; rfl))
  · exact Or.inr (Int32.toBitVec_inj.mp (by rw [h1, q]; rfl))
abbrev xR (F : TFR) (vv tg : Nat → Int32) (T i : Nat) : Int := xF F (rwf vv i) (tg i).toInt T
def rd1 (F : TFR) (T n w lst dpt wd ru rl : Nat) (vv eg ik : Nat → Int32) (ne : Nat → Nat) (chb : Int32) (AA : Int64) (tg : Nat → Int32) : TFR := trn F T (grw F T (xR F vv tg T) n w lst dpt wd vv eg ik ne chb AA) (xR F vv tg T) n w ru rl
def rds (F : TFR) (T n w lst dpt wd ru rl : Nat) (vv eg ik : Nat → Int32) (ne : Nat → Nat) (chb : Int32) (AA : Int64) (tg : Nat → Int32) : Nat → TFR
  | 0 => F
  | k + 1 => rd1 (rds F T n w lst dpt wd ru rl vv eg ik ne chb AA tg k) (T + k) n w lst dpt wd ru rl vv eg ik ne chb AA tg
theorem tg_b {x : Int32} (h : -1000 ≤ x.toInt ∧ x.toInt ≤ 1000) : x.toInt.natAbs ≤ 1000 := by omega
theorem xR_b {F : TFR} {T : Nat} (h : TOK F T) {vv tg : Nat → Int32} {i : Nat} (hx : -1000 ≤ (tg i).toInt ∧ (tg i).toInt ≤ 1000) : (xR F vv tg T i).natAbs ≤ 1000 * 2 ^ T * Ppf F T := xF_b (tg_b hx) h.2
theorem rd_tok {F : TFR} {T n w lst dpt wd ru rl : Nat} {vv eg ik : Nat → Int32} {ne : Nat → Nat} {chb : Int32} {AA : Int64} {tg : Nat → Int32} (h : TOK F T) (hT : T < 16) (hd4 : dpt ≤ 4) (hn : n ≤ 48) (hA : SUBn AA n) (hA0 : 0 < cb AA) (hw : w ≤ 20) (hl : 1 ≤ lst) (hwd : wd ≤ 6) (hr : 0 < ru ∧ ru ≤ rl ∧ rl ≤ 16) (htg : ∀ i, i < n → -1000 ≤ (tg i).toInt ∧ (tg i).toInt ≤ 1000) :
    TOK (rd1 F T n w lst dpt wd ru rl vv eg ik ne chb AA tg) (T + 1) ∧ FEQ F (rd1 F T n w lst dpt wd ru rl vv eg ik ne chb AA tg) T ∧ GIV (fun x => colF (xR F vv tg T) n w lst vv eg ik ne chb x wd) (31 * T) dpt AA (grw F T (xR F vv tg T) n w lst dpt wd vv eg ik ne chb AA).1 (grw F T (xR F vv tg T) n w lst dpt wd vv eg ik ne chb AA).2.1 (grw F T (xR F vv tg T) n w lst dpt wd vv eg ik ne chb AA).2.2 [] :=
  tok_s rfl rfl nar_b h hT hd4 hn hA hA0 hw hl hwd hr (fun i hi => xR_b h (htg i hi))
theorem rd_all {F : TFR} {T n w lst dpt wd ru rl BB C : Nat} {vv eg ik : Nat → Int32} {ne : Nat → Nat} {chb : Int32} {AA : Int64} {tg : Nat → Int32} {zr : Nat → Int} {up lw up' lw' : Nat → Int32} {a : Nat → Nat → Int32} {m : Nat} {rs : Nat → Int64} (h : TOK F T) (hT : T < 16) (hd4 : dpt ≤ 4) (hn : n ≤ 48) (hA : SUBn AA n) (hA0 : 0 < cb AA) (hw : w ≤ 20) (hl : 1 ≤ lst) (hwd : wd ≤ 6) (hr : 0 < ru ∧ ru ≤ rl ∧ rl ≤ 16) (htg : ∀ i, i < n → -1000 ≤ (tg i).toInt ∧ (tg i).toInt ≤ 1000)
    (hz : ∀ i, i < n → zr i * (Ppf F T : Int) = xR F vv tg T i * (C : Int)) (hC : 0 < C) (hg : (a, m, rs) = gall (fun x => colF zr n w lst vv eg ik ne chb x wd) ik (31 * T) dpt 32 (tA F, 0, fun _ => 0) [(AA, 0, -1, vp_nar .boolean 0)]) (hm : m ≤ 31) (hND : ∀ k, k < m → NDF (fun x => colF zr n w lst vv eg ik ne chb x wd) (xR F vv tg T) n w ru rl (Ppf F T) BB (31 * T) up' lw' (a 0) rs k) (hR : RFN F T up lw) (h1 : ∀ q, q < 132 * (31 * T) → up' q = up q) (h2 : ∀ q, q < 19 * (31 * T) → lw' q = lw q) :
    ∃ F9 : TFR, a = tA F9 ∧ m = tM F9 T ∧ F9 = rd1 F T n w lst dpt wd ru rl vv eg ik ne chb AA tg ∧ TOK F9 (T + 1) ∧ RFN F9 (T + 1) up' lw' ∧ ∀ t, t < T → tM F9 t = tM F t := by
  have hP := (Ppf_16 h (by omega) (Nat.le_refl T)).1
  have hs := colF_smb (w := w) (lst := lst) (wd := wd) (vv := vv) (eg := eg) (ik := ik) (ne := ne) (chb := chb) hz hP hC
  rw [gall_cg hs] at hg
  have hg : (a, m, rs) = grw F T (xR F vv tg T) n w lst dpt wd vv eg ik ne chb AA := hg
  obtain ⟨t1, t2, t3⟩ := rd_tok (vv := vv) (eg := eg) (ik := ik) (ne := ne) (chb := chb) h hT hd4 hn hA hA0 hw hl hwd hr htg
  have e : rd1 F T n w lst dpt wd ru rl vv eg ik ne chb AA tg = trn F T (a, m, rs) (xR F vv tg T) n w ru rl := by unfold rd1; rw [← hg]
  rw [e] at t1 t2
  rw [← hg] at t3
  refine ⟨trn F T (a, m, rs) (xR F vv tg T) n w ru rl, rfl, (va_up_self _ _ _).symm, e.symm, t1, ?_, fun t ht => (t2.1 t ht).1⟩
  exact rfn_s h t1 t2 hT hR t3 hm (fun k hk => ndf_cb hs (hND k hk)) (hbu_col hl t3) h1 h2
/-- room of the numbers -/
theorem xbc_1 : XBc * PBc + XBc * (PBc * PBc) < 268435456 ^ 130 ∧ XBc < 268435456 ^ 130 ∧ PBc < 268435456 ^ 130 ∧ 100 * XBc < 268435456 ^ 250 ∧ (100 * XBc) * (100 * XBc) * 1000000000000 < 268435456 ^ 130 ∧ (48 * XBc) * 16 < 268435456 ^ 130 ∧ (100 * XBc) * (100 * XBc) * 20000 < 268435456 ^ 130 ∧ PBc < 268435456 ^ 250 ∧ 48 * (XBc * XBc) * (PBc * PBc) + (XBc * XBc) * ((PBc * PBc) * (PBc * PBc)) < 268435456 ^ 250 ∧ PBc * PBc < 268435456 ^ 250 := by decide +kernel
theorem bl_pbc {d : Nat} (h : d ≤ PBc) : bl d ≤ 652 := bl_le.mpr (Nat.lt_of_le_of_lt h pbc_b.2.1)
theorem cb_fit {F : TFR} {T n : Nat} (h : TOK F T) (hT : T ≤ 16) {u g : Nat → Int32} {zr Rr : Nat → Int} (hc : COMM u g n zr Rr (Ppf F T)) : dn g ≤ PBc ∧ dn g < 268435456 ^ 250 := by
  have hP := Ppf_16 h hT (Nat.le_refl T)
  have h1 := Nat.le_trans (comm_le hP.1 hc).1 hP.2
  exact ⟨h1, Nat.lt_of_le_of_lt h1 xbc_1.2.2.2.2.2.2.2.1⟩
theorem zr_b {F : TFR} {T n : Nat} (h : TOK F T) (hT : T ≤ 16) {u g : Nat → Int32} {zr : Nat → Int} {vv tg : Nat → Int32} (htg : ∀ i, i < n → -1000 ≤ (tg i).toInt ∧ (tg i).toInt ≤ 1000) (hc : COMM u g n zr (fun j => xF F (rwf vv j) (tg j).toInt T) (Ppf F T)) : ∀ i, i < n → (zr i).natAbs ≤ XBc := fun i hi => by
  have hP := Ppf_16 h hT (Nat.le_refl T)
  exact Nat.le_trans ((comm_le hP.1 hc).2 i hi) (Nat.le_trans (xR_b h (htg i hi)) (xb_m hT hP.2))
theorem sub_thr {x : Int64} {n : Nat} : SUBn (x &&& thr n) n := sub_andr (fun r h => by
  by_cases hr : r < 64
  · rw [bx_thr hr] at h; exact of_decide_eq_true h
  · rw [bx_big _ (by omega)] at h; exact absurd h (by decide))
/-- the object's fields but the thrown mark, the number of trees, and those of the search and of the stack -/
def YK6 (yi yi' : Nat → Int32) : Prop := ∀ j, j ≠ 1 → j ≠ 17 → j ≠ 50 → j ≠ 51 → j ≠ 52 → j ≠ 53 → j ≠ 55 → yi' j = yi j
set_option maxHeartbeats 4000000 in
set_option maxRecDepth 100000 in
theorem y_train_ok (l : Launch) (D : va_G) (cT : Nat → ClassId) (y : Nat) (yr : Nat → Nat) (yi : Nat → Int32) (ysb : Int64) (ybs : Int64) (F : TFR) (fp : Nat → Int32) (up : Nat → Int32) (lw : Nat → Int32) (vv : Nat → Int32) (eg : Nat → Int32) (ik : Nat → Int32) (em : Nat → Int32) (tg : Nat → Int32) (nmA : Nat → Int32) (f0 : Nat → Int32) (g0 : Nat → Int32) (g2 : Nat → Int32) (gc : Nat → Int32) (rfu : Nat → Int32) (rfl9 : Nat → Int32) (fb : Nat → Int32) (k0 : Nat → Int32) (k1 : Nat → Int32) (k2 : Nat → Int32) (k3 : Nat → Int32) (k4 : Nat → Int32) (k5 : Nat → Int32) (k6 : Nat → Int32) (wr0 : Nat → Int64) (wd0 : Nat → Int32) (wa0 : Nat → Int32) (wl0 : Nat → Int32) (T : Nat) (n : Nat) (w : Nat) (lst : Nat) (dpt : Nat) (wd : Nat) (ne : Nat → Nat) (chb : Int32) (ru : Nat) (rl : Nat) (rr : Nat) (hPR : PRI fp) (hn : yi 3 = nI n) (hn48 : n ≤ 48) (hTT : yi 17 = nI T) (hTr : T + rr ≤ 16) (hc0 : 1 ≤ nI rr ∧ nI rr ≤ 16) (hw9 : yi 12 = nI w) (hw20 : w ≤ 20) (hls : yi 11 = nI lst) (hls2 : 1 ≤ lst ∧ lst ≤ 24) (hdp : yi 10 = nI dpt) (hdp4 : 1 ≤ dpt ∧ dpt ≤ 4) (hru0 : yi 13 = nI ru) (hrl0 : yi 14 = nI rl) (hr9 : 0 < ru ∧ ru ≤ rl ∧ rl ≤ 16) (hwd : yi 2 = nI wd) (hwd6 : wd ≤ 6) (hch : yi 16 = chb) (hne : ∀ c, c < 6 → em c = nI (ne c) ∧ ne c ≤ 11) (hwait : yi 55 = nI 0) (htg : ∀ i, i < n → -1000 ≤ (tg i).toInt ∧ (tg i).toInt ≤ 1000) (hTOK : TOK F T) (hRFN : RFN F T up lw) (hnm : ∀ t, t < T → nmA t = nI (tM F t)) (hA0 : 0 < cb (ysb &&& thr n)) (hS0 : ¬ ysb &&& thr n = 0) (hC0 : ¬ yi 16 &&& (((1 : Int32) <<< (yi 2 &&& 31)) - 1) = 0) (sz : Nat) : Met l yM_train WM_train ({ frames := 10, cells := 0, slots := 0, locals := 267 } : Room) (RW D vwCl [.ref y, .int (nI rr)] [(y, .inr (11, MO yr yi ysb ybs)), (yr 0, .inl (cT 0, 19, .inl fp)), (yr 29, .inl (cT 0, 302, .inl f0)), (yr 40, .inl (cT 0, 19, .inl g0)), (yr 41, .inl (cT 0, 19, .inl g2)), (yr 44, .inl (cT 0, 19, .inl gc)), (yr 45, .inl (cT 0, 6336, .inl rfu)), (yr 46, .inl (cT 0, 912, .inl rfl9)), (yr 4, .inl (cT 0, 48, .inl tg)), (yr 5, .inl (cT 0, 288, .inl vv)), (yr 7, .inl (cT 0, 66, .inl eg)), (yr 6, .inl (cT 3, 6, .inl ik)), (yr 8, .inl (cT 0, 6, .inl em)), (yr 36, .inl (cT 0, 302, .inl fb)), (yr 30, .inl (cT 0, 302, .inl k0)), (yr 33, .inl (cT 0, 302, .inl k1)), (yr 34, .inl (cT 0, 302, .inl k2)), (yr 32, .inl (cT 0, 302, .inl k3)), (yr 35, .inl (cT 0, 302, .inl k4)), (yr 31, .inl (cT 0, 302, .inl k5)), (yr 39, .inl (cT 0, 302, .inl k6)), (yr 19, .inl (cT 0, 496, .inl (tA F 0))), (yr 20, .inl (cT 0, 496, .inl (tA F 1))), (yr 21, .inl (cT 3, 496, .inl (tA F 2))), (yr 22, .inl (cT 0, 496, .inl (tA F 3))), (yr 23, .inl (cT 0, 496, .inl (tA F 4))), (yr 24, .inl (cT 0, 496, .inl (tA F 5))), (yr 25, .inl (cT 0, 496, .inl (tA F 6))), (yr 26, .inl (cT 3, 496, .inl (tA F 7))), (yr 27, .inl (cT 0, 65472, .inl up)), (yr 28, .inl (cT 0, 9424, .inl lw)), (yr 18, .inl (cT 0, 16, .inl nmA)), (yr 56, .inl (cT 1, 12, .inr (.inl wr0))), (yr 57, .inl (cT 0, 12, .inl wd0)), (yr 58, .inl (cT 0, 12, .inl wa0)), (yr 59, .inl (cT 3, 12, .inl wl0))] (TY cT) sz) (va_Qi (fun (r9 : Int32) (u9 : TFR × (Nat → Int32) × Int64 × (Nat → Int32) × (Nat → Int32) × (Nat → Int32) × (Nat → Int32) × (Nat → Int32) × (Nat → Int32) × (Nat → Int32) × (Nat → Int32) × (Nat → Int32) × (Nat → Int32) × (Nat → Int32) × (Nat → Int32) × (Nat → Int32) × (Nat → Int32) × (Nat → Int32) × (Nat → Int32) × (Nat → Int32) × (Nat → Int64) × (Nat → Int32) × (Nat → Int32) × (Nat → Int32)) => r9 = nI rr ∧ u9.1 = rds F T n w lst dpt wd ru rl vv eg ik ne chb (ysb &&& thr n) tg rr ∧ TOK u9.1 (T + rr) ∧ RFN u9.1 (T + rr) u9.2.2.2.2.1 u9.2.2.2.2.2.1 ∧ (∀ t8, t8 < T + rr → u9.2.2.2.1 t8 = nI (tM u9.1 t8)) ∧ u9.2.1 17 = nI (T + rr) ∧ u9.2.1 55 = nI 0 ∧ u9.2.1 1 = 0 ∧ YK6 yi u9.2.1) (BW D vwCl (va_A [(y, .inr (11, MO yr yi ysb ybs)), (yr 0, .inl (cT 0, 19, .inl fp)), (yr 29, .inl (cT 0, 302, .inl f0)), (yr 40, .inl (cT 0, 19, .inl g0)), (yr 41, .inl (cT 0, 19, .inl g2)), (yr 44, .inl (cT 0, 19, .inl gc)), (yr 45, .inl (cT 0, 6336, .inl rfu)), (yr 46, .inl (cT 0, 912, .inl rfl9)), (yr 4, .inl (cT 0, 48, .inl tg)), (yr 5, .inl (cT 0, 288, .inl vv)), (yr 7, .inl (cT 0, 66, .inl eg)), (yr 6, .inl (cT 3, 6, .inl ik)), (yr 8, .inl (cT 0, 6, .inl em)), (yr 36, .inl (cT 0, 302, .inl fb)), (yr 30, .inl (cT 0, 302, .inl k0)), (yr 33, .inl (cT 0, 302, .inl k1)), (yr 34, .inl (cT 0, 302, .inl k2)), (yr 32, .inl (cT 0, 302, .inl k3)), (yr 35, .inl (cT 0, 302, .inl k4)), (yr 31, .inl (cT 0, 302, .inl k5)), (yr 39, .inl (cT 0, 302, .inl k6)), (yr 19, .inl (cT 0, 496, .inl (tA F 0))), (yr 20, .inl (cT 0, 496, .inl (tA F 1))), (yr 21, .inl (cT 3, 496, .inl (tA F 2))), (yr 22, .inl (cT 0, 496, .inl (tA F 3))), (yr 23, .inl (cT 0, 496, .inl (tA F 4))), (yr 24, .inl (cT 0, 496, .inl (tA F 5))), (yr 25, .inl (cT 0, 496, .inl (tA F 6))), (yr 26, .inl (cT 3, 496, .inl (tA F 7))), (yr 27, .inl (cT 0, 65472, .inl up)), (yr 28, .inl (cT 0, 9424, .inl lw)), (yr 18, .inl (cT 0, 16, .inl nmA)), (yr 56, .inl (cT 1, 12, .inr (.inl wr0))), (yr 57, .inl (cT 0, 12, .inl wd0)), (yr 58, .inl (cT 0, 12, .inl wa0)), (yr 59, .inl (cT 3, 12, .inl wl0))] sz) (fun u9 : TFR × (Nat → Int32) × Int64 × (Nat → Int32) × (Nat → Int32) × (Nat → Int32) × (Nat → Int32) × (Nat → Int32) × (Nat → Int32) × (Nat → Int32) × (Nat → Int32) × (Nat → Int32) × (Nat → Int32) × (Nat → Int32) × (Nat → Int32) × (Nat → Int32) × (Nat → Int32) × (Nat → Int32) × (Nat → Int32) × (Nat → Int32) × (Nat → Int64) × (Nat → Int32) × (Nat → Int32) × (Nat → Int32) => [(y, .inr (11, MO yr u9.2.1 ysb u9.2.2.1)), (yr 0, .inl (cT 0, 19, .inl fp)), (yr 29, .inl (cT 0, 302, .inl u9.2.2.2.2.2.2.2.2.2.1)), (yr 40, .inl (cT 0, 19, .inl u9.2.2.2.2.2.2.2.2.2.2.1)), (yr 41, .inl (cT 0, 19, .inl u9.2.2.2.2.2.2.2.2.2.2.2.1)), (yr 44, .inl (cT 0, 19, .inl u9.2.2.2.2.2.2.1)), (yr 45, .inl (cT 0, 6336, .inl u9.2.2.2.2.2.2.2.1)), (yr 46, .inl (cT 0, 912, .inl u9.2.2.2.2.2.2.2.2.1)), (yr 4, .inl (cT 0, 48, .inl tg)), (yr 5, .inl (cT 0, 288, .inl vv)), (yr 7, .inl (cT 0, 66, .inl eg)), (yr 6, .inl (cT 3, 6, .inl ik)), (yr 8, .inl (cT 0, 6, .inl em)), (yr 36, .inl (cT 0, 302, .inl u9.2.2.2.2.2.2.2.2.2.2.2.2.2.2.2.2.2.2.2.1)), (yr 30, .inl (cT 0, 302, .inl u9.2.2.2.2.2.2.2.2.2.2.2.2.1)), (yr 33, .inl (cT 0, 302, .inl u9.2.2.2.2.2.2.2.2.2.2.2.2.2.1)), (yr 34, .inl (cT 0, 302, .inl u9.2.2.2.2.2.2.2.2.2.2.2.2.2.2.1)), (yr 32, .inl (cT 0, 302, .inl u9.2.2.2.2.2.2.2.2.2.2.2.2.2.2.2.1)), (yr 35, .inl (cT 0, 302, .inl u9.2.2.2.2.2.2.2.2.2.2.2.2.2.2.2.2.1)), (yr 31, .inl (cT 0, 302, .inl u9.2.2.2.2.2.2.2.2.2.2.2.2.2.2.2.2.2.1)), (yr 39, .inl (cT 0, 302, .inl u9.2.2.2.2.2.2.2.2.2.2.2.2.2.2.2.2.2.2.1)), (yr 19, .inl (cT 0, 496, .inl (tA u9.1 0))), (yr 20, .inl (cT 0, 496, .inl (tA u9.1 1))), (yr 21, .inl (cT 3, 496, .inl (tA u9.1 2))), (yr 22, .inl (cT 0, 496, .inl (tA u9.1 3))), (yr 23, .inl (cT 0, 496, .inl (tA u9.1 4))), (yr 24, .inl (cT 0, 496, .inl (tA u9.1 5))), (yr 25, .inl (cT 0, 496, .inl (tA u9.1 6))), (yr 26, .inl (cT 3, 496, .inl (tA u9.1 7))), (yr 27, .inl (cT 0, 65472, .inl u9.2.2.2.2.1)), (yr 28, .inl (cT 0, 9424, .inl u9.2.2.2.2.2.1)), (yr 18, .inl (cT 0, 16, .inl u9.2.2.2.1)), (yr 56, .inl (cT 1, 12, .inr (.inl u9.2.2.2.2.2.2.2.2.2.2.2.2.2.2.2.2.2.2.2.2.1))), (yr 57, .inl (cT 0, 12, .inl u9.2.2.2.2.2.2.2.2.2.2.2.2.2.2.2.2.2.2.2.2.2.1)), (yr 58, .inl (cT 0, 12, .inl u9.2.2.2.2.2.2.2.2.2.2.2.2.2.2.2.2.2.2.2.2.2.2.1)), (yr 59, .inl (cT 3, 12, .inl u9.2.2.2.2.2.2.2.2.2.2.2.2.2.2.2.2.2.2.2.2.2.2.2))])) (va_A [(y, .inr (11, MO yr yi ysb ybs)), (yr 0, .inl (cT 0, 19, .inl fp)), (yr 29, .inl (cT 0, 302, .inl f0)), (yr 40, .inl (cT 0, 19, .inl g0)), (yr 41, .inl (cT 0, 19, .inl g2)), (yr 44, .inl (cT 0, 19, .inl gc)), (yr 45, .inl (cT 0, 6336, .inl rfu)), (yr 46, .inl (cT 0, 912, .inl rfl9)), (yr 4, .inl (cT 0, 48, .inl tg)), (yr 5, .inl (cT 0, 288, .inl vv)), (yr 7, .inl (cT 0, 66, .inl eg)), (yr 6, .inl (cT 3, 6, .inl ik)), (yr 8, .inl (cT 0, 6, .inl em)), (yr 36, .inl (cT 0, 302, .inl fb)), (yr 30, .inl (cT 0, 302, .inl k0)), (yr 33, .inl (cT 0, 302, .inl k1)), (yr 34, .inl (cT 0, 302, .inl k2)), (yr 32, .inl (cT 0, 302, .inl k3)), (yr 35, .inl (cT 0, 302, .inl k4)), (yr 31, .inl (cT 0, 302, .inl k5)), (yr 39, .inl (cT 0, 302, .inl k6)), (yr 19, .inl (cT 0, 496, .inl (tA F 0))), (yr 20, .inl (cT 0, 496, .inl (tA F 1))), (yr 21, .inl (cT 3, 496, .inl (tA F 2))), (yr 22, .inl (cT 0, 496, .inl (tA F 3))), (yr 23, .inl (cT 0, 496, .inl (tA F 4))), (yr 24, .inl (cT 0, 496, .inl (tA F 5))), (yr 25, .inl (cT 0, 496, .inl (tA F 6))), (yr 26, .inl (cT 3, 496, .inl (tA F 7))), (yr 27, .inl (cT 0, 65472, .inl up)), (yr 28, .inl (cT 0, 9424, .inl lw)), (yr 18, .inl (cT 0, 16, .inl nmA)), (yr 56, .inl (cT 1, 12, .inr (.inl wr0))), (yr 57, .inl (cT 0, 12, .inl wd0)), (yr 58, .inl (cT 0, 12, .inl wa0)), (yr 59, .inl (cT 3, 12, .inl wl0))] sz)) 0 0 (va_A [(y, .inr (11, MO yr yi ysb ybs)), (yr 0, .inl (cT 0, 19, .inl fp)), (yr 29, .inl (cT 0, 302, .inl f0)), (yr 40, .inl (cT 0, 19, .inl g0)), (yr 41, .inl (cT 0, 19, .inl g2)), (yr 44, .inl (cT 0, 19, .inl gc)), (yr 45, .inl (cT 0, 6336, .inl rfu)), (yr 46, .inl (cT 0, 912, .inl rfl9)), (yr 4, .inl (cT 0, 48, .inl tg)), (yr 5, .inl (cT 0, 288, .inl vv)), (yr 7, .inl (cT 0, 66, .inl eg)), (yr 6, .inl (cT 3, 6, .inl ik)), (yr 8, .inl (cT 0, 6, .inl em)), (yr 36, .inl (cT 0, 302, .inl fb)), (yr 30, .inl (cT 0, 302, .inl k0)), (yr 33, .inl (cT 0, 302, .inl k1)), (yr 34, .inl (cT 0, 302, .inl k2)), (yr 32, .inl (cT 0, 302, .inl k3)), (yr 35, .inl (cT 0, 302, .inl k4)), (yr 31, .inl (cT 0, 302, .inl k5)), (yr 39, .inl (cT 0, 302, .inl k6)), (yr 19, .inl (cT 0, 496, .inl (tA F 0))), (yr 20, .inl (cT 0, 496, .inl (tA F 1))), (yr 21, .inl (cT 3, 496, .inl (tA F 2))), (yr 22, .inl (cT 0, 496, .inl (tA F 3))), (yr 23, .inl (cT 0, 496, .inl (tA F 4))), (yr 24, .inl (cT 0, 496, .inl (tA F 5))), (yr 25, .inl (cT 0, 496, .inl (tA F 6))), (yr 26, .inl (cT 3, 496, .inl (tA F 7))), (yr 27, .inl (cT 0, 65472, .inl up)), (yr 28, .inl (cT 0, 9424, .inl lw)), (yr 18, .inl (cT 0, 16, .inl nmA)), (yr 56, .inl (cT 1, 12, .inr (.inl wr0))), (yr 57, .inl (cT 0, 12, .inl wd0)), (yr 58, .inl (cT 0, 12, .inl wa0)), (yr 59, .inl (cT 3, 12, .inl wl0))] sz) := by
  refine Met.ofW (cc := cM_train) (maxL := 6) (ret := (some .int)) (by decide) rfl ?_
  intro p e s m args below meth c s₁ B hml hv
  obtain ⟨rfl, hsz, hZ, hP, hK, hD0⟩ := hv
  have hx := B.exec
  have hb := B.bytes
  have hr := B.returns
  have hts := atoms_spec (ws := WM_train) B.pre
  have hT : ∀ w ∈ TB, w.before _ s = true := fun w h => hts w (List.mem_cons_of_mem _ h)
  have hown : s.vm.findClass R_M = some m.cls := findClass_of_methodNamed B.named
  have hlocks := B.notSynchronized
  subst hsz
  have hD := hD0.self (sz := s.heap.size)
  generalize hAe : va_A [(y, .inr (11, MO yr yi ysb ybs)), (yr 0, .inl (cT 0, 19, .inl fp)), (yr 29, .inl (cT 0, 302, .inl f0)), (yr 40, .inl (cT 0, 19, .inl g0)), (yr 41, .inl (cT 0, 19, .inl g2)), (yr 44, .inl (cT 0, 19, .inl gc)), (yr 45, .inl (cT 0, 6336, .inl rfu)), (yr 46, .inl (cT 0, 912, .inl rfl9)), (yr 4, .inl (cT 0, 48, .inl tg)), (yr 5, .inl (cT 0, 288, .inl vv)), (yr 7, .inl (cT 0, 66, .inl eg)), (yr 6, .inl (cT 3, 6, .inl ik)), (yr 8, .inl (cT 0, 6, .inl em)), (yr 36, .inl (cT 0, 302, .inl fb)), (yr 30, .inl (cT 0, 302, .inl k0)), (yr 33, .inl (cT 0, 302, .inl k1)), (yr 34, .inl (cT 0, 302, .inl k2)), (yr 32, .inl (cT 0, 302, .inl k3)), (yr 35, .inl (cT 0, 302, .inl k4)), (yr 31, .inl (cT 0, 302, .inl k5)), (yr 39, .inl (cT 0, 302, .inl k6)), (yr 19, .inl (cT 0, 496, .inl (tA F 0))), (yr 20, .inl (cT 0, 496, .inl (tA F 1))), (yr 21, .inl (cT 3, 496, .inl (tA F 2))), (yr 22, .inl (cT 0, 496, .inl (tA F 3))), (yr 23, .inl (cT 0, 496, .inl (tA F 4))), (yr 24, .inl (cT 0, 496, .inl (tA F 5))), (yr 25, .inl (cT 0, 496, .inl (tA F 6))), (yr 26, .inl (cT 3, 496, .inl (tA F 7))), (yr 27, .inl (cT 0, 65472, .inl up)), (yr 28, .inl (cT 0, 9424, .inl lw)), (yr 18, .inl (cT 0, 16, .inl nmA)), (yr 56, .inl (cT 1, 12, .inr (.inl wr0))), (yr 57, .inl (cT 0, 12, .inl wd0)), (yr 58, .inl (cT 0, 12, .inl wa0)), (yr 59, .inl (cT 3, 12, .inl wl0))] s.heap.size = A at hD hZ ⊢
  have hA : ∀ q : Nat, s.heap.size ≤ q → A q := fun q h => by rw [← hAe]; exact Or.inr h
  have hS : va_S A s.heap s.heap [] := va_S.rf
  have hl := lv_entry ([.ref y, .int (nI rr)]) (n := 6) (Nat.le_of_ble_eq_true rfl)
  rw [lg_entry_eq]
  generalize (lg_sl ([.ref y, .int (nI rr)]) ++ List.replicate (6 - (lg_sl ([.ref y, .int (nI rr)])).length) Slot.unset).toArray = ls at hl ⊢
  have hl : lv_has ls 6 [(0, .ref y), (1, .int (nI rr))] := hl
  refine lv_aload_n hx hb dM_train_0 rfl (lv_at hl 0 rfl) ?_
  refine va_get (D := D) (ci := 11) (v := .long ysb) (C := R_M) (T := T_M) (N := 60) hx hb hT in_M hown hK hP 0 rfl rfl 15 (by decide) (hT _ w1119) (fun _ h9 => h9) rfl dM_train_1 ?_
  refine lv_aload_n hx hb dM_train_4 rfl (lv_at hl 0 rfl) ?_
  refine ro_l (va_Run.run (va_runV (As := []) (rest := [.long ysb]) ⟨hx, hb, hml, hown, hT⟩ (m_there l D cT y yr yi ysb ybs n hn hn48) ⟨callB_of 0 hT (tb_gd w1366) rfl rfl rfl (hT _ w13) (hT _ w1363) hM_there ⟨Nat.le_of_ble_eq_true rfl, Nat.le_of_ble_eq_true rfl⟩, (hT _ w1365), (hT _ wp34)⟩ (RO.preV (ci := 11) (q0 := 0) hZ hS (hP.sub (ws' := [(y, .inr (11, MO yr yi ysb ybs))]) [0] rfl) hK rfl rfl) rfl rfl hl.1 rfl (lv_room (Nat.le_of_ble_eq_true rfl)) dM_train_5 ⟨Nat.le_of_ble_eq_true rfl, Nat.le_of_ble_eq_true rfl⟩)) ?_
  refine lv_land hx hb dM_train_8 ?_
  refine lv_lconst (v := 0) hx hb dM_train_9 (by decide) ?_
  refine W.lcmp hx hb dM_train_10 ?_
  refine lv_if_eq (tgt := 30) hx hb dM_train_11 rfl (fun h1 => absurd h1 (fun q => hS0 ((lg_cmp_eq _ _).mp q))) (fun _ => ?_)
  refine lv_aload_n hx hb dM_train_14 rfl (lv_at hl 0 rfl) ?_
  refine va_get (D := D) (ci := 11) (v := .int (yi 16)) (C := R_M) (T := T_M) (N := 60) hx hb hT in_M hown hK hP 0 rfl rfl 16 (by decide) (hT _ w1120) (fun _ h9 => h9) rfl dM_train_15 ?_
  refine lv_iconst (v := 1) hx hb dM_train_18 (by decide) ?_
  refine lv_aload_n hx hb dM_train_19 rfl (lv_at hl 0 rfl) ?_
  refine va_get (D := D) (ci := 11) (v := .int (yi 2)) (C := R_M) (T := T_M) (N := 60) hx hb hT in_M hown hK hP 0 rfl rfl 2 (by decide) (hT _ w1106) (fun _ h9 => h9) rfl dM_train_20 ?_
  refine lv_ishl hx hb dM_train_23 ?_
  refine lv_iconst (v := 1) hx hb dM_train_24 (by decide) ?_
  refine lv_isub hx hb dM_train_25 ?_
  refine lv_iand hx hb dM_train_26 ?_
  refine lv_if_ne (tgt := 34) hx hb dM_train_27 rfl (fun _ => ?_) (fun h2 => absurd h2 hC0)
  refine lv_iconst (v := 0) hx hb dM_train_34 (by decide) ?_
  refine lv_istore_n hx hb dM_train_35 rfl hl (by decide) rfl (fun ls hl => ?_)
  have hl : lv_has ls 6 [(2, .int 0), (0, .ref y), (1, .int (nI rr))] := hl
  refine lv_aload_n hx hb dM_train_36 rfl (lv_at hl 1 rfl) ?_
  refine lv_iload_n hx hb dM_train_37 rfl (lv_at hl 2 rfl) ?_
  refine lv_iconst (v := 1) hx hb dM_train_38 (by decide) ?_
  refine lv_bipush (v := 16) hx hb dM_train_39 (by decide) ?_
  refine ro_i (va_Run.run (va_runS (As := [.int (nI rr), .int 1, .int 16]) (rest := [.ref y]) ⟨hx, hb, hml, hown, hT⟩ (m_in l D cT (nI rr) 1 16) ⟨callB_of 3 hT (tb_gd w1297) rfl rfl rfl (hT _ w13) (hT _ w1295) hM_in ⟨Nat.le_of_ble_eq_true rfl, Nat.le_of_ble_eq_true rfl⟩, (hT _ w1296)⟩ (RO.preS hZ hS ((show va_P D vwCl [] _ from fun _ _ h => nomatch h)) hK) rfl rfl hl.1 rfl (lv_room (Nat.le_of_ble_eq_true rfl)) dM_train_41 ⟨Nat.le_of_ble_eq_true rfl, Nat.le_of_ble_eq_true rfl⟩)) ?_
  refine lv_if_ne (tgt := 51) hx hb dM_train_44 rfl (fun _ => ?_) (fun h3 => absurd h3 (by rw [bi_t hc0]; decide))
  refine lv_iload_n hx hb dM_train_51 rfl (lv_at hl 0 rfl) ?_
  refine lv_if_ne (tgt := 66) hx hb dM_train_52 rfl (fun h4 => absurd (by decide) h4) (fun _ => ?_)
  refine lv_aload_n hx hb dM_train_55 rfl (lv_at hl 1 rfl) ?_
  refine va_get (D := D) (ci := 11) (v := .int (yi 17)) (C := R_M) (T := T_M) (N := 60) hx hb hT in_M hown hK hP 0 rfl rfl 17 (by decide) (hT _ w1121) (fun _ h9 => h9) rfl dM_train_56 ?_
  refine lv_topi (fun y9 e9 => ?_)
  cases (show y9 = nI T from e9.trans hTT)
  refine lv_iload_n hx hb dM_train_59 rfl (lv_at hl 2 rfl) ?_
  refine lv_iadd hx hb dM_train_60 ?_
  refine lv_topi (fun y9 e9 => ?_)
  cases (show y9 = nI (T + rr) from e9.trans (nI_add T rr))
  refine lv_bipush (v := 16) hx hb dM_train_61 (by decide) ?_
  refine lv_icmp_le (tgt := 70) hx hb dM_train_63 rfl (fun _ => ?_) (fun h5 => absurd ((nI_leI (a := T + rr) (b := 16) (by omega) (by decide)).mpr hTr) h5)
  refine lv_iconst (v := 0) hx hb dM_train_70 (by decide) ?_
  refine rw_i (wc := [(y, .inr (11, MO yr yi ysb ybs))]) (wr := [(yr 0, .inl (cT 0, 19, .inl fp)), (yr 29, .inl (cT 0, 302, .inl f0)), (yr 40, .inl (cT 0, 19, .inl g0)), (yr 41, .inl (cT 0, 19, .inl g2)), (yr 44, .inl (cT 0, 19, .inl gc)), (yr 45, .inl (cT 0, 6336, .inl rfu)), (yr 46, .inl (cT 0, 912, .inl rfl9)), (yr 4, .inl (cT 0, 48, .inl tg)), (yr 5, .inl (cT 0, 288, .inl vv)), (yr 7, .inl (cT 0, 66, .inl eg)), (yr 6, .inl (cT 3, 6, .inl ik)), (yr 8, .inl (cT 0, 6, .inl em)), (yr 36, .inl (cT 0, 302, .inl fb)), (yr 30, .inl (cT 0, 302, .inl k0)), (yr 33, .inl (cT 0, 302, .inl k1)), (yr 34, .inl (cT 0, 302, .inl k2)), (yr 32, .inl (cT 0, 302, .inl k3)), (yr 35, .inl (cT 0, 302, .inl k4)), (yr 31, .inl (cT 0, 302, .inl k5)), (yr 39, .inl (cT 0, 302, .inl k6)), (yr 19, .inl (cT 0, 496, .inl (tA F 0))), (yr 20, .inl (cT 0, 496, .inl (tA F 1))), (yr 21, .inl (cT 3, 496, .inl (tA F 2))), (yr 22, .inl (cT 0, 496, .inl (tA F 3))), (yr 23, .inl (cT 0, 496, .inl (tA F 4))), (yr 24, .inl (cT 0, 496, .inl (tA F 5))), (yr 25, .inl (cT 0, 496, .inl (tA F 6))), (yr 26, .inl (cT 3, 496, .inl (tA F 7))), (yr 27, .inl (cT 0, 65472, .inl up)), (yr 28, .inl (cT 0, 9424, .inl lw)), (yr 18, .inl (cT 0, 16, .inl nmA)), (yr 56, .inl (cT 1, 12, .inr (.inl wr0))), (yr 57, .inl (cT 0, 12, .inl wd0)), (yr 58, .inl (cT 0, 12, .inl wa0)), (yr 59, .inl (cT 3, 12, .inl wl0))]) hP hD hS hA [0] [1, 2, 3, 4, 5, 6, 7, 8, 9, 10, 11, 12, 13, 14, 15, 16, 17, 18, 19, 20, 21, 22, 23, 24, 25, 26, 27, 28, 29, 30, 31, 32, 33, 34, 35] rfl rfl (by decide) (by decide) (va_runV (As := [.int 0]) (rest := []) ⟨hx, hb, hml, hown, hT⟩ (m_ref0 l D cT y yr yi ysb ybs _) ⟨callB_of 1 hT (tb_gd w1301) rfl rfl rfl (hT _ w13) (hT _ w1298) hM_refused ⟨Nat.le_of_ble_eq_true rfl, Nat.le_of_ble_eq_true rfl⟩, (hT _ w1300), (hT _ wp29)⟩ (RW.preV (ci := 11) (q0 := 0) hZ hS (va_free (wc := [(y, .inr (11, MO yr yi ysb ybs))]) hD hS hA [0] rfl) (hP.sub (ws' := [(y, .inr (11, MO yr yi ysb ybs))]) [0] rfl) hK (hD.sub (ws' := [(y, .inr (11, MO yr yi ysb ybs))]) [0] (by decide) rfl) rfl rfl) rfl rfl hl.1 rfl (lv_room (Nat.le_of_ble_eq_true rfl)) dM_train_71 ⟨Nat.le_of_ble_eq_true rfl, Nat.le_of_ble_eq_true rfl⟩) (fun ru6 u9 H locs hpu6 hP hD hS => ?_)
  have hpu6 : ru6 = 0 := hpu6
  have hP : va_P D vwCl [(yr 0, .inl (cT 0, 19, .inl fp)), (yr 29, .inl (cT 0, 302, .inl f0)), (yr 40, .inl (cT 0, 19, .inl g0)), (yr 41, .inl (cT 0, 19, .inl g2)), (yr 44, .inl (cT 0, 19, .inl gc)), (yr 45, .inl (cT 0, 6336, .inl rfu)), (yr 46, .inl (cT 0, 912, .inl rfl9)), (yr 4, .inl (cT 0, 48, .inl tg)), (yr 5, .inl (cT 0, 288, .inl vv)), (yr 7, .inl (cT 0, 66, .inl eg)), (yr 6, .inl (cT 3, 6, .inl ik)), (yr 8, .inl (cT 0, 6, .inl em)), (yr 36, .inl (cT 0, 302, .inl fb)), (yr 30, .inl (cT 0, 302, .inl k0)), (yr 33, .inl (cT 0, 302, .inl k1)), (yr 34, .inl (cT 0, 302, .inl k2)), (yr 32, .inl (cT 0, 302, .inl k3)), (yr 35, .inl (cT 0, 302, .inl k4)), (yr 31, .inl (cT 0, 302, .inl k5)), (yr 39, .inl (cT 0, 302, .inl k6)), (yr 19, .inl (cT 0, 496, .inl (tA F 0))), (yr 20, .inl (cT 0, 496, .inl (tA F 1))), (yr 21, .inl (cT 3, 496, .inl (tA F 2))), (yr 22, .inl (cT 0, 496, .inl (tA F 3))), (yr 23, .inl (cT 0, 496, .inl (tA F 4))), (yr 24, .inl (cT 0, 496, .inl (tA F 5))), (yr 25, .inl (cT 0, 496, .inl (tA F 6))), (yr 26, .inl (cT 3, 496, .inl (tA F 7))), (yr 27, .inl (cT 0, 65472, .inl up)), (yr 28, .inl (cT 0, 9424, .inl lw)), (yr 18, .inl (cT 0, 16, .inl nmA)), (yr 56, .inl (cT 1, 12, .inr (.inl wr0))), (yr 57, .inl (cT 0, 12, .inl wd0)), (yr 58, .inl (cT 0, 12, .inl wa0)), (yr 59, .inl (cT 3, 12, .inl wl0)), (y, .inr (11, MO yr (va_up yi 1 0) ysb ybs))] _ := hP
  have hD : va_D A [(yr 0, .inl (cT 0, 19, .inl fp)), (yr 29, .inl (cT 0, 302, .inl f0)), (yr 40, .inl (cT 0, 19, .inl g0)), (yr 41, .inl (cT 0, 19, .inl g2)), (yr 44, .inl (cT 0, 19, .inl gc)), (yr 45, .inl (cT 0, 6336, .inl rfu)), (yr 46, .inl (cT 0, 912, .inl rfl9)), (yr 4, .inl (cT 0, 48, .inl tg)), (yr 5, .inl (cT 0, 288, .inl vv)), (yr 7, .inl (cT 0, 66, .inl eg)), (yr 6, .inl (cT 3, 6, .inl ik)), (yr 8, .inl (cT 0, 6, .inl em)), (yr 36, .inl (cT 0, 302, .inl fb)), (yr 30, .inl (cT 0, 302, .inl k0)), (yr 33, .inl (cT 0, 302, .inl k1)), (yr 34, .inl (cT 0, 302, .inl k2)), (yr 32, .inl (cT 0, 302, .inl k3)), (yr 35, .inl (cT 0, 302, .inl k4)), (yr 31, .inl (cT 0, 302, .inl k5)), (yr 39, .inl (cT 0, 302, .inl k6)), (yr 19, .inl (cT 0, 496, .inl (tA F 0))), (yr 20, .inl (cT 0, 496, .inl (tA F 1))), (yr 21, .inl (cT 3, 496, .inl (tA F 2))), (yr 22, .inl (cT 0, 496, .inl (tA F 3))), (yr 23, .inl (cT 0, 496, .inl (tA F 4))), (yr 24, .inl (cT 0, 496, .inl (tA F 5))), (yr 25, .inl (cT 0, 496, .inl (tA F 6))), (yr 26, .inl (cT 3, 496, .inl (tA F 7))), (yr 27, .inl (cT 0, 65472, .inl up)), (yr 28, .inl (cT 0, 9424, .inl lw)), (yr 18, .inl (cT 0, 16, .inl nmA)), (yr 56, .inl (cT 1, 12, .inr (.inl wr0))), (yr 57, .inl (cT 0, 12, .inl wd0)), (yr 58, .inl (cT 0, 12, .inl wa0)), (yr 59, .inl (cT 3, 12, .inl wl0)), (y, .inr (11, MO yr (va_up yi 1 0) ysb ybs))] := hD
  refine lv_topi (fun y9 e9 => ?_)
  cases (show y9 = 0 from e9.trans hpu6)
  refine lv_if_eq (tgt := 79) hx hb dM_train_74 rfl (fun _ => ?_) (fun h7 => absurd (by decide) h7)
  refine lv_aload_n hx hb dM_train_79 rfl (lv_at hl 1 rfl) ?_
  refine va_get (D := D) (ci := 11) (v := .int (yi 17)) (C := R_M) (T := T_M) (N := 60) hx hb hT in_M hown hK hP 35 rfl rfl 17 (by decide) (hT _ w1121) (fun _ h9 => h9) rfl dM_train_80 ?_
  refine lv_topi (fun y9 e9 => ?_)
  cases (show y9 = nI T from e9.trans hTT)
  refine lv_istore_n hx hb dM_train_83 rfl hl (by decide) rfl (fun ls hl => ?_)
  have hl : lv_has ls 6 [(3, .int (nI T)), (2, .int 0), (0, .ref y), (1, .int (nI rr))] := hl
  refine lv_iconst (v := 1) hx hb dM_train_84 (by decide) ?_
  refine lv_istore hx hb dM_train_85 hl (by decide) rfl (fun ls hl => ?_)
  have hl : lv_has ls 6 [(4, .int 1), (3, .int (nI T)), (2, .int 0), (0, .ref y), (1, .int (nI rr))] := hl
  refine lv_iconst (v := 0) hx hb dM_train_87 (by decide) ?_
  refine lv_istore hx hb dM_train_88 hl (by decide) rfl (fun ls hl => ?_)
  have hl : lv_has ls 6 [(5, .int 0), (4, .int 1), (3, .int (nI T)), (2, .int 0), (0, .ref y), (1, .int (nI rr))] := hl
  refine lp_w (α := Nat × TFR × (Nat → Int32) × Int64 × (Nat → Int32) × (Nat → Int32) × (Nat → Int32) × (Nat → Int32) × (Nat → Int32) × (Nat → Int32) × (Nat → Int32) × (Nat → Int32) × (Nat → Int32) × (Nat → Int32) × (Nat → Int32) × (Nat → Int32) × (Nat → Int32) × (Nat → Int32) × (Nat → Int32) × (Nat → Int32) × (Nat → Int32) × (Nat → Int64) × (Nat → Int32) × (Nat → Int32) × (Nat → Int32)) (fun a9 => a9.1 ≤ rr ∧ a9.2.1 = rds F T n w lst dpt wd ru rl vv eg ik ne chb (ysb &&& thr n) tg a9.1 ∧ TOK a9.2.1 (T + a9.1) ∧ RFN a9.2.1 (T + a9.1) a9.2.2.2.2.2.1 a9.2.2.2.2.2.2.1 ∧ (∀ t, t < T + a9.1 → a9.2.2.2.2.1 t = nI (tM a9.2.1 t)) ∧ a9.2.2.1 17 = nI (T + a9.1) ∧ a9.2.2.1 55 = nI 0 ∧ a9.2.2.1 1 = 0 ∧ YK6 yi a9.2.2.1) (fun a9 => rr - a9.1) (fun a9 => [(0, .ref y), (1, .int (nI rr)), (3, .int (nI T)), (4, .int 1), (5, .int (nI a9.1))]) (fun a9 => [(yr 0, .inl (cT 0, 19, .inl fp)), (yr 29, .inl (cT 0, 302, .inl a9.2.2.2.2.2.2.2.2.2.2.1)), (yr 40, .inl (cT 0, 19, .inl a9.2.2.2.2.2.2.2.2.2.2.2.1)), (yr 41, .inl (cT 0, 19, .inl a9.2.2.2.2.2.2.2.2.2.2.2.2.1)), (yr 44, .inl (cT 0, 19, .inl a9.2.2.2.2.2.2.2.1)), (yr 45, .inl (cT 0, 6336, .inl a9.2.2.2.2.2.2.2.2.1)), (yr 46, .inl (cT 0, 912, .inl a9.2.2.2.2.2.2.2.2.2.1)), (yr 4, .inl (cT 0, 48, .inl tg)), (yr 5, .inl (cT 0, 288, .inl vv)), (yr 7, .inl (cT 0, 66, .inl eg)), (yr 6, .inl (cT 3, 6, .inl ik)), (yr 8, .inl (cT 0, 6, .inl em)), (yr 36, .inl (cT 0, 302, .inl a9.2.2.2.2.2.2.2.2.2.2.2.2.2.2.2.2.2.2.2.2.1)), (yr 30, .inl (cT 0, 302, .inl a9.2.2.2.2.2.2.2.2.2.2.2.2.2.1)), (yr 33, .inl (cT 0, 302, .inl a9.2.2.2.2.2.2.2.2.2.2.2.2.2.2.1)), (yr 34, .inl (cT 0, 302, .inl a9.2.2.2.2.2.2.2.2.2.2.2.2.2.2.2.1)), (yr 32, .inl (cT 0, 302, .inl a9.2.2.2.2.2.2.2.2.2.2.2.2.2.2.2.2.1)), (yr 35, .inl (cT 0, 302, .inl a9.2.2.2.2.2.2.2.2.2.2.2.2.2.2.2.2.2.1)), (yr 31, .inl (cT 0, 302, .inl a9.2.2.2.2.2.2.2.2.2.2.2.2.2.2.2.2.2.2.1)), (yr 39, .inl (cT 0, 302, .inl a9.2.2.2.2.2.2.2.2.2.2.2.2.2.2.2.2.2.2.2.1)), (yr 19, .inl (cT 0, 496, .inl (tA a9.2.1 0))), (yr 20, .inl (cT 0, 496, .inl (tA a9.2.1 1))), (yr 21, .inl (cT 3, 496, .inl (tA a9.2.1 2))), (yr 22, .inl (cT 0, 496, .inl (tA a9.2.1 3))), (yr 23, .inl (cT 0, 496, .inl (tA a9.2.1 4))), (yr 24, .inl (cT 0, 496, .inl (tA a9.2.1 5))), (yr 25, .inl (cT 0, 496, .inl (tA a9.2.1 6))), (yr 26, .inl (cT 3, 496, .inl (tA a9.2.1 7))), (yr 27, .inl (cT 0, 65472, .inl a9.2.2.2.2.2.1)), (yr 28, .inl (cT 0, 9424, .inl a9.2.2.2.2.2.2.1)), (yr 18, .inl (cT 0, 16, .inl a9.2.2.2.2.1)), (yr 56, .inl (cT 1, 12, .inr (.inl a9.2.2.2.2.2.2.2.2.2.2.2.2.2.2.2.2.2.2.2.2.2.1))), (yr 57, .inl (cT 0, 12, .inl a9.2.2.2.2.2.2.2.2.2.2.2.2.2.2.2.2.2.2.2.2.2.2.1)), (yr 58, .inl (cT 0, 12, .inl a9.2.2.2.2.2.2.2.2.2.2.2.2.2.2.2.2.2.2.2.2.2.2.2.1)), (yr 59, .inl (cT 3, 12, .inl a9.2.2.2.2.2.2.2.2.2.2.2.2.2.2.2.2.2.2.2.2.2.2.2.2)), (y, .inr (11, MO yr a9.2.2.1 ysb a9.2.2.2.1))]) 90 ?_ (0, F, va_up yi 1 0, ybs, nmA, up, lw, gc, rfu, rfl9, f0, g0, g2, k0, k1, k2, k3, k4, k5, k6, fb, wr0, wd0, wa0, wl0) (show 0 ≤ rr ∧ F = rds F T n w lst dpt wd ru rl vv eg ik ne chb (ysb &&& thr n) tg 0 ∧ TOK F (T + 0) ∧ RFN F (T + 0) up lw ∧ (∀ t, t < T + 0 → nmA t = nI (tM F t)) ∧ (va_up yi 1 0) 17 = nI (T + 0) ∧ (va_up yi 1 0) 55 = nI 0 ∧ (va_up yi 1 0) 1 = 0 ∧ YK6 yi (va_up yi 1 0) from ⟨by omega, rfl, hTOK, hRFN, hnm, yu (by decide) hTT, yu (by decide) hwait, va_up_self _ _ _, fun j h1 _ _ _ _ _ _ => va_up_ne _ _ h1⟩) (lv_sub hl [4, 5, 2, 1, 0] rfl) hP hD hS
  intro a9 hI90 ih90 ls H locs hl hP hD hS
  obtain ⟨k, FF, yi1, ybs1, nm1, up1, lw1, gc1, ru1, rl1, f1, g1, g3, kk0, kk1, kk2, kk3, kk4, kk5, kk6, fb1, wr1, wd1, wa1, wl1⟩ := a9
  have hI90 : k ≤ rr ∧ FF = rds F T n w lst dpt wd ru rl vv eg ik ne chb (ysb &&& thr n) tg k ∧ TOK FF (T + k) ∧ RFN FF (T + k) up1 lw1 ∧ (∀ t, t < T + k → nm1 t = nI (tM FF t)) ∧ yi1 17 = nI (T + k) ∧ yi1 55 = nI 0 ∧ yi1 1 = 0 ∧ YK6 yi yi1 := hI90
  obtain ⟨ik9, iE, iT, iR, iM, i17, i55, i1, iy⟩ := hI90
  have hl : lv_has ls 6 [(0, .ref y), (1, .int (nI rr)), (3, .int (nI T)), (4, .int 1), (5, .int (nI k))] := hl
  have hP : va_P D vwCl [(yr 0, .inl (cT 0, 19, .inl fp)), (yr 29, .inl (cT 0, 302, .inl f1)), (yr 40, .inl (cT 0, 19, .inl g1)), (yr 41, .inl (cT 0, 19, .inl g3)), (yr 44, .inl (cT 0, 19, .inl gc1)), (yr 45, .inl (cT 0, 6336, .inl ru1)), (yr 46, .inl (cT 0, 912, .inl rl1)), (yr 4, .inl (cT 0, 48, .inl tg)), (yr 5, .inl (cT 0, 288, .inl vv)), (yr 7, .inl (cT 0, 66, .inl eg)), (yr 6, .inl (cT 3, 6, .inl ik)), (yr 8, .inl (cT 0, 6, .inl em)), (yr 36, .inl (cT 0, 302, .inl fb1)), (yr 30, .inl (cT 0, 302, .inl kk0)), (yr 33, .inl (cT 0, 302, .inl kk1)), (yr 34, .inl (cT 0, 302, .inl kk2)), (yr 32, .inl (cT 0, 302, .inl kk3)), (yr 35, .inl (cT 0, 302, .inl kk4)), (yr 31, .inl (cT 0, 302, .inl kk5)), (yr 39, .inl (cT 0, 302, .inl kk6)), (yr 19, .inl (cT 0, 496, .inl (tA FF 0))), (yr 20, .inl (cT 0, 496, .inl (tA FF 1))), (yr 21, .inl (cT 3, 496, .inl (tA FF 2))), (yr 22, .inl (cT 0, 496, .inl (tA FF 3))), (yr 23, .inl (cT 0, 496, .inl (tA FF 4))), (yr 24, .inl (cT 0, 496, .inl (tA FF 5))), (yr 25, .inl (cT 0, 496, .inl (tA FF 6))), (yr 26, .inl (cT 3, 496, .inl (tA FF 7))), (yr 27, .inl (cT 0, 65472, .inl up1)), (yr 28, .inl (cT 0, 9424, .inl lw1)), (yr 18, .inl (cT 0, 16, .inl nm1)), (yr 56, .inl (cT 1, 12, .inr (.inl wr1))), (yr 57, .inl (cT 0, 12, .inl wd1)), (yr 58, .inl (cT 0, 12, .inl wa1)), (yr 59, .inl (cT 3, 12, .inl wl1)), (y, .inr (11, MO yr yi1 ysb ybs1))] _ := hP
  have hD : va_D A [(yr 0, .inl (cT 0, 19, .inl fp)), (yr 29, .inl (cT 0, 302, .inl f1)), (yr 40, .inl (cT 0, 19, .inl g1)), (yr 41, .inl (cT 0, 19, .inl g3)), (yr 44, .inl (cT 0, 19, .inl gc1)), (yr 45, .inl (cT 0, 6336, .inl ru1)), (yr 46, .inl (cT 0, 912, .inl rl1)), (yr 4, .inl (cT 0, 48, .inl tg)), (yr 5, .inl (cT 0, 288, .inl vv)), (yr 7, .inl (cT 0, 66, .inl eg)), (yr 6, .inl (cT 3, 6, .inl ik)), (yr 8, .inl (cT 0, 6, .inl em)), (yr 36, .inl (cT 0, 302, .inl fb1)), (yr 30, .inl (cT 0, 302, .inl kk0)), (yr 33, .inl (cT 0, 302, .inl kk1)), (yr 34, .inl (cT 0, 302, .inl kk2)), (yr 32, .inl (cT 0, 302, .inl kk3)), (yr 35, .inl (cT 0, 302, .inl kk4)), (yr 31, .inl (cT 0, 302, .inl kk5)), (yr 39, .inl (cT 0, 302, .inl kk6)), (yr 19, .inl (cT 0, 496, .inl (tA FF 0))), (yr 20, .inl (cT 0, 496, .inl (tA FF 1))), (yr 21, .inl (cT 3, 496, .inl (tA FF 2))), (yr 22, .inl (cT 0, 496, .inl (tA FF 3))), (yr 23, .inl (cT 0, 496, .inl (tA FF 4))), (yr 24, .inl (cT 0, 496, .inl (tA FF 5))), (yr 25, .inl (cT 0, 496, .inl (tA FF 6))), (yr 26, .inl (cT 3, 496, .inl (tA FF 7))), (yr 27, .inl (cT 0, 65472, .inl up1)), (yr 28, .inl (cT 0, 9424, .inl lw1)), (yr 18, .inl (cT 0, 16, .inl nm1)), (yr 56, .inl (cT 1, 12, .inr (.inl wr1))), (yr 57, .inl (cT 0, 12, .inl wd1)), (yr 58, .inl (cT 0, 12, .inl wa1)), (yr 59, .inl (cT 3, 12, .inl wl1)), (y, .inr (11, MO yr yi1 ysb ybs1))] := hD
  refine lv_iload hx hb dM_train_90 (lv_at hl 4 rfl) ?_
  refine lv_iload_n hx hb dM_train_92 rfl (lv_at hl 1 rfl) ?_
  refine lv_icmp_ge (tgt := 180) hx hb dM_train_93 rfl (fun h8 => ?_) (fun h8 => ?_)
  · have gh8 : rr ≤ k := (nI_leI (a := rr) (b := k) (by omega) (by omega)).mp h8
    refine lv_aload_n hx hb dM_train_180 rfl (lv_at hl 0 rfl) ?_
    refine va_get (D := D) (ci := 11) (v := .int (yi1 17)) (C := R_M) (T := T_M) (N := 60) hx hb hT in_M hown hK hP 35 rfl rfl 17 (by decide) (hT _ w1121) (fun _ h9 => h9) rfl dM_train_181 ?_
    refine lv_topi (fun y9 e9 => ?_)
    cases (show y9 = nI (T + k) from e9.trans i17)
    refine lv_iload_n hx hb dM_train_184 rfl (lv_at hl 2 rfl) ?_
    refine lv_isub hx hb dM_train_185 ?_
    refine lv_topi (fun y9 e9 => ?_)
    cases (show y9 = nI ((T + k) - T) from e9.trans (pk_sub (a := T + k) (b := T) (by omega)))
    have hP9 := hP.sub (ws' := [(y, .inr (11, MO yr yi1 ysb ybs1)), (yr 0, .inl (cT 0, 19, .inl fp)), (yr 29, .inl (cT 0, 302, .inl f1)), (yr 40, .inl (cT 0, 19, .inl g1)), (yr 41, .inl (cT 0, 19, .inl g3)), (yr 44, .inl (cT 0, 19, .inl gc1)), (yr 45, .inl (cT 0, 6336, .inl ru1)), (yr 46, .inl (cT 0, 912, .inl rl1)), (yr 4, .inl (cT 0, 48, .inl tg)), (yr 5, .inl (cT 0, 288, .inl vv)), (yr 7, .inl (cT 0, 66, .inl eg)), (yr 6, .inl (cT 3, 6, .inl ik)), (yr 8, .inl (cT 0, 6, .inl em)), (yr 36, .inl (cT 0, 302, .inl fb1)), (yr 30, .inl (cT 0, 302, .inl kk0)), (yr 33, .inl (cT 0, 302, .inl kk1)), (yr 34, .inl (cT 0, 302, .inl kk2)), (yr 32, .inl (cT 0, 302, .inl kk3)), (yr 35, .inl (cT 0, 302, .inl kk4)), (yr 31, .inl (cT 0, 302, .inl kk5)), (yr 39, .inl (cT 0, 302, .inl kk6)), (yr 19, .inl (cT 0, 496, .inl (tA FF 0))), (yr 20, .inl (cT 0, 496, .inl (tA FF 1))), (yr 21, .inl (cT 3, 496, .inl (tA FF 2))), (yr 22, .inl (cT 0, 496, .inl (tA FF 3))), (yr 23, .inl (cT 0, 496, .inl (tA FF 4))), (yr 24, .inl (cT 0, 496, .inl (tA FF 5))), (yr 25, .inl (cT 0, 496, .inl (tA FF 6))), (yr 26, .inl (cT 3, 496, .inl (tA FF 7))), (yr 27, .inl (cT 0, 65472, .inl up1)), (yr 28, .inl (cT 0, 9424, .inl lw1)), (yr 18, .inl (cT 0, 16, .inl nm1)), (yr 56, .inl (cT 1, 12, .inr (.inl wr1))), (yr 57, .inl (cT 0, 12, .inl wd1)), (yr 58, .inl (cT 0, 12, .inl wa1)), (yr 59, .inl (cT 3, 12, .inl wl1))]) [35, 0, 1, 2, 3, 4, 5, 6, 7, 8, 9, 10, 11, 12, 13, 14, 15, 16, 17, 18, 19, 20, 21, 22, 23, 24, 25, 26, 27, 28, 29, 30, 31, 32, 33, 34] rfl
    have hD9 := hD.sub (ws' := [(y, .inr (11, MO yr yi1 ysb ybs1)), (yr 0, .inl (cT 0, 19, .inl fp)), (yr 29, .inl (cT 0, 302, .inl f1)), (yr 40, .inl (cT 0, 19, .inl g1)), (yr 41, .inl (cT 0, 19, .inl g3)), (yr 44, .inl (cT 0, 19, .inl gc1)), (yr 45, .inl (cT 0, 6336, .inl ru1)), (yr 46, .inl (cT 0, 912, .inl rl1)), (yr 4, .inl (cT 0, 48, .inl tg)), (yr 5, .inl (cT 0, 288, .inl vv)), (yr 7, .inl (cT 0, 66, .inl eg)), (yr 6, .inl (cT 3, 6, .inl ik)), (yr 8, .inl (cT 0, 6, .inl em)), (yr 36, .inl (cT 0, 302, .inl fb1)), (yr 30, .inl (cT 0, 302, .inl kk0)), (yr 33, .inl (cT 0, 302, .inl kk1)), (yr 34, .inl (cT 0, 302, .inl kk2)), (yr 32, .inl (cT 0, 302, .inl kk3)), (yr 35, .inl (cT 0, 302, .inl kk4)), (yr 31, .inl (cT 0, 302, .inl kk5)), (yr 39, .inl (cT 0, 302, .inl kk6)), (yr 19, .inl (cT 0, 496, .inl (tA FF 0))), (yr 20, .inl (cT 0, 496, .inl (tA FF 1))), (yr 21, .inl (cT 3, 496, .inl (tA FF 2))), (yr 22, .inl (cT 0, 496, .inl (tA FF 3))), (yr 23, .inl (cT 0, 496, .inl (tA FF 4))), (yr 24, .inl (cT 0, 496, .inl (tA FF 5))), (yr 25, .inl (cT 0, 496, .inl (tA FF 6))), (yr 26, .inl (cT 3, 496, .inl (tA FF 7))), (yr 27, .inl (cT 0, 65472, .inl up1)), (yr 28, .inl (cT 0, 9424, .inl lw1)), (yr 18, .inl (cT 0, 16, .inl nm1)), (yr 56, .inl (cT 1, 12, .inr (.inl wr1))), (yr 57, .inl (cT 0, 12, .inl wd1)), (yr 58, .inl (cT 0, 12, .inl wa1)), (yr 59, .inl (cT 3, 12, .inl wl1))]) [35, 0, 1, 2, 3, 4, 5, 6, 7, 8, 9, 10, 11, 12, 13, 14, 15, 16, 17, 18, 19, 20, 21, 22, 23, 24, 25, 26, 27, 28, 29, 30, 31, 32, 33, 34] (by decide) rfl
    refine W.widen (k := 0) (n := 0) (Nat.le_of_ble_eq_true rfl) (Nat.le_of_ble_eq_true rfl) ?_
    exact W.iret (v := nI ((T + k) - T)) hx hb hr (fun t9 ht9 hW9 => ⟨⟨nI ((T + k) - T), (FF, yi1, ybs1, nm1, up1, lw1, gc1, ru1, rl1, f1, g1, g3, kk0, kk1, kk2, kk3, kk4, kk5, kk6, fb1, wr1, wd1, wa1, wl1), rfl, (show (nI ((T + k) - T)) = nI rr ∧ FF = rds F T n w lst dpt wd ru rl vv eg ik ne chb (ysb &&& thr n) tg rr ∧ TOK FF (T + rr) ∧ RFN FF (T + rr) up1 lw1 ∧ (∀ t8, t8 < T + rr → nm1 t8 = nI (tM FF t8)) ∧ yi1 17 = nI (T + rr) ∧ yi1 55 = nI 0 ∧ yi1 1 = 0 ∧ YK6 yi yi1 from (by obtain rfl : k = rr := by omega
         exact ⟨by rw [show T + k - T = k by omega], iE, iT, iR, iM, i17, i55, i1, iy⟩)), by rw [ht9]; exact hP9, hD9⟩, hS.F ht9⟩) hS.2.2 dM_train_186
  · have gh8 : k < rr := Nat.not_le.mp (fun q => h8 ((nI_leI (a := rr) (b := k) (by omega) (by omega)).mpr q))
    refine lv_iload hx hb dM_train_96 (lv_at hl 3 rfl) ?_
    refine lv_if_eq (tgt := 180) hx hb dM_train_98 rfl (fun h9 => absurd h9 (by decide)) (fun _ => ?_)
    refine lv_aload_n hx hb dM_train_101 rfl (lv_at hl 0 rfl) ?_
    refine rw_v (wc := [(y, .inr (11, MO yr yi1 ysb ybs1)), (yr 0, .inl (cT 0, 19, .inl fp)), (yr 29, .inl (cT 0, 302, .inl f1)), (yr 40, .inl (cT 0, 19, .inl g1)), (yr 30, .inl (cT 0, 302, .inl kk0)), (yr 41, .inl (cT 0, 19, .inl g3)), (yr 44, .inl (cT 0, 19, .inl gc1)), (yr 45, .inl (cT 0, 6336, .inl ru1)), (yr 46, .inl (cT 0, 912, .inl rl1)), (yr 4, .inl (cT 0, 48, .inl tg)), (yr 27, .inl (cT 0, 65472, .inl up1)), (yr 28, .inl (cT 0, 9424, .inl lw1)), (yr 19, .inl (cT 0, 496, .inl (tA FF 0))), (yr 22, .inl (cT 0, 496, .inl (tA FF 3))), (yr 23, .inl (cT 0, 496, .inl (tA FF 4))), (yr 5, .inl (cT 0, 288, .inl vv)), (yr 21, .inl (cT 3, 496, .inl (tA FF 2))), (yr 26, .inl (cT 3, 496, .inl (tA FF 7))), (yr 20, .inl (cT 0, 496, .inl (tA FF 1)))]) (wr := [(yr 7, .inl (cT 0, 66, .inl eg)), (yr 6, .inl (cT 3, 6, .inl ik)), (yr 8, .inl (cT 0, 6, .inl em)), (yr 36, .inl (cT 0, 302, .inl fb1)), (yr 33, .inl (cT 0, 302, .inl kk1)), (yr 34, .inl (cT 0, 302, .inl kk2)), (yr 32, .inl (cT 0, 302, .inl kk3)), (yr 35, .inl (cT 0, 302, .inl kk4)), (yr 31, .inl (cT 0, 302, .inl kk5)), (yr 39, .inl (cT 0, 302, .inl kk6)), (yr 24, .inl (cT 0, 496, .inl (tA FF 5))), (yr 25, .inl (cT 0, 496, .inl (tA FF 6))), (yr 18, .inl (cT 0, 16, .inl nm1)), (yr 56, .inl (cT 1, 12, .inr (.inl wr1))), (yr 57, .inl (cT 0, 12, .inl wd1)), (yr 58, .inl (cT 0, 12, .inl wa1)), (yr 59, .inl (cT 3, 12, .inl wl1))]) hP hD hS hA [35, 0, 1, 2, 13, 3, 4, 5, 6, 7, 28, 29, 20, 23, 24, 8, 22, 27, 21] [9, 10, 11, 12, 14, 15, 16, 17, 18, 19, 25, 26, 30, 31, 32, 33, 34] rfl rfl (by decide) (by decide) (va_runV (As := []) (rest := []) ⟨hx, hb, hml, hown, hT⟩ (m_find l D cT y yr yi1 ysb ybs1 fp (tA FF 0) (tA FF 3) (tA FF 4) (tA FF 2) (tA FF 7) (tA FF 1) vv up1 lw1 f1 g1 kk0 g3 gc1 ru1 rl1 (T + k) n 4096 (tM FF) (fun t k => dg (tA FF 6) (31 * t + k)) (fun i t k => goF (tA FF) (rwf vv i) t k) (fun i t => lfF (tA FF) (rwf vv i) t) (Ppf FF) (sca FF) (fun i t => xF FF (rwf vv i) (tg i).toInt t) (fun i t => lvf FF t (lfF (tA FF) (rwf vv i) t)) PBc XBc tg hPR ((iy 3 (by decide) (by decide) (by decide) (by decide) (by decide) (by decide) (by decide)).trans hn) hn48 i17 (by omega) (by decide) (fun i hi => ⟨rfl, htg i hi⟩) (fun i hi => chn_tok iT (by omega) (rwf vv i) (tg_b (htg i hi))) xbc_1.1 xbc_1.2.1 (fun t ht => (iT.2 t ht).1) iT.1 (fun i hi t ht k hk c hc he => rfn_go hc he) (fun i hi t ht => rfl) (fun i hi t ht => Nat.lt_of_lt_of_le (lfF_ok (iT.2 t ht) (rwf vv i)).1 (iT.2 t ht).1.2.1) (fun i hi t ht => rfn_lf iT (by omega) iR ht (lfF_ok (iT.2 t ht) (rwf vv i)).1 (lfF_ok (iT.2 t ht) (rwf vv i)).2) _) ⟨callB_of 0 hT (tb_gd w1377) rfl rfl rfl (hT _ w13) (hT _ w1374) hM_findResiduals ⟨Nat.le_of_ble_eq_true rfl, Nat.le_of_ble_eq_true rfl⟩, (hT _ w1376), (hT _ wp35)⟩ (RW.preV (ci := 11) (q0 := 0) hZ hS (va_free (wc := [(y, .inr (11, MO yr yi1 ysb ybs1)), (yr 0, .inl (cT 0, 19, .inl fp)), (yr 29, .inl (cT 0, 302, .inl f1)), (yr 40, .inl (cT 0, 19, .inl g1)), (yr 30, .inl (cT 0, 302, .inl kk0)), (yr 41, .inl (cT 0, 19, .inl g3)), (yr 44, .inl (cT 0, 19, .inl gc1)), (yr 45, .inl (cT 0, 6336, .inl ru1)), (yr 46, .inl (cT 0, 912, .inl rl1)), (yr 4, .inl (cT 0, 48, .inl tg)), (yr 27, .inl (cT 0, 65472, .inl up1)), (yr 28, .inl (cT 0, 9424, .inl lw1)), (yr 19, .inl (cT 0, 496, .inl (tA FF 0))), (yr 22, .inl (cT 0, 496, .inl (tA FF 3))), (yr 23, .inl (cT 0, 496, .inl (tA FF 4))), (yr 5, .inl (cT 0, 288, .inl vv)), (yr 21, .inl (cT 3, 496, .inl (tA FF 2))), (yr 26, .inl (cT 3, 496, .inl (tA FF 7))), (yr 20, .inl (cT 0, 496, .inl (tA FF 1)))]) hD hS hA [35, 0, 1, 2, 13, 3, 4, 5, 6, 7, 28, 29, 20, 23, 24, 8, 22, 27, 21] rfl) (hP.sub (ws' := [(y, .inr (11, MO yr yi1 ysb ybs1)), (yr 0, .inl (cT 0, 19, .inl fp)), (yr 29, .inl (cT 0, 302, .inl f1)), (yr 40, .inl (cT 0, 19, .inl g1)), (yr 30, .inl (cT 0, 302, .inl kk0)), (yr 41, .inl (cT 0, 19, .inl g3)), (yr 44, .inl (cT 0, 19, .inl gc1)), (yr 45, .inl (cT 0, 6336, .inl ru1)), (yr 46, .inl (cT 0, 912, .inl rl1)), (yr 4, .inl (cT 0, 48, .inl tg)), (yr 27, .inl (cT 0, 65472, .inl up1)), (yr 28, .inl (cT 0, 9424, .inl lw1)), (yr 19, .inl (cT 0, 496, .inl (tA FF 0))), (yr 22, .inl (cT 0, 496, .inl (tA FF 3))), (yr 23, .inl (cT 0, 496, .inl (tA FF 4))), (yr 5, .inl (cT 0, 288, .inl vv)), (yr 21, .inl (cT 3, 496, .inl (tA FF 2))), (yr 26, .inl (cT 3, 496, .inl (tA FF 7))), (yr 20, .inl (cT 0, 496, .inl (tA FF 1)))]) [35, 0, 1, 2, 13, 3, 4, 5, 6, 7, 28, 29, 20, 23, 24, 8, 22, 27, 21] rfl) hK (hD.sub (ws' := [(y, .inr (11, MO yr yi1 ysb ybs1)), (yr 0, .inl (cT 0, 19, .inl fp)), (yr 29, .inl (cT 0, 302, .inl f1)), (yr 40, .inl (cT 0, 19, .inl g1)), (yr 30, .inl (cT 0, 302, .inl kk0)), (yr 41, .inl (cT 0, 19, .inl g3)), (yr 44, .inl (cT 0, 19, .inl gc1)), (yr 45, .inl (cT 0, 6336, .inl ru1)), (yr 46, .inl (cT 0, 912, .inl rl1)), (yr 4, .inl (cT 0, 48, .inl tg)), (yr 27, .inl (cT 0, 65472, .inl up1)), (yr 28, .inl (cT 0, 9424, .inl lw1)), (yr 19, .inl (cT 0, 496, .inl (tA FF 0))), (yr 22, .inl (cT 0, 496, .inl (tA FF 3))), (yr 23, .inl (cT 0, 496, .inl (tA FF 4))), (yr 5, .inl (cT 0, 288, .inl vv)), (yr 21, .inl (cT 3, 496, .inl (tA FF 2))), (yr 26, .inl (cT 3, 496, .inl (tA FF 7))), (yr 20, .inl (cT 0, 496, .inl (tA FF 1)))]) [35, 0, 1, 2, 13, 3, 4, 5, 6, 7, 28, 29, 20, 23, 24, 8, 22, 27, 21] (by decide) rfl) rfl rfl) rfl rfl hl.1 rfl (lv_room (Nat.le_of_ble_eq_true rfl)) dM_train_102 ⟨Nat.le_of_ble_eq_true rfl, Nat.le_of_ble_eq_true rfl⟩) (fun u9 H locs hpu10 hP hD hS => ?_)
    obtain ⟨zr7u10, gc7u10, ru7u10, rl7u10, f7u10, g7u10, f8u10, g8u10⟩ := u9
    have hpu10 : LOK gc7u10 4096 ∧ COMM ru7u10 gc7u10 n zr7u10 (fun j8 => (fun i t => xF FF (rwf vv i) (tg i).toInt t) j8 (T + k)) ((Ppf FF) (T + k)) := hpu10
    have hP : va_P D vwCl [(yr 7, .inl (cT 0, 66, .inl eg)), (yr 6, .inl (cT 3, 6, .inl ik)), (yr 8, .inl (cT 0, 6, .inl em)), (yr 36, .inl (cT 0, 302, .inl fb1)), (yr 33, .inl (cT 0, 302, .inl kk1)), (yr 34, .inl (cT 0, 302, .inl kk2)), (yr 32, .inl (cT 0, 302, .inl kk3)), (yr 35, .inl (cT 0, 302, .inl kk4)), (yr 31, .inl (cT 0, 302, .inl kk5)), (yr 39, .inl (cT 0, 302, .inl kk6)), (yr 24, .inl (cT 0, 496, .inl (tA FF 5))), (yr 25, .inl (cT 0, 496, .inl (tA FF 6))), (yr 18, .inl (cT 0, 16, .inl nm1)), (yr 56, .inl (cT 1, 12, .inr (.inl wr1))), (yr 57, .inl (cT 0, 12, .inl wd1)), (yr 58, .inl (cT 0, 12, .inl wa1)), (yr 59, .inl (cT 3, 12, .inl wl1)), (y, .inr (11, MO yr yi1 ysb ybs1)), (yr 0, .inl (cT 0, 19, .inl fp)), (yr 29, .inl (cT 0, 302, .inl f7u10)), (yr 40, .inl (cT 0, 19, .inl g7u10)), (yr 30, .inl (cT 0, 302, .inl f8u10)), (yr 41, .inl (cT 0, 19, .inl g8u10)), (yr 44, .inl (cT 0, 19, .inl gc7u10)), (yr 45, .inl (cT 0, 6336, .inl ru7u10)), (yr 46, .inl (cT 0, 912, .inl rl7u10)), (yr 4, .inl (cT 0, 48, .inl tg)), (yr 27, .inl (cT 0, 65472, .inl up1)), (yr 28, .inl (cT 0, 9424, .inl lw1)), (yr 19, .inl (cT 0, 496, .inl (tA FF 0))), (yr 22, .inl (cT 0, 496, .inl (tA FF 3))), (yr 23, .inl (cT 0, 496, .inl (tA FF 4))), (yr 5, .inl (cT 0, 288, .inl vv)), (yr 21, .inl (cT 3, 496, .inl (tA FF 2))), (yr 26, .inl (cT 3, 496, .inl (tA FF 7))), (yr 20, .inl (cT 0, 496, .inl (tA FF 1)))] _ := hP
    have hD : va_D A [(yr 7, .inl (cT 0, 66, .inl eg)), (yr 6, .inl (cT 3, 6, .inl ik)), (yr 8, .inl (cT 0, 6, .inl em)), (yr 36, .inl (cT 0, 302, .inl fb1)), (yr 33, .inl (cT 0, 302, .inl kk1)), (yr 34, .inl (cT 0, 302, .inl kk2)), (yr 32, .inl (cT 0, 302, .inl kk3)), (yr 35, .inl (cT 0, 302, .inl kk4)), (yr 31, .inl (cT 0, 302, .inl kk5)), (yr 39, .inl (cT 0, 302, .inl kk6)), (yr 24, .inl (cT 0, 496, .inl (tA FF 5))), (yr 25, .inl (cT 0, 496, .inl (tA FF 6))), (yr 18, .inl (cT 0, 16, .inl nm1)), (yr 56, .inl (cT 1, 12, .inr (.inl wr1))), (yr 57, .inl (cT 0, 12, .inl wd1)), (yr 58, .inl (cT 0, 12, .inl wa1)), (yr 59, .inl (cT 3, 12, .inl wl1)), (y, .inr (11, MO yr yi1 ysb ybs1)), (yr 0, .inl (cT 0, 19, .inl fp)), (yr 29, .inl (cT 0, 302, .inl f7u10)), (yr 40, .inl (cT 0, 19, .inl g7u10)), (yr 30, .inl (cT 0, 302, .inl f8u10)), (yr 41, .inl (cT 0, 19, .inl g8u10)), (yr 44, .inl (cT 0, 19, .inl gc7u10)), (yr 45, .inl (cT 0, 6336, .inl ru7u10)), (yr 46, .inl (cT 0, 912, .inl rl7u10)), (yr 4, .inl (cT 0, 48, .inl tg)), (yr 27, .inl (cT 0, 65472, .inl up1)), (yr 28, .inl (cT 0, 9424, .inl lw1)), (yr 19, .inl (cT 0, 496, .inl (tA FF 0))), (yr 22, .inl (cT 0, 496, .inl (tA FF 3))), (yr 23, .inl (cT 0, 496, .inl (tA FF 4))), (yr 5, .inl (cT 0, 288, .inl vv)), (yr 21, .inl (cT 3, 496, .inl (tA FF 2))), (yr 26, .inl (cT 3, 496, .inl (tA FF 7))), (yr 20, .inl (cT 0, 496, .inl (tA FF 1)))] := hD
    obtain ⟨cL, cM⟩ := hpu10
    have zB := zr_b (vv := vv) iT (by omega) htg cM
    refine lv_aload_n hx hb dM_train_105 rfl (lv_at hl 0 rfl) ?_
    refine va_get (D := D) (ci := 11) (v := .ref (yr 18)) (C := R_M) (T := T_M) (N := 60) hx hb hT in_M hown hK hP 17 rfl rfl 18 (by decide) (hT _ w1122) (fun _ h9 => h9) rfl dM_train_106 ?_
    refine lv_aload_n hx hb dM_train_109 rfl (lv_at hl 0 rfl) ?_
    refine va_get (D := D) (ci := 11) (v := .int (yi1 17)) (C := R_M) (T := T_M) (N := 60) hx hb hT in_M hown hK hP 17 rfl rfl 17 (by decide) (hT _ w1121) (fun _ h9 => h9) rfl dM_train_110 ?_
    refine lv_topi (fun y9 e9 => ?_)
    cases (show y9 = nI (T + k) from e9.trans i17)
    refine lv_iconst (v := 0) hx hb dM_train_113 (by decide) ?_
    refine lq_iast (j := T + k) hx hb hK hP hD hS 12 0 rfl rfl rfl (by omega) (by omega) dM_train_114 (fun H locs hP hD hS => ?_)
    have hP : va_P D vwCl [(yr 7, .inl (cT 0, 66, .inl eg)), (yr 6, .inl (cT 3, 6, .inl ik)), (yr 8, .inl (cT 0, 6, .inl em)), (yr 36, .inl (cT 0, 302, .inl fb1)), (yr 33, .inl (cT 0, 302, .inl kk1)), (yr 34, .inl (cT 0, 302, .inl kk2)), (yr 32, .inl (cT 0, 302, .inl kk3)), (yr 35, .inl (cT 0, 302, .inl kk4)), (yr 31, .inl (cT 0, 302, .inl kk5)), (yr 39, .inl (cT 0, 302, .inl kk6)), (yr 24, .inl (cT 0, 496, .inl (tA FF 5))), (yr 25, .inl (cT 0, 496, .inl (tA FF 6))), (yr 18, .inl (cT 0, 16, .inl (upd nm1 (T + k) 0))), (yr 56, .inl (cT 1, 12, .inr (.inl wr1))), (yr 57, .inl (cT 0, 12, .inl wd1)), (yr 58, .inl (cT 0, 12, .inl wa1)), (yr 59, .inl (cT 3, 12, .inl wl1)), (y, .inr (11, MO yr yi1 ysb ybs1)), (yr 0, .inl (cT 0, 19, .inl fp)), (yr 29, .inl (cT 0, 302, .inl f7u10)), (yr 40, .inl (cT 0, 19, .inl g7u10)), (yr 30, .inl (cT 0, 302, .inl f8u10)), (yr 41, .inl (cT 0, 19, .inl g8u10)), (yr 44, .inl (cT 0, 19, .inl gc7u10)), (yr 45, .inl (cT 0, 6336, .inl ru7u10)), (yr 46, .inl (cT 0, 912, .inl rl7u10)), (yr 4, .inl (cT 0, 48, .inl tg)), (yr 27, .inl (cT 0, 65472, .inl up1)), (yr 28, .inl (cT 0, 9424, .inl lw1)), (yr 19, .inl (cT 0, 496, .inl (tA FF 0))), (yr 22, .inl (cT 0, 496, .inl (tA FF 3))), (yr 23, .inl (cT 0, 496, .inl (tA FF 4))), (yr 5, .inl (cT 0, 288, .inl vv)), (yr 21, .inl (cT 3, 496, .inl (tA FF 2))), (yr 26, .inl (cT 3, 496, .inl (tA FF 7))), (yr 20, .inl (cT 0, 496, .inl (tA FF 1)))] _ := hP
    have hD : va_D A [(yr 7, .inl (cT 0, 66, .inl eg)), (yr 6, .inl (cT 3, 6, .inl ik)), (yr 8, .inl (cT 0, 6, .inl em)), (yr 36, .inl (cT 0, 302, .inl fb1)), (yr 33, .inl (cT 0, 302, .inl kk1)), (yr 34, .inl (cT 0, 302, .inl kk2)), (yr 32, .inl (cT 0, 302, .inl kk3)), (yr 35, .inl (cT 0, 302, .inl kk4)), (yr 31, .inl (cT 0, 302, .inl kk5)), (yr 39, .inl (cT 0, 302, .inl kk6)), (yr 24, .inl (cT 0, 496, .inl (tA FF 5))), (yr 25, .inl (cT 0, 496, .inl (tA FF 6))), (yr 18, .inl (cT 0, 16, .inl (upd nm1 (T + k) 0))), (yr 56, .inl (cT 1, 12, .inr (.inl wr1))), (yr 57, .inl (cT 0, 12, .inl wd1)), (yr 58, .inl (cT 0, 12, .inl wa1)), (yr 59, .inl (cT 3, 12, .inl wl1)), (y, .inr (11, MO yr yi1 ysb ybs1)), (yr 0, .inl (cT 0, 19, .inl fp)), (yr 29, .inl (cT 0, 302, .inl f7u10)), (yr 40, .inl (cT 0, 19, .inl g7u10)), (yr 30, .inl (cT 0, 302, .inl f8u10)), (yr 41, .inl (cT 0, 19, .inl g8u10)), (yr 44, .inl (cT 0, 19, .inl gc7u10)), (yr 45, .inl (cT 0, 6336, .inl ru7u10)), (yr 46, .inl (cT 0, 912, .inl rl7u10)), (yr 4, .inl (cT 0, 48, .inl tg)), (yr 27, .inl (cT 0, 65472, .inl up1)), (yr 28, .inl (cT 0, 9424, .inl lw1)), (yr 19, .inl (cT 0, 496, .inl (tA FF 0))), (yr 22, .inl (cT 0, 496, .inl (tA FF 3))), (yr 23, .inl (cT 0, 496, .inl (tA FF 4))), (yr 5, .inl (cT 0, 288, .inl vv)), (yr 21, .inl (cT 3, 496, .inl (tA FF 2))), (yr 26, .inl (cT 3, 496, .inl (tA FF 7))), (yr 20, .inl (cT 0, 496, .inl (tA FF 1)))] := hD
    refine lv_aload_n hx hb dM_train_115 rfl (lv_at hl 0 rfl) ?_
    refine lv_aload_n hx hb dM_train_116 rfl (lv_at hl 0 rfl) ?_
    refine va_get (D := D) (ci := 11) (v := .long ysb) (C := R_M) (T := T_M) (N := 60) hx hb hT in_M hown hK hP 17 rfl rfl 15 (by decide) (hT _ w1119) (fun _ h9 => h9) rfl dM_train_117 ?_
    refine lv_aload_n hx hb dM_train_120 rfl (lv_at hl 0 rfl) ?_
    refine ro_l (va_Run.run (va_runV (As := []) (rest := [.long ysb, .ref y]) ⟨hx, hb, hml, hown, hT⟩ (m_there l D cT y yr yi1 ysb ybs1 n ((iy 3 (by decide) (by decide) (by decide) (by decide) (by decide) (by decide) (by decide)).trans hn) hn48) ⟨callB_of 0 hT (tb_gd w1366) rfl rfl rfl (hT _ w13) (hT _ w1363) hM_there ⟨Nat.le_of_ble_eq_true rfl, Nat.le_of_ble_eq_true rfl⟩, (hT _ w1365), (hT _ wp34)⟩ (RO.preV (ci := 11) (q0 := 0) hZ hS (hP.sub (ws' := [(y, .inr (11, MO yr yi1 ysb ybs1))]) [17] rfl) hK rfl rfl) rfl rfl hl.1 rfl (lv_room (Nat.le_of_ble_eq_true rfl)) dM_train_121 ⟨Nat.le_of_ble_eq_true rfl, Nat.le_of_ble_eq_true rfl⟩)) ?_
    refine lv_land hx hb dM_train_124 ?_
    refine rw_v (wc := [(y, .inr (11, MO yr yi1 ysb ybs1)), (yr 0, .inl (cT 0, 19, .inl fp)), (yr 45, .inl (cT 0, 6336, .inl ru7u10)), (yr 44, .inl (cT 0, 19, .inl gc7u10)), (yr 5, .inl (cT 0, 288, .inl vv)), (yr 7, .inl (cT 0, 66, .inl eg)), (yr 6, .inl (cT 3, 6, .inl ik)), (yr 8, .inl (cT 0, 6, .inl em)), (yr 36, .inl (cT 0, 302, .inl fb1)), (yr 30, .inl (cT 0, 302, .inl f8u10)), (yr 33, .inl (cT 0, 302, .inl kk1)), (yr 34, .inl (cT 0, 302, .inl kk2)), (yr 32, .inl (cT 0, 302, .inl kk3)), (yr 35, .inl (cT 0, 302, .inl kk4)), (yr 31, .inl (cT 0, 302, .inl kk5)), (yr 39, .inl (cT 0, 302, .inl kk6)), (yr 19, .inl (cT 0, 496, .inl ((tA FF) 0))), (yr 20, .inl (cT 0, 496, .inl ((tA FF) 1))), (yr 21, .inl (cT 3, 496, .inl ((tA FF) 2))), (yr 22, .inl (cT 0, 496, .inl ((tA FF) 3))), (yr 23, .inl (cT 0, 496, .inl ((tA FF) 4))), (yr 24, .inl (cT 0, 496, .inl ((tA FF) 5))), (yr 25, .inl (cT 0, 496, .inl ((tA FF) 6))), (yr 26, .inl (cT 3, 496, .inl ((tA FF) 7))), (yr 27, .inl (cT 0, 65472, .inl up1)), (yr 28, .inl (cT 0, 9424, .inl lw1)), (yr 40, .inl (cT 0, 19, .inl g7u10)), (yr 18, .inl (cT 0, 16, .inl (upd nm1 (T + k) 0))), (yr 56, .inl (cT 1, 12, .inr (.inl wr1))), (yr 57, .inl (cT 0, 12, .inl wd1)), (yr 58, .inl (cT 0, 12, .inl wa1)), (yr 59, .inl (cT 3, 12, .inl wl1))]) (wr := [(yr 29, .inl (cT 0, 302, .inl f7u10)), (yr 41, .inl (cT 0, 19, .inl g8u10)), (yr 46, .inl (cT 0, 912, .inl rl7u10)), (yr 4, .inl (cT 0, 48, .inl tg))]) hP hD hS hA [17, 18, 24, 23, 32, 0, 1, 2, 3, 21, 4, 5, 6, 7, 8, 9, 29, 35, 33, 30, 31, 10, 11, 34, 27, 28, 20, 12, 13, 14, 15, 16] [19, 22, 25, 26] rfl rfl (by decide) (by decide) (va_runV (As := [.long (ysb &&& (thr n))]) (rest := []) ⟨hx, hb, hml, hown, hT⟩ (m_grow l D cT y yr yi1 ysb ybs1 n w lst zr7u10 XBc ru7u10 (ysb &&& thr n) wd ne chb vv eg ik em fb1 f8u10 kk1 kk2 kk3 kk4 kk5 kk6 (tA FF) fp gc7u10 up1 lw1 g7u10 (upd nm1 (T + k) 0) wr1 wd1 wa1 wl1 (T + k) dpt 4096 ru rl (Ppf FF (T + k)) (xR FF vv tg (T + k)) ((iy 3 (by decide) (by decide) (by decide) (by decide) (by decide) (by decide) (by decide)).trans hn) hn48 ((iy 12 (by decide) (by decide) (by decide) (by decide) (by decide) (by decide) (by decide)).trans hw9) hw20 ((iy 11 (by decide) (by decide) (by decide) (by decide) (by decide) (by decide) (by decide)).trans hls) hls2 (fun i hi => (cM.1 i hi).1) zB xbc_1.2.2.2.1 xbc_1.2.2.2.2.1 sub_thr ((iy 2 (by decide) (by decide) (by decide) (by decide) (by decide) (by decide) (by decide)).trans hwd) hwd6 ((iy 16 (by decide) (by decide) (by decide) (by decide) (by decide) (by decide) (by decide)).trans hch) hne hA0 hPR cL (by decide) ((iy 13 (by decide) (by decide) (by decide) (by decide) (by decide) (by decide) (by decide)).trans hru0) (⟨hr9.1, by omega⟩) ((iy 14 (by decide) (by decide) (by decide) (by decide) (by decide) (by decide) (by decide)).trans hrl0) (⟨by omega, hr9.2.2⟩) i17 (by omega) ((iy 10 (by decide) (by decide) (by decide) (by decide) (by decide) (by decide) (by decide)).trans hdp) hdp4 i55 pk_us (fun i hi => (cM.1 i hi).2) xbc_1.2.2.2.2.2.1 xbc_1.2.2.2.2.2.2.1 _) ⟨callB_of 1 hT (tb_gd w1456) rfl rfl rfl (hT _ w13) (hT _ w1453) hM_grow ⟨Nat.le_of_ble_eq_true rfl, Nat.le_of_ble_eq_true rfl⟩, (hT _ w1455), (hT _ wp43)⟩ (RW.preV (ci := 11) (q0 := 0) hZ hS (va_free (wc := [(y, .inr (11, MO yr yi1 ysb ybs1)), (yr 0, .inl (cT 0, 19, .inl fp)), (yr 45, .inl (cT 0, 6336, .inl ru7u10)), (yr 44, .inl (cT 0, 19, .inl gc7u10)), (yr 5, .inl (cT 0, 288, .inl vv)), (yr 7, .inl (cT 0, 66, .inl eg)), (yr 6, .inl (cT 3, 6, .inl ik)), (yr 8, .inl (cT 0, 6, .inl em)), (yr 36, .inl (cT 0, 302, .inl fb1)), (yr 30, .inl (cT 0, 302, .inl f8u10)), (yr 33, .inl (cT 0, 302, .inl kk1)), (yr 34, .inl (cT 0, 302, .inl kk2)), (yr 32, .inl (cT 0, 302, .inl kk3)), (yr 35, .inl (cT 0, 302, .inl kk4)), (yr 31, .inl (cT 0, 302, .inl kk5)), (yr 39, .inl (cT 0, 302, .inl kk6)), (yr 19, .inl (cT 0, 496, .inl ((tA FF) 0))), (yr 20, .inl (cT 0, 496, .inl ((tA FF) 1))), (yr 21, .inl (cT 3, 496, .inl ((tA FF) 2))), (yr 22, .inl (cT 0, 496, .inl ((tA FF) 3))), (yr 23, .inl (cT 0, 496, .inl ((tA FF) 4))), (yr 24, .inl (cT 0, 496, .inl ((tA FF) 5))), (yr 25, .inl (cT 0, 496, .inl ((tA FF) 6))), (yr 26, .inl (cT 3, 496, .inl ((tA FF) 7))), (yr 27, .inl (cT 0, 65472, .inl up1)), (yr 28, .inl (cT 0, 9424, .inl lw1)), (yr 40, .inl (cT 0, 19, .inl g7u10)), (yr 18, .inl (cT 0, 16, .inl (upd nm1 (T + k) 0))), (yr 56, .inl (cT 1, 12, .inr (.inl wr1))), (yr 57, .inl (cT 0, 12, .inl wd1)), (yr 58, .inl (cT 0, 12, .inl wa1)), (yr 59, .inl (cT 3, 12, .inl wl1))]) hD hS hA [17, 18, 24, 23, 32, 0, 1, 2, 3, 21, 4, 5, 6, 7, 8, 9, 29, 35, 33, 30, 31, 10, 11, 34, 27, 28, 20, 12, 13, 14, 15, 16] rfl) (hP.sub (ws' := [(y, .inr (11, MO yr yi1 ysb ybs1)), (yr 0, .inl (cT 0, 19, .inl fp)), (yr 45, .inl (cT 0, 6336, .inl ru7u10)), (yr 44, .inl (cT 0, 19, .inl gc7u10)), (yr 5, .inl (cT 0, 288, .inl vv)), (yr 7, .inl (cT 0, 66, .inl eg)), (yr 6, .inl (cT 3, 6, .inl ik)), (yr 8, .inl (cT 0, 6, .inl em)), (yr 36, .inl (cT 0, 302, .inl fb1)), (yr 30, .inl (cT 0, 302, .inl f8u10)), (yr 33, .inl (cT 0, 302, .inl kk1)), (yr 34, .inl (cT 0, 302, .inl kk2)), (yr 32, .inl (cT 0, 302, .inl kk3)), (yr 35, .inl (cT 0, 302, .inl kk4)), (yr 31, .inl (cT 0, 302, .inl kk5)), (yr 39, .inl (cT 0, 302, .inl kk6)), (yr 19, .inl (cT 0, 496, .inl ((tA FF) 0))), (yr 20, .inl (cT 0, 496, .inl ((tA FF) 1))), (yr 21, .inl (cT 3, 496, .inl ((tA FF) 2))), (yr 22, .inl (cT 0, 496, .inl ((tA FF) 3))), (yr 23, .inl (cT 0, 496, .inl ((tA FF) 4))), (yr 24, .inl (cT 0, 496, .inl ((tA FF) 5))), (yr 25, .inl (cT 0, 496, .inl ((tA FF) 6))), (yr 26, .inl (cT 3, 496, .inl ((tA FF) 7))), (yr 27, .inl (cT 0, 65472, .inl up1)), (yr 28, .inl (cT 0, 9424, .inl lw1)), (yr 40, .inl (cT 0, 19, .inl g7u10)), (yr 18, .inl (cT 0, 16, .inl (upd nm1 (T + k) 0))), (yr 56, .inl (cT 1, 12, .inr (.inl wr1))), (yr 57, .inl (cT 0, 12, .inl wd1)), (yr 58, .inl (cT 0, 12, .inl wa1)), (yr 59, .inl (cT 3, 12, .inl wl1))]) [17, 18, 24, 23, 32, 0, 1, 2, 3, 21, 4, 5, 6, 7, 8, 9, 29, 35, 33, 30, 31, 10, 11, 34, 27, 28, 20, 12, 13, 14, 15, 16] rfl) hK (hD.sub (ws' := [(y, .inr (11, MO yr yi1 ysb ybs1)), (yr 0, .inl (cT 0, 19, .inl fp)), (yr 45, .inl (cT 0, 6336, .inl ru7u10)), (yr 44, .inl (cT 0, 19, .inl gc7u10)), (yr 5, .inl (cT 0, 288, .inl vv)), (yr 7, .inl (cT 0, 66, .inl eg)), (yr 6, .inl (cT 3, 6, .inl ik)), (yr 8, .inl (cT 0, 6, .inl em)), (yr 36, .inl (cT 0, 302, .inl fb1)), (yr 30, .inl (cT 0, 302, .inl f8u10)), (yr 33, .inl (cT 0, 302, .inl kk1)), (yr 34, .inl (cT 0, 302, .inl kk2)), (yr 32, .inl (cT 0, 302, .inl kk3)), (yr 35, .inl (cT 0, 302, .inl kk4)), (yr 31, .inl (cT 0, 302, .inl kk5)), (yr 39, .inl (cT 0, 302, .inl kk6)), (yr 19, .inl (cT 0, 496, .inl ((tA FF) 0))), (yr 20, .inl (cT 0, 496, .inl ((tA FF) 1))), (yr 21, .inl (cT 3, 496, .inl ((tA FF) 2))), (yr 22, .inl (cT 0, 496, .inl ((tA FF) 3))), (yr 23, .inl (cT 0, 496, .inl ((tA FF) 4))), (yr 24, .inl (cT 0, 496, .inl ((tA FF) 5))), (yr 25, .inl (cT 0, 496, .inl ((tA FF) 6))), (yr 26, .inl (cT 3, 496, .inl ((tA FF) 7))), (yr 27, .inl (cT 0, 65472, .inl up1)), (yr 28, .inl (cT 0, 9424, .inl lw1)), (yr 40, .inl (cT 0, 19, .inl g7u10)), (yr 18, .inl (cT 0, 16, .inl (upd nm1 (T + k) 0))), (yr 56, .inl (cT 1, 12, .inr (.inl wr1))), (yr 57, .inl (cT 0, 12, .inl wd1)), (yr 58, .inl (cT 0, 12, .inl wa1)), (yr 59, .inl (cT 3, 12, .inl wl1))]) [17, 18, 24, 23, 32, 0, 1, 2, 3, 21, 4, 5, 6, 7, 8, 9, 29, 35, 33, 30, 31, 10, 11, 34, 27, 28, 20, 12, 13, 14, 15, 16] (by decide) rfl) rfl rfl) rfl rfl hl.1 rfl (lv_room (Nat.le_of_ble_eq_true rfl)) dM_train_125 ⟨Nat.le_of_ble_eq_true rfl, Nat.le_of_ble_eq_true rfl⟩) (fun u9 H locs hpu11 hP hD hS => ?_)
    obtain ⟨a87u11, m7u11, rs7u11, wr7u11, wd7u11, wa7u11, wl7u11, nm7u11, yi7u11, bs7u11, fb7u11, j0u11, j1u11, j2u11, j3u11, j4u11, j5u11, j6u11, up7u11, lw7u11, ol7u11⟩ := u9
    have hpu11 : (a87u11, m7u11, rs7u11) = gall (fun x8 => colF zr7u10 n w lst vv eg ik ne chb x8 wd) ik (31 * (T + k)) dpt 32 ((tA FF), 0, fun _ => 0) [((ysb &&& thr n), 0, (-1), vp_nar .boolean 0)] ∧ yi7u11 55 = nI 0 ∧ YK5 yi1 yi7u11 ∧ (nm7u11 (T + k) = nI m7u11 ∧ ∀ t8, t8 ≠ (T + k) → nm7u11 t8 = (upd nm1 (T + k) 0) t8) ∧ m7u11 ≤ 31 ∧ (∀ k8, k8 < m7u11 → NDF (fun x8 => colF zr7u10 n w lst vv eg ik ne chb x8 wd) (xR FF vv tg (T + k)) n w ru rl (Ppf FF (T + k)) (2 * 4096 + 40) (31 * (T + k)) up7u11 lw7u11 (a87u11 0) rs7u11 k8) ∧ ((∀ q8, q8 < 132 * (31 * (T + k)) → up7u11 q8 = up1 q8) ∧ (∀ q8, q8 < 19 * (31 * (T + k)) → lw7u11 q8 = lw1 q8) ∧ OLD8 a87u11 (tA FF) (31 * (T + k))) := hpu11
    have hP : va_P D vwCl [(yr 29, .inl (cT 0, 302, .inl f7u10)), (yr 41, .inl (cT 0, 19, .inl g8u10)), (yr 46, .inl (cT 0, 912, .inl rl7u10)), (yr 4, .inl (cT 0, 48, .inl tg)), (y, .inr (11, MO yr yi7u11 ysb bs7u11)), (yr 0, .inl (cT 0, 19, .inl fp)), (yr 45, .inl (cT 0, 6336, .inl ru7u10)), (yr 44, .inl (cT 0, 19, .inl gc7u10)), (yr 5, .inl (cT 0, 288, .inl vv)), (yr 7, .inl (cT 0, 66, .inl eg)), (yr 6, .inl (cT 3, 6, .inl ik)), (yr 8, .inl (cT 0, 6, .inl em)), (yr 36, .inl (cT 0, 302, .inl fb7u11)), (yr 30, .inl (cT 0, 302, .inl j0u11)), (yr 33, .inl (cT 0, 302, .inl j1u11)), (yr 34, .inl (cT 0, 302, .inl j2u11)), (yr 32, .inl (cT 0, 302, .inl j3u11)), (yr 35, .inl (cT 0, 302, .inl j4u11)), (yr 31, .inl (cT 0, 302, .inl j5u11)), (yr 39, .inl (cT 0, 302, .inl j6u11)), (yr 19, .inl (cT 0, 496, .inl (a87u11 0))), (yr 20, .inl (cT 0, 496, .inl (a87u11 1))), (yr 21, .inl (cT 3, 496, .inl (a87u11 2))), (yr 22, .inl (cT 0, 496, .inl (a87u11 3))), (yr 23, .inl (cT 0, 496, .inl (a87u11 4))), (yr 24, .inl (cT 0, 496, .inl (a87u11 5))), (yr 25, .inl (cT 0, 496, .inl (a87u11 6))), (yr 26, .inl (cT 3, 496, .inl (a87u11 7))), (yr 27, .inl (cT 0, 65472, .inl up7u11)), (yr 28, .inl (cT 0, 9424, .inl lw7u11)), (yr 40, .inl (cT 0, 19, .inl ol7u11)), (yr 18, .inl (cT 0, 16, .inl nm7u11)), (yr 56, .inl (cT 1, 12, .inr (.inl wr7u11))), (yr 57, .inl (cT 0, 12, .inl wd7u11)), (yr 58, .inl (cT 0, 12, .inl wa7u11)), (yr 59, .inl (cT 3, 12, .inl wl7u11))] _ := hP
    have hD : va_D A [(yr 29, .inl (cT 0, 302, .inl f7u10)), (yr 41, .inl (cT 0, 19, .inl g8u10)), (yr 46, .inl (cT 0, 912, .inl rl7u10)), (yr 4, .inl (cT 0, 48, .inl tg)), (y, .inr (11, MO yr yi7u11 ysb bs7u11)), (yr 0, .inl (cT 0, 19, .inl fp)), (yr 45, .inl (cT 0, 6336, .inl ru7u10)), (yr 44, .inl (cT 0, 19, .inl gc7u10)), (yr 5, .inl (cT 0, 288, .inl vv)), (yr 7, .inl (cT 0, 66, .inl eg)), (yr 6, .inl (cT 3, 6, .inl ik)), (yr 8, .inl (cT 0, 6, .inl em)), (yr 36, .inl (cT 0, 302, .inl fb7u11)), (yr 30, .inl (cT 0, 302, .inl j0u11)), (yr 33, .inl (cT 0, 302, .inl j1u11)), (yr 34, .inl (cT 0, 302, .inl j2u11)), (yr 32, .inl (cT 0, 302, .inl j3u11)), (yr 35, .inl (cT 0, 302, .inl j4u11)), (yr 31, .inl (cT 0, 302, .inl j5u11)), (yr 39, .inl (cT 0, 302, .inl j6u11)), (yr 19, .inl (cT 0, 496, .inl (a87u11 0))), (yr 20, .inl (cT 0, 496, .inl (a87u11 1))), (yr 21, .inl (cT 3, 496, .inl (a87u11 2))), (yr 22, .inl (cT 0, 496, .inl (a87u11 3))), (yr 23, .inl (cT 0, 496, .inl (a87u11 4))), (yr 24, .inl (cT 0, 496, .inl (a87u11 5))), (yr 25, .inl (cT 0, 496, .inl (a87u11 6))), (yr 26, .inl (cT 3, 496, .inl (a87u11 7))), (yr 27, .inl (cT 0, 65472, .inl up7u11)), (yr 28, .inl (cT 0, 9424, .inl lw7u11)), (yr 40, .inl (cT 0, 19, .inl ol7u11)), (yr 18, .inl (cT 0, 16, .inl nm7u11)), (yr 56, .inl (cT 1, 12, .inr (.inl wr7u11))), (yr 57, .inl (cT 0, 12, .inl wd7u11)), (yr 58, .inl (cT 0, 12, .inl wa7u11)), (yr 59, .inl (cT 3, 12, .inl wl7u11))] := hD
    obtain ⟨gE, g55, gy, gnm, gm, gF, go1, go2, go3⟩ := hpu11
    obtain ⟨F9, fA, fm, fE, fT, fR, fo⟩ := rd_all iT (by omega) hdp4.2 hn48 sub_thr hA0 hw20 hls2.1 hwd6 hr9 htg (fun i hi => (cM.1 i hi).2) dn_pos gE gm gF iR go1 go2
    have iM2 : ∀ t, t < T + k + 1 → nm7u11 t = nI (tM F9 t) := fun t ht => by
      by_cases q : t = T + k
      · rw [q, gnm.1, fm]
      · rw [gnm.2 t q, pk_un q, iM t (by omega), fo t (by omega)]
    subst fA
    have hl : lv_has ls 6 [(0, .ref y), (1, .int (nI rr)), (3, .int (nI T)), (4, .int 1), (5, .int (nI k))] := hl
    have hP : va_P D vwCl [(yr 29, .inl (cT 0, 302, .inl f7u10)), (yr 41, .inl (cT 0, 19, .inl g8u10)), (yr 46, .inl (cT 0, 912, .inl rl7u10)), (yr 4, .inl (cT 0, 48, .inl tg)), (y, .inr (11, MO yr yi7u11 ysb bs7u11)), (yr 0, .inl (cT 0, 19, .inl fp)), (yr 45, .inl (cT 0, 6336, .inl ru7u10)), (yr 44, .inl (cT 0, 19, .inl gc7u10)), (yr 5, .inl (cT 0, 288, .inl vv)), (yr 7, .inl (cT 0, 66, .inl eg)), (yr 6, .inl (cT 3, 6, .inl ik)), (yr 8, .inl (cT 0, 6, .inl em)), (yr 36, .inl (cT 0, 302, .inl fb7u11)), (yr 30, .inl (cT 0, 302, .inl j0u11)), (yr 33, .inl (cT 0, 302, .inl j1u11)), (yr 34, .inl (cT 0, 302, .inl j2u11)), (yr 32, .inl (cT 0, 302, .inl j3u11)), (yr 35, .inl (cT 0, 302, .inl j4u11)), (yr 31, .inl (cT 0, 302, .inl j5u11)), (yr 39, .inl (cT 0, 302, .inl j6u11)), (yr 19, .inl (cT 0, 496, .inl ((tA F9) 0))), (yr 20, .inl (cT 0, 496, .inl ((tA F9) 1))), (yr 21, .inl (cT 3, 496, .inl ((tA F9) 2))), (yr 22, .inl (cT 0, 496, .inl ((tA F9) 3))), (yr 23, .inl (cT 0, 496, .inl ((tA F9) 4))), (yr 24, .inl (cT 0, 496, .inl ((tA F9) 5))), (yr 25, .inl (cT 0, 496, .inl ((tA F9) 6))), (yr 26, .inl (cT 3, 496, .inl ((tA F9) 7))), (yr 27, .inl (cT 0, 65472, .inl up7u11)), (yr 28, .inl (cT 0, 9424, .inl lw7u11)), (yr 40, .inl (cT 0, 19, .inl ol7u11)), (yr 18, .inl (cT 0, 16, .inl nm7u11)), (yr 56, .inl (cT 1, 12, .inr (.inl wr7u11))), (yr 57, .inl (cT 0, 12, .inl wd7u11)), (yr 58, .inl (cT 0, 12, .inl wa7u11)), (yr 59, .inl (cT 3, 12, .inl wl7u11))] _ := hP
    have hD : va_D A [(yr 29, .inl (cT 0, 302, .inl f7u10)), (yr 41, .inl (cT 0, 19, .inl g8u10)), (yr 46, .inl (cT 0, 912, .inl rl7u10)), (yr 4, .inl (cT 0, 48, .inl tg)), (y, .inr (11, MO yr yi7u11 ysb bs7u11)), (yr 0, .inl (cT 0, 19, .inl fp)), (yr 45, .inl (cT 0, 6336, .inl ru7u10)), (yr 44, .inl (cT 0, 19, .inl gc7u10)), (yr 5, .inl (cT 0, 288, .inl vv)), (yr 7, .inl (cT 0, 66, .inl eg)), (yr 6, .inl (cT 3, 6, .inl ik)), (yr 8, .inl (cT 0, 6, .inl em)), (yr 36, .inl (cT 0, 302, .inl fb7u11)), (yr 30, .inl (cT 0, 302, .inl j0u11)), (yr 33, .inl (cT 0, 302, .inl j1u11)), (yr 34, .inl (cT 0, 302, .inl j2u11)), (yr 32, .inl (cT 0, 302, .inl j3u11)), (yr 35, .inl (cT 0, 302, .inl j4u11)), (yr 31, .inl (cT 0, 302, .inl j5u11)), (yr 39, .inl (cT 0, 302, .inl j6u11)), (yr 19, .inl (cT 0, 496, .inl ((tA F9) 0))), (yr 20, .inl (cT 0, 496, .inl ((tA F9) 1))), (yr 21, .inl (cT 3, 496, .inl ((tA F9) 2))), (yr 22, .inl (cT 0, 496, .inl ((tA F9) 3))), (yr 23, .inl (cT 0, 496, .inl ((tA F9) 4))), (yr 24, .inl (cT 0, 496, .inl ((tA F9) 5))), (yr 25, .inl (cT 0, 496, .inl ((tA F9) 6))), (yr 26, .inl (cT 3, 496, .inl ((tA F9) 7))), (yr 27, .inl (cT 0, 65472, .inl up7u11)), (yr 28, .inl (cT 0, 9424, .inl lw7u11)), (yr 40, .inl (cT 0, 19, .inl ol7u11)), (yr 18, .inl (cT 0, 16, .inl nm7u11)), (yr 56, .inl (cT 1, 12, .inr (.inl wr7u11))), (yr 57, .inl (cT 0, 12, .inl wd7u11)), (yr 58, .inl (cT 0, 12, .inl wa7u11)), (yr 59, .inl (cT 3, 12, .inl wl7u11))] := hD
    refine lv_aload_n hx hb dM_train_128 rfl (lv_at hl 0 rfl) ?_
    refine lv_dup hx hb dM_train_129 rfl ?_
    refine va_get (D := D) (ci := 11) (v := .int (yi7u11 17)) (C := R_M) (T := T_M) (N := 60) hx hb hT in_M hown hK hP 4 rfl rfl 17 (by decide) (hT _ w1121) (fun _ h9 => h9) rfl dM_train_130 ?_
    refine lv_topi (fun y9 e9 => ?_)
    cases (show y9 = nI (T + k) from e9.trans ((gy 17 (by decide) (by decide) (by decide) (by decide) (by decide)).trans i17))
    refine lv_iconst (v := 1) hx hb dM_train_133 (by decide) ?_
    refine lv_iadd hx hb dM_train_134 ?_
    refine lv_topi (fun y9 e9 => ?_)
    cases (show y9 = nI ((T + k) + 1) from e9.trans (nI_add (T + k) 1))
    refine va_put (D := D) (ci := 11) (v := .int (nI ((T + k) + 1))) (ty := .int) (C := R_M) (T := T_M) (N := 60) hx hb hT in_M ty_M ty_M_ok m_M hown hK hP hD hS 4 rfl rfl 17 (by decide) (hT _ w1121) (fun _ h9 => h9) rfl (by decide +kernel) rfl rfl (Nat.le_of_ble_eq_true rfl) dM_train_135 (fun H locs hP hD hS => ?_)
    have hP : va_P D vwCl [(yr 29, .inl (cT 0, 302, .inl f7u10)), (yr 41, .inl (cT 0, 19, .inl g8u10)), (yr 46, .inl (cT 0, 912, .inl rl7u10)), (yr 4, .inl (cT 0, 48, .inl tg)), (y, .inr (11, MO yr (va_up yi7u11 17 (nI ((T + k) + 1))) ysb bs7u11)), (yr 0, .inl (cT 0, 19, .inl fp)), (yr 45, .inl (cT 0, 6336, .inl ru7u10)), (yr 44, .inl (cT 0, 19, .inl gc7u10)), (yr 5, .inl (cT 0, 288, .inl vv)), (yr 7, .inl (cT 0, 66, .inl eg)), (yr 6, .inl (cT 3, 6, .inl ik)), (yr 8, .inl (cT 0, 6, .inl em)), (yr 36, .inl (cT 0, 302, .inl fb7u11)), (yr 30, .inl (cT 0, 302, .inl j0u11)), (yr 33, .inl (cT 0, 302, .inl j1u11)), (yr 34, .inl (cT 0, 302, .inl j2u11)), (yr 32, .inl (cT 0, 302, .inl j3u11)), (yr 35, .inl (cT 0, 302, .inl j4u11)), (yr 31, .inl (cT 0, 302, .inl j5u11)), (yr 39, .inl (cT 0, 302, .inl j6u11)), (yr 19, .inl (cT 0, 496, .inl ((tA F9) 0))), (yr 20, .inl (cT 0, 496, .inl ((tA F9) 1))), (yr 21, .inl (cT 3, 496, .inl ((tA F9) 2))), (yr 22, .inl (cT 0, 496, .inl ((tA F9) 3))), (yr 23, .inl (cT 0, 496, .inl ((tA F9) 4))), (yr 24, .inl (cT 0, 496, .inl ((tA F9) 5))), (yr 25, .inl (cT 0, 496, .inl ((tA F9) 6))), (yr 26, .inl (cT 3, 496, .inl ((tA F9) 7))), (yr 27, .inl (cT 0, 65472, .inl up7u11)), (yr 28, .inl (cT 0, 9424, .inl lw7u11)), (yr 40, .inl (cT 0, 19, .inl ol7u11)), (yr 18, .inl (cT 0, 16, .inl nm7u11)), (yr 56, .inl (cT 1, 12, .inr (.inl wr7u11))), (yr 57, .inl (cT 0, 12, .inl wd7u11)), (yr 58, .inl (cT 0, 12, .inl wa7u11)), (yr 59, .inl (cT 3, 12, .inl wl7u11))] _ := hP
    have hD : va_D A [(yr 29, .inl (cT 0, 302, .inl f7u10)), (yr 41, .inl (cT 0, 19, .inl g8u10)), (yr 46, .inl (cT 0, 912, .inl rl7u10)), (yr 4, .inl (cT 0, 48, .inl tg)), (y, .inr (11, MO yr (va_up yi7u11 17 (nI ((T + k) + 1))) ysb bs7u11)), (yr 0, .inl (cT 0, 19, .inl fp)), (yr 45, .inl (cT 0, 6336, .inl ru7u10)), (yr 44, .inl (cT 0, 19, .inl gc7u10)), (yr 5, .inl (cT 0, 288, .inl vv)), (yr 7, .inl (cT 0, 66, .inl eg)), (yr 6, .inl (cT 3, 6, .inl ik)), (yr 8, .inl (cT 0, 6, .inl em)), (yr 36, .inl (cT 0, 302, .inl fb7u11)), (yr 30, .inl (cT 0, 302, .inl j0u11)), (yr 33, .inl (cT 0, 302, .inl j1u11)), (yr 34, .inl (cT 0, 302, .inl j2u11)), (yr 32, .inl (cT 0, 302, .inl j3u11)), (yr 35, .inl (cT 0, 302, .inl j4u11)), (yr 31, .inl (cT 0, 302, .inl j5u11)), (yr 39, .inl (cT 0, 302, .inl j6u11)), (yr 19, .inl (cT 0, 496, .inl ((tA F9) 0))), (yr 20, .inl (cT 0, 496, .inl ((tA F9) 1))), (yr 21, .inl (cT 3, 496, .inl ((tA F9) 2))), (yr 22, .inl (cT 0, 496, .inl ((tA F9) 3))), (yr 23, .inl (cT 0, 496, .inl ((tA F9) 4))), (yr 24, .inl (cT 0, 496, .inl ((tA F9) 5))), (yr 25, .inl (cT 0, 496, .inl ((tA F9) 6))), (yr 26, .inl (cT 3, 496, .inl ((tA F9) 7))), (yr 27, .inl (cT 0, 65472, .inl up7u11)), (yr 28, .inl (cT 0, 9424, .inl lw7u11)), (yr 40, .inl (cT 0, 19, .inl ol7u11)), (yr 18, .inl (cT 0, 16, .inl nm7u11)), (yr 56, .inl (cT 1, 12, .inr (.inl wr7u11))), (yr 57, .inl (cT 0, 12, .inl wd7u11)), (yr 58, .inl (cT 0, 12, .inl wa7u11)), (yr 59, .inl (cT 3, 12, .inl wl7u11))] := hD
    refine lv_aload_n hx hb dM_train_138 rfl (lv_at hl 0 rfl) ?_
    refine rw_i (wc := [(y, .inr (11, MO yr (va_up yi7u11 17 (nI ((T + k) + 1))) ysb bs7u11)), (yr 0, .inl (cT 0, 19, .inl fp)), (yr 29, .inl (cT 0, 302, .inl f7u10)), (yr 40, .inl (cT 0, 19, .inl ol7u11)), (yr 30, .inl (cT 0, 302, .inl j0u11)), (yr 41, .inl (cT 0, 19, .inl g8u10)), (yr 44, .inl (cT 0, 19, .inl gc7u10)), (yr 45, .inl (cT 0, 6336, .inl ru7u10)), (yr 46, .inl (cT 0, 912, .inl rl7u10)), (yr 4, .inl (cT 0, 48, .inl tg)), (yr 27, .inl (cT 0, 65472, .inl up7u11)), (yr 28, .inl (cT 0, 9424, .inl lw7u11)), (yr 19, .inl (cT 0, 496, .inl ((tA F9) 0))), (yr 22, .inl (cT 0, 496, .inl ((tA F9) 3))), (yr 23, .inl (cT 0, 496, .inl ((tA F9) 4))), (yr 5, .inl (cT 0, 288, .inl vv)), (yr 21, .inl (cT 3, 496, .inl ((tA F9) 2))), (yr 26, .inl (cT 3, 496, .inl ((tA F9) 7))), (yr 20, .inl (cT 0, 496, .inl ((tA F9) 1)))]) (wr := [(yr 7, .inl (cT 0, 66, .inl eg)), (yr 6, .inl (cT 3, 6, .inl ik)), (yr 8, .inl (cT 0, 6, .inl em)), (yr 36, .inl (cT 0, 302, .inl fb7u11)), (yr 33, .inl (cT 0, 302, .inl j1u11)), (yr 34, .inl (cT 0, 302, .inl j2u11)), (yr 32, .inl (cT 0, 302, .inl j3u11)), (yr 35, .inl (cT 0, 302, .inl j4u11)), (yr 31, .inl (cT 0, 302, .inl j5u11)), (yr 39, .inl (cT 0, 302, .inl j6u11)), (yr 24, .inl (cT 0, 496, .inl ((tA F9) 5))), (yr 25, .inl (cT 0, 496, .inl ((tA F9) 6))), (yr 18, .inl (cT 0, 16, .inl nm7u11)), (yr 56, .inl (cT 1, 12, .inr (.inl wr7u11))), (yr 57, .inl (cT 0, 12, .inl wd7u11)), (yr 58, .inl (cT 0, 12, .inl wa7u11)), (yr 59, .inl (cT 3, 12, .inl wl7u11))]) hP hD hS hA [4, 5, 0, 30, 13, 1, 7, 6, 2, 3, 28, 29, 20, 23, 24, 8, 22, 27, 21] [9, 10, 11, 12, 14, 15, 16, 17, 18, 19, 25, 26, 31, 32, 33, 34, 35] rfl rfl (by decide) (by decide) (va_runV (As := []) (rest := []) ⟨hx, hb, hml, hown, hT⟩ (m_cbits l D cT y yr (va_up yi7u11 17 (nI ((T + k) + 1))) ysb bs7u11 fp ((tA F9) 0) ((tA F9) 3) ((tA F9) 4) ((tA F9) 2) ((tA F9) 7) ((tA F9) 1) vv up7u11 lw7u11 f7u10 ol7u11 j0u11 g8u10 gc7u10 ru7u10 rl7u10 (T + k + 1) n 4096 (tM F9) (fun t k => dg (tA F9 6) (31 * t + k)) (fun i t k => goF (tA F9) (rwf vv i) t k) (fun i t => lfF (tA F9) (rwf vv i) t) (Ppf F9) (sca F9) (fun i t => xF F9 (rwf vv i) (tg i).toInt t) (fun i t => lvf F9 t (lfF (tA F9) (rwf vv i) t)) PBc XBc tg hPR (yu (by decide) ((gy 3 (by decide) (by decide) (by decide) (by decide) (by decide)).trans ((iy 3 (by decide) (by decide) (by decide) (by decide) (by decide) (by decide) (by decide)).trans hn))) hn48 (va_up_self _ _ _) (by omega) (by decide) (fun i hi => ⟨rfl, htg i hi⟩) (fun i hi => chn_tok fT (by omega) (rwf vv i) (tg_b (htg i hi))) xbc_1.1 xbc_1.2.1 (fun t ht => (fT.2 t ht).1) fT.1 (fun i hi t ht k hk c hc he => rfn_go hc he) (fun i hi t ht => rfl) (fun i hi t ht => Nat.lt_of_lt_of_le (lfF_ok (fT.2 t ht) (rwf vv i)).1 (fT.2 t ht).1.2.1) (fun i hi t ht => rfn_lf fT (by omega) fR ht (lfF_ok (fT.2 t ht) (rwf vv i)).1 (lfF_ok (fT.2 t ht) (rwf vv i)).2) (fun g u zr hL hc => (cb_fit fT (by omega) hc).2) _) ⟨callB_of 0 hT (tb_gd w1523) rfl rfl rfl (hT _ w13) (hT _ w1520) hM_commonBits ⟨Nat.le_of_ble_eq_true rfl, Nat.le_of_ble_eq_true rfl⟩, (hT _ w1522), (hT _ wp59)⟩ (RW.preV (ci := 11) (q0 := 0) hZ hS (va_free (wc := [(y, .inr (11, MO yr (va_up yi7u11 17 (nI ((T + k) + 1))) ysb bs7u11)), (yr 0, .inl (cT 0, 19, .inl fp)), (yr 29, .inl (cT 0, 302, .inl f7u10)), (yr 40, .inl (cT 0, 19, .inl ol7u11)), (yr 30, .inl (cT 0, 302, .inl j0u11)), (yr 41, .inl (cT 0, 19, .inl g8u10)), (yr 44, .inl (cT 0, 19, .inl gc7u10)), (yr 45, .inl (cT 0, 6336, .inl ru7u10)), (yr 46, .inl (cT 0, 912, .inl rl7u10)), (yr 4, .inl (cT 0, 48, .inl tg)), (yr 27, .inl (cT 0, 65472, .inl up7u11)), (yr 28, .inl (cT 0, 9424, .inl lw7u11)), (yr 19, .inl (cT 0, 496, .inl ((tA F9) 0))), (yr 22, .inl (cT 0, 496, .inl ((tA F9) 3))), (yr 23, .inl (cT 0, 496, .inl ((tA F9) 4))), (yr 5, .inl (cT 0, 288, .inl vv)), (yr 21, .inl (cT 3, 496, .inl ((tA F9) 2))), (yr 26, .inl (cT 3, 496, .inl ((tA F9) 7))), (yr 20, .inl (cT 0, 496, .inl ((tA F9) 1)))]) hD hS hA [4, 5, 0, 30, 13, 1, 7, 6, 2, 3, 28, 29, 20, 23, 24, 8, 22, 27, 21] rfl) (hP.sub (ws' := [(y, .inr (11, MO yr (va_up yi7u11 17 (nI ((T + k) + 1))) ysb bs7u11)), (yr 0, .inl (cT 0, 19, .inl fp)), (yr 29, .inl (cT 0, 302, .inl f7u10)), (yr 40, .inl (cT 0, 19, .inl ol7u11)), (yr 30, .inl (cT 0, 302, .inl j0u11)), (yr 41, .inl (cT 0, 19, .inl g8u10)), (yr 44, .inl (cT 0, 19, .inl gc7u10)), (yr 45, .inl (cT 0, 6336, .inl ru7u10)), (yr 46, .inl (cT 0, 912, .inl rl7u10)), (yr 4, .inl (cT 0, 48, .inl tg)), (yr 27, .inl (cT 0, 65472, .inl up7u11)), (yr 28, .inl (cT 0, 9424, .inl lw7u11)), (yr 19, .inl (cT 0, 496, .inl ((tA F9) 0))), (yr 22, .inl (cT 0, 496, .inl ((tA F9) 3))), (yr 23, .inl (cT 0, 496, .inl ((tA F9) 4))), (yr 5, .inl (cT 0, 288, .inl vv)), (yr 21, .inl (cT 3, 496, .inl ((tA F9) 2))), (yr 26, .inl (cT 3, 496, .inl ((tA F9) 7))), (yr 20, .inl (cT 0, 496, .inl ((tA F9) 1)))]) [4, 5, 0, 30, 13, 1, 7, 6, 2, 3, 28, 29, 20, 23, 24, 8, 22, 27, 21] rfl) hK (hD.sub (ws' := [(y, .inr (11, MO yr (va_up yi7u11 17 (nI ((T + k) + 1))) ysb bs7u11)), (yr 0, .inl (cT 0, 19, .inl fp)), (yr 29, .inl (cT 0, 302, .inl f7u10)), (yr 40, .inl (cT 0, 19, .inl ol7u11)), (yr 30, .inl (cT 0, 302, .inl j0u11)), (yr 41, .inl (cT 0, 19, .inl g8u10)), (yr 44, .inl (cT 0, 19, .inl gc7u10)), (yr 45, .inl (cT 0, 6336, .inl ru7u10)), (yr 46, .inl (cT 0, 912, .inl rl7u10)), (yr 4, .inl (cT 0, 48, .inl tg)), (yr 27, .inl (cT 0, 65472, .inl up7u11)), (yr 28, .inl (cT 0, 9424, .inl lw7u11)), (yr 19, .inl (cT 0, 496, .inl ((tA F9) 0))), (yr 22, .inl (cT 0, 496, .inl ((tA F9) 3))), (yr 23, .inl (cT 0, 496, .inl ((tA F9) 4))), (yr 5, .inl (cT 0, 288, .inl vv)), (yr 21, .inl (cT 3, 496, .inl ((tA F9) 2))), (yr 26, .inl (cT 3, 496, .inl ((tA F9) 7))), (yr 20, .inl (cT 0, 496, .inl ((tA F9) 1)))]) [4, 5, 0, 30, 13, 1, 7, 6, 2, 3, 28, 29, 20, 23, 24, 8, 22, 27, 21] (by decide) rfl) rfl rfl) rfl rfl hl.1 rfl (lv_room (Nat.le_of_ble_eq_true rfl)) dM_train_139 ⟨Nat.le_of_ble_eq_true rfl, Nat.le_of_ble_eq_true rfl⟩) (fun ru12 u9 H locs hpu12 hP hD hS => ?_)
    obtain ⟨zr7u12, gc7u12, ru7u12, rl7u12, f7u12, g7u12, f8u12, g8u12⟩ := u9
    have hpu12 : ru12 = nI (bl (dn gc7u12)) ∧ LOK gc7u12 4096 ∧ COMM ru7u12 gc7u12 n zr7u12 (fun j8 => (fun i t => xF F9 (rwf vv i) (tg i).toInt t) j8 (T + k + 1)) ((Ppf F9) (T + k + 1)) := hpu12
    have hP : va_P D vwCl [(yr 7, .inl (cT 0, 66, .inl eg)), (yr 6, .inl (cT 3, 6, .inl ik)), (yr 8, .inl (cT 0, 6, .inl em)), (yr 36, .inl (cT 0, 302, .inl fb7u11)), (yr 33, .inl (cT 0, 302, .inl j1u11)), (yr 34, .inl (cT 0, 302, .inl j2u11)), (yr 32, .inl (cT 0, 302, .inl j3u11)), (yr 35, .inl (cT 0, 302, .inl j4u11)), (yr 31, .inl (cT 0, 302, .inl j5u11)), (yr 39, .inl (cT 0, 302, .inl j6u11)), (yr 24, .inl (cT 0, 496, .inl ((tA F9) 5))), (yr 25, .inl (cT 0, 496, .inl ((tA F9) 6))), (yr 18, .inl (cT 0, 16, .inl nm7u11)), (yr 56, .inl (cT 1, 12, .inr (.inl wr7u11))), (yr 57, .inl (cT 0, 12, .inl wd7u11)), (yr 58, .inl (cT 0, 12, .inl wa7u11)), (yr 59, .inl (cT 3, 12, .inl wl7u11)), (y, .inr (11, MO yr (va_up yi7u11 17 (nI ((T + k) + 1))) ysb bs7u11)), (yr 0, .inl (cT 0, 19, .inl fp)), (yr 29, .inl (cT 0, 302, .inl f7u12)), (yr 40, .inl (cT 0, 19, .inl g7u12)), (yr 30, .inl (cT 0, 302, .inl f8u12)), (yr 41, .inl (cT 0, 19, .inl g8u12)), (yr 44, .inl (cT 0, 19, .inl gc7u12)), (yr 45, .inl (cT 0, 6336, .inl ru7u12)), (yr 46, .inl (cT 0, 912, .inl rl7u12)), (yr 4, .inl (cT 0, 48, .inl tg)), (yr 27, .inl (cT 0, 65472, .inl up7u11)), (yr 28, .inl (cT 0, 9424, .inl lw7u11)), (yr 19, .inl (cT 0, 496, .inl ((tA F9) 0))), (yr 22, .inl (cT 0, 496, .inl ((tA F9) 3))), (yr 23, .inl (cT 0, 496, .inl ((tA F9) 4))), (yr 5, .inl (cT 0, 288, .inl vv)), (yr 21, .inl (cT 3, 496, .inl ((tA F9) 2))), (yr 26, .inl (cT 3, 496, .inl ((tA F9) 7))), (yr 20, .inl (cT 0, 496, .inl ((tA F9) 1)))] _ := hP
    have hD : va_D A [(yr 7, .inl (cT 0, 66, .inl eg)), (yr 6, .inl (cT 3, 6, .inl ik)), (yr 8, .inl (cT 0, 6, .inl em)), (yr 36, .inl (cT 0, 302, .inl fb7u11)), (yr 33, .inl (cT 0, 302, .inl j1u11)), (yr 34, .inl (cT 0, 302, .inl j2u11)), (yr 32, .inl (cT 0, 302, .inl j3u11)), (yr 35, .inl (cT 0, 302, .inl j4u11)), (yr 31, .inl (cT 0, 302, .inl j5u11)), (yr 39, .inl (cT 0, 302, .inl j6u11)), (yr 24, .inl (cT 0, 496, .inl ((tA F9) 5))), (yr 25, .inl (cT 0, 496, .inl ((tA F9) 6))), (yr 18, .inl (cT 0, 16, .inl nm7u11)), (yr 56, .inl (cT 1, 12, .inr (.inl wr7u11))), (yr 57, .inl (cT 0, 12, .inl wd7u11)), (yr 58, .inl (cT 0, 12, .inl wa7u11)), (yr 59, .inl (cT 3, 12, .inl wl7u11)), (y, .inr (11, MO yr (va_up yi7u11 17 (nI ((T + k) + 1))) ysb bs7u11)), (yr 0, .inl (cT 0, 19, .inl fp)), (yr 29, .inl (cT 0, 302, .inl f7u12)), (yr 40, .inl (cT 0, 19, .inl g7u12)), (yr 30, .inl (cT 0, 302, .inl f8u12)), (yr 41, .inl (cT 0, 19, .inl g8u12)), (yr 44, .inl (cT 0, 19, .inl gc7u12)), (yr 45, .inl (cT 0, 6336, .inl ru7u12)), (yr 46, .inl (cT 0, 912, .inl rl7u12)), (yr 4, .inl (cT 0, 48, .inl tg)), (yr 27, .inl (cT 0, 65472, .inl up7u11)), (yr 28, .inl (cT 0, 9424, .inl lw7u11)), (yr 19, .inl (cT 0, 496, .inl ((tA F9) 0))), (yr 22, .inl (cT 0, 496, .inl ((tA F9) 3))), (yr 23, .inl (cT 0, 496, .inl ((tA F9) 4))), (yr 5, .inl (cT 0, 288, .inl vv)), (yr 21, .inl (cT 3, 496, .inl ((tA F9) 2))), (yr 26, .inl (cT 3, 496, .inl ((tA F9) 7))), (yr 20, .inl (cT 0, 496, .inl ((tA F9) 1)))] := hD
    obtain ⟨c1, c2, c3⟩ := hpu12
    have c4 := bl_pbc (cb_fit fT (by omega) c3).1
    refine lv_topi (fun y9 e9 => ?_)
    cases (show y9 = nI (bl (dn gc7u12)) from e9.trans c1)
    refine lv_sipush (v := 1500) hx hb dM_train_142 (by decide) ?_
    refine lv_icmp_gt (tgt := 152) hx hb dM_train_145 rfl (fun h13 => absurd h13 (fun q => absurd ((nI_ltI (a := 1500) (b := bl (dn gc7u12)) (by decide) (by omega)).mp q) (by omega))) (fun _ => ?_)
    refine lv_iconst (v := 1) hx hb dM_train_148 (by decide) ?_
    refine lv_goto (tgt := 153) hx hb dM_train_149 rfl ?_
    refine lv_istore hx hb dM_train_153 hl (by decide) rfl (fun ls hl => ?_)
    have hl : lv_has ls 6 [(4, .int 1), (0, .ref y), (1, .int (nI rr)), (3, .int (nI T)), (5, .int (nI k))] := hl
    refine lv_aload_n hx hb dM_train_155 rfl (lv_at hl 1 rfl) ?_
    refine lv_dup hx hb dM_train_156 rfl ?_
    refine va_get (D := D) (ci := 11) (v := .int ((va_up yi7u11 17 (nI ((T + k) + 1))) 17)) (C := R_M) (T := T_M) (N := 60) hx hb hT in_M hown hK hP 17 rfl rfl 17 (by decide) (hT _ w1121) (fun _ h9 => h9) rfl dM_train_157 ?_
    refine lv_iload hx hb dM_train_160 (lv_at hl 0 rfl) ?_
    refine lv_if_eq (tgt := 169) hx hb dM_train_162 rfl (fun h14 => absurd h14 (by decide)) (fun _ => ?_)
    refine lv_iconst (v := 0) hx hb dM_train_165 (by decide) ?_
    refine lv_goto (tgt := 170) hx hb dM_train_166 rfl ?_
    refine lv_isub hx hb dM_train_170 ?_
    refine lv_topi (fun y9 e9 => ?_)
    cases (show y9 = nI (T + k + 1) from e9.trans (congrArg nI (Nat.sub_zero _)))
    refine va_put (D := D) (ci := 11) (v := .int (nI (T + k + 1))) (ty := .int) (C := R_M) (T := T_M) (N := 60) hx hb hT in_M ty_M ty_M_ok m_M hown hK hP hD hS 17 rfl rfl 17 (by decide) (hT _ w1121) (fun _ h9 => h9) rfl (by decide +kernel) rfl rfl (Nat.le_of_ble_eq_true rfl) dM_train_171 (fun H locs hP hD hS => ?_)
    have hP : va_P D vwCl [(yr 7, .inl (cT 0, 66, .inl eg)), (yr 6, .inl (cT 3, 6, .inl ik)), (yr 8, .inl (cT 0, 6, .inl em)), (yr 36, .inl (cT 0, 302, .inl fb7u11)), (yr 33, .inl (cT 0, 302, .inl j1u11)), (yr 34, .inl (cT 0, 302, .inl j2u11)), (yr 32, .inl (cT 0, 302, .inl j3u11)), (yr 35, .inl (cT 0, 302, .inl j4u11)), (yr 31, .inl (cT 0, 302, .inl j5u11)), (yr 39, .inl (cT 0, 302, .inl j6u11)), (yr 24, .inl (cT 0, 496, .inl ((tA F9) 5))), (yr 25, .inl (cT 0, 496, .inl ((tA F9) 6))), (yr 18, .inl (cT 0, 16, .inl nm7u11)), (yr 56, .inl (cT 1, 12, .inr (.inl wr7u11))), (yr 57, .inl (cT 0, 12, .inl wd7u11)), (yr 58, .inl (cT 0, 12, .inl wa7u11)), (yr 59, .inl (cT 3, 12, .inl wl7u11)), (y, .inr (11, MO yr (va_up (va_up yi7u11 17 (nI ((T + k) + 1))) 17 (nI (T + k + 1))) ysb bs7u11)), (yr 0, .inl (cT 0, 19, .inl fp)), (yr 29, .inl (cT 0, 302, .inl f7u12)), (yr 40, .inl (cT 0, 19, .inl g7u12)), (yr 30, .inl (cT 0, 302, .inl f8u12)), (yr 41, .inl (cT 0, 19, .inl g8u12)), (yr 44, .inl (cT 0, 19, .inl gc7u12)), (yr 45, .inl (cT 0, 6336, .inl ru7u12)), (yr 46, .inl (cT 0, 912, .inl rl7u12)), (yr 4, .inl (cT 0, 48, .inl tg)), (yr 27, .inl (cT 0, 65472, .inl up7u11)), (yr 28, .inl (cT 0, 9424, .inl lw7u11)), (yr 19, .inl (cT 0, 496, .inl ((tA F9) 0))), (yr 22, .inl (cT 0, 496, .inl ((tA F9) 3))), (yr 23, .inl (cT 0, 496, .inl ((tA F9) 4))), (yr 5, .inl (cT 0, 288, .inl vv)), (yr 21, .inl (cT 3, 496, .inl ((tA F9) 2))), (yr 26, .inl (cT 3, 496, .inl ((tA F9) 7))), (yr 20, .inl (cT 0, 496, .inl ((tA F9) 1)))] _ := hP
    have hD : va_D A [(yr 7, .inl (cT 0, 66, .inl eg)), (yr 6, .inl (cT 3, 6, .inl ik)), (yr 8, .inl (cT 0, 6, .inl em)), (yr 36, .inl (cT 0, 302, .inl fb7u11)), (yr 33, .inl (cT 0, 302, .inl j1u11)), (yr 34, .inl (cT 0, 302, .inl j2u11)), (yr 32, .inl (cT 0, 302, .inl j3u11)), (yr 35, .inl (cT 0, 302, .inl j4u11)), (yr 31, .inl (cT 0, 302, .inl j5u11)), (yr 39, .inl (cT 0, 302, .inl j6u11)), (yr 24, .inl (cT 0, 496, .inl ((tA F9) 5))), (yr 25, .inl (cT 0, 496, .inl ((tA F9) 6))), (yr 18, .inl (cT 0, 16, .inl nm7u11)), (yr 56, .inl (cT 1, 12, .inr (.inl wr7u11))), (yr 57, .inl (cT 0, 12, .inl wd7u11)), (yr 58, .inl (cT 0, 12, .inl wa7u11)), (yr 59, .inl (cT 3, 12, .inl wl7u11)), (y, .inr (11, MO yr (va_up (va_up yi7u11 17 (nI ((T + k) + 1))) 17 (nI (T + k + 1))) ysb bs7u11)), (yr 0, .inl (cT 0, 19, .inl fp)), (yr 29, .inl (cT 0, 302, .inl f7u12)), (yr 40, .inl (cT 0, 19, .inl g7u12)), (yr 30, .inl (cT 0, 302, .inl f8u12)), (yr 41, .inl (cT 0, 19, .inl g8u12)), (yr 44, .inl (cT 0, 19, .inl gc7u12)), (yr 45, .inl (cT 0, 6336, .inl ru7u12)), (yr 46, .inl (cT 0, 912, .inl rl7u12)), (yr 4, .inl (cT 0, 48, .inl tg)), (yr 27, .inl (cT 0, 65472, .inl up7u11)), (yr 28, .inl (cT 0, 9424, .inl lw7u11)), (yr 19, .inl (cT 0, 496, .inl ((tA F9) 0))), (yr 22, .inl (cT 0, 496, .inl ((tA F9) 3))), (yr 23, .inl (cT 0, 496, .inl ((tA F9) 4))), (yr 5, .inl (cT 0, 288, .inl vv)), (yr 21, .inl (cT 3, 496, .inl ((tA F9) 2))), (yr 26, .inl (cT 3, 496, .inl ((tA F9) 7))), (yr 20, .inl (cT 0, 496, .inl ((tA F9) 1)))] := hD
    refine lv_iinc (k := 4) (v := nI (k + 1)) hx hb dM_train_174 hl rfl (nI_1 k) (by decide) rfl (fun ls hl => ?_)
    have hl : lv_has ls 6 [(5, .int (nI (k + 1))), (4, .int 1), (0, .ref y), (1, .int (nI rr)), (3, .int (nI T))] := hl
    refine lv_goto (tgt := 90) hx hb dM_train_177 rfl ?_
    exact ih90 (k + 1, F9, va_up (va_up yi7u11 17 (nI ((T + k) + 1))) 17 (nI (T + k + 1)), bs7u11, nm7u11, up7u11, lw7u11, gc7u12, ru7u12, rl7u12, f7u12, g7u12, g8u12, f8u12, j1u11, j2u11, j3u11, j4u11, j5u11, j6u11, fb7u11, wr7u11, wd7u11, wa7u11, wl7u11) (show (k + 1) ≤ rr ∧ F9 = rds F T n w lst dpt wd ru rl vv eg ik ne chb (ysb &&& thr n) tg (k + 1) ∧ TOK F9 (T + (k + 1)) ∧ RFN F9 (T + (k + 1)) up7u11 lw7u11 ∧ (∀ t, t < T + (k + 1) → nm7u11 t = nI (tM F9 t)) ∧ (va_up (va_up yi7u11 17 (nI ((T + k) + 1))) 17 (nI (T + k + 1))) 17 = nI (T + (k + 1)) ∧ (va_up (va_up yi7u11 17 (nI ((T + k) + 1))) 17 (nI (T + k + 1))) 55 = nI 0 ∧ (va_up (va_up yi7u11 17 (nI ((T + k) + 1))) 17 (nI (T + k + 1))) 1 = 0 ∧ YK6 yi (va_up (va_up yi7u11 17 (nI ((T + k) + 1))) 17 (nI (T + k + 1))) from ⟨by omega, (by rw [fE, iE]; rfl), fT, fR, iM2, va_up_self _ _ _, yu (by decide) g55, yu (by decide) ((gy 1 (by decide) (by decide) (by decide) (by decide) (by decide)).trans i1), fun j h1 h2 h3 h4 h5 h6 h7 => (va_up_ne _ _ h2).trans ((gy j h3 h4 h5 h6 h7).trans (iy j h1 h2 h3 h4 h5 h6 h7))⟩) (show rr - (k + 1) < rr - k from (by omega)) ls H locs (lv_sub hl [2, 3, 4, 1, 0] rfl) (hP.sub (ws' := [(yr 0, .inl (cT 0, 19, .inl fp)), (yr 29, .inl (cT 0, 302, .inl f7u12)), (yr 40, .inl (cT 0, 19, .inl g7u12)), (yr 41, .inl (cT 0, 19, .inl g8u12)), (yr 44, .inl (cT 0, 19, .inl gc7u12)), (yr 45, .inl (cT 0, 6336, .inl ru7u12)), (yr 46, .inl (cT 0, 912, .inl rl7u12)), (yr 4, .inl (cT 0, 48, .inl tg)), (yr 5, .inl (cT 0, 288, .inl vv)), (yr 7, .inl (cT 0, 66, .inl eg)), (yr 6, .inl (cT 3, 6, .inl ik)), (yr 8, .inl (cT 0, 6, .inl em)), (yr 36, .inl (cT 0, 302, .inl fb7u11)), (yr 30, .inl (cT 0, 302, .inl f8u12)), (yr 33, .inl (cT 0, 302, .inl j1u11)), (yr 34, .inl (cT 0, 302, .inl j2u11)), (yr 32, .inl (cT 0, 302, .inl j3u11)), (yr 35, .inl (cT 0, 302, .inl j4u11)), (yr 31, .inl (cT 0, 302, .inl j5u11)), (yr 39, .inl (cT 0, 302, .inl j6u11)), (yr 19, .inl (cT 0, 496, .inl ((tA F9) 0))), (yr 20, .inl (cT 0, 496, .inl ((tA F9) 1))), (yr 21, .inl (cT 3, 496, .inl ((tA F9) 2))), (yr 22, .inl (cT 0, 496, .inl ((tA F9) 3))), (yr 23, .inl (cT 0, 496, .inl ((tA F9) 4))), (yr 24, .inl (cT 0, 496, .inl ((tA F9) 5))), (yr 25, .inl (cT 0, 496, .inl ((tA F9) 6))), (yr 26, .inl (cT 3, 496, .inl ((tA F9) 7))), (yr 27, .inl (cT 0, 65472, .inl up7u11)), (yr 28, .inl (cT 0, 9424, .inl lw7u11)), (yr 18, .inl (cT 0, 16, .inl nm7u11)), (yr 56, .inl (cT 1, 12, .inr (.inl wr7u11))), (yr 57, .inl (cT 0, 12, .inl wd7u11)), (yr 58, .inl (cT 0, 12, .inl wa7u11)), (yr 59, .inl (cT 3, 12, .inl wl7u11)), (y, .inr (11, MO yr (va_up (va_up yi7u11 17 (nI ((T + k) + 1))) 17 (nI (T + k + 1))) ysb bs7u11))]) [18, 19, 20, 22, 23, 24, 25, 26, 32, 0, 1, 2, 3, 21, 4, 5, 6, 7, 8, 9, 29, 35, 33, 30, 31, 10, 11, 34, 27, 28, 12, 13, 14, 15, 16, 17] rfl) (hD.sub (ws' := [(yr 0, .inl (cT 0, 19, .inl fp)), (yr 29, .inl (cT 0, 302, .inl f7u12)), (yr 40, .inl (cT 0, 19, .inl g7u12)), (yr 41, .inl (cT 0, 19, .inl g8u12)), (yr 44, .inl (cT 0, 19, .inl gc7u12)), (yr 45, .inl (cT 0, 6336, .inl ru7u12)), (yr 46, .inl (cT 0, 912, .inl rl7u12)), (yr 4, .inl (cT 0, 48, .inl tg)), (yr 5, .inl (cT 0, 288, .inl vv)), (yr 7, .inl (cT 0, 66, .inl eg)), (yr 6, .inl (cT 3, 6, .inl ik)), (yr 8, .inl (cT 0, 6, .inl em)), (yr 36, .inl (cT 0, 302, .inl fb7u11)), (yr 30, .inl (cT 0, 302, .inl f8u12)), (yr 33, .inl (cT 0, 302, .inl j1u11)), (yr 34, .inl (cT 0, 302, .inl j2u11)), (yr 32, .inl (cT 0, 302, .inl j3u11)), (yr 35, .inl (cT 0, 302, .inl j4u11)), (yr 31, .inl (cT 0, 302, .inl j5u11)), (yr 39, .inl (cT 0, 302, .inl j6u11)), (yr 19, .inl (cT 0, 496, .inl ((tA F9) 0))), (yr 20, .inl (cT 0, 496, .inl ((tA F9) 1))), (yr 21, .inl (cT 3, 496, .inl ((tA F9) 2))), (yr 22, .inl (cT 0, 496, .inl ((tA F9) 3))), (yr 23, .inl (cT 0, 496, .inl ((tA F9) 4))), (yr 24, .inl (cT 0, 496, .inl ((tA F9) 5))), (yr 25, .inl (cT 0, 496, .inl ((tA F9) 6))), (yr 26, .inl (cT 3, 496, .inl ((tA F9) 7))), (yr 27, .inl (cT 0, 65472, .inl up7u11)), (yr 28, .inl (cT 0, 9424, .inl lw7u11)), (yr 18, .inl (cT 0, 16, .inl nm7u11)), (yr 56, .inl (cT 1, 12, .inr (.inl wr7u11))), (yr 57, .inl (cT 0, 12, .inl wd7u11)), (yr 58, .inl (cT 0, 12, .inl wa7u11)), (yr 59, .inl (cT 3, 12, .inl wl7u11)), (y, .inr (11, MO yr (va_up (va_up yi7u11 17 (nI ((T + k) + 1))) 17 (nI (T + k + 1))) ysb bs7u11))]) [18, 19, 20, 22, 23, 24, 25, 26, 32, 0, 1, 2, 3, 21, 4, 5, 6, 7, 8, 9, 29, 35, 33, 30, 31, 10, 11, 34, 27, 28, 12, 13, 14, 15, 16, 17] (by decide) rfl) hS
set_option maxHeartbeats 4000000 in
set_option maxRecDepth 100000 in
theorem y_train_no1 (l : Launch) (D : va_G) (cT : Nat → ClassId) (y : Nat) (yr : Nat → Nat) (yi : Nat → Int32) (ysb : Int64) (ybs : Int64) (n : Nat) (v : Int32) (hn : yi 3 = nI n) (hn48 : n ≤ 48) (hq : ¬ (1 ≤ v ∧ v ≤ 16)) (sz : Nat) : Met l yM_train WM_train ({ frames := 1, cells := 0, slots := 0, locals := 22 } : Room) (RW D vwCl [.ref y, .int v] [(y, .inr (11, MO yr yi ysb ybs))] (TY cT) sz) (va_Qi (fun (r9 : Int32) (u9 : Unit) => r9 = 0) (BW D vwCl (va_A [(y, .inr (11, MO yr yi ysb ybs))] sz) (fun u9 : Unit => [(y, .inr (11, MO yr (va_up yi 1 1) ysb ybs))])) (va_A [(y, .inr (11, MO yr yi ysb ybs))] sz)) 0 0 (va_A [(y, .inr (11, MO yr yi ysb ybs))] sz) := by
  refine Met.ofW (cc := cM_train) (maxL := 6) (ret := (some .int)) (by decide) rfl ?_
  intro p e s m args below meth c s₁ B hml hv
  obtain ⟨rfl, hsz, hZ, hP, hK, hD0⟩ := hv
  have hx := B.exec
  have hb := B.bytes
  have hr := B.returns
  have hts := atoms_spec (ws := WM_train) B.pre
  have hT : ∀ w ∈ TB, w.before _ s = true := fun w h => hts w (List.mem_cons_of_mem _ h)
  have hown : s.vm.findClass R_M = some m.cls := findClass_of_methodNamed B.named
  have hlocks := B.notSynchronized
  subst hsz
  have hD := hD0.self (sz := s.heap.size)
  generalize hAe : va_A [(y, .inr (11, MO yr yi ysb ybs))] s.heap.size = A at hD hZ ⊢
  have hA : ∀ q : Nat, s.heap.size ≤ q → A q := fun q h => by rw [← hAe]; exact Or.inr h
  have hS : va_S A s.heap s.heap [] := va_S.rf
  have hl := lv_entry ([.ref y, .int v]) (n := 6) (Nat.le_of_ble_eq_true rfl)
  rw [lg_entry_eq]
  generalize (lg_sl ([.ref y, .int v]) ++ List.replicate (6 - (lg_sl ([.ref y, .int v])).length) Slot.unset).toArray = ls at hl ⊢
  have hl : lv_has ls 6 [(0, .ref y), (1, .int v)] := hl
  refine lv_aload_n hx hb dM_train_0 rfl (lv_at hl 0 rfl) ?_
  refine va_get (D := D) (ci := 11) (v := .long ysb) (C := R_M) (T := T_M) (N := 60) hx hb hT in_M hown hK hP 0 rfl rfl 15 (by decide) (hT _ w1119) (fun _ h9 => h9) rfl dM_train_1 ?_
  refine lv_aload_n hx hb dM_train_4 rfl (lv_at hl 0 rfl) ?_
  refine ro_l (va_Run.run (va_runV (As := []) (rest := [.long ysb]) ⟨hx, hb, hml, hown, hT⟩ (m_there l D cT y yr yi ysb ybs n hn hn48) ⟨callB_of 0 hT (tb_gd w1366) rfl rfl rfl (hT _ w13) (hT _ w1363) hM_there ⟨Nat.le_of_ble_eq_true rfl, Nat.le_of_ble_eq_true rfl⟩, (hT _ w1365), (hT _ wp34)⟩ (RO.preV (ci := 11) (q0 := 0) hZ hS (hP.sub (ws' := [(y, .inr (11, MO yr yi ysb ybs))]) [0] rfl) hK rfl rfl) rfl rfl hl.1 rfl (lv_room (Nat.le_of_ble_eq_true rfl)) dM_train_5 ⟨Nat.le_of_ble_eq_true rfl, Nat.le_of_ble_eq_true rfl⟩)) ?_
  refine lv_land hx hb dM_train_8 ?_
  refine lv_lconst (v := 0) hx hb dM_train_9 (by decide) ?_
  refine W.lcmp hx hb dM_train_10 ?_
  refine lv_if_eq (tgt := 30) hx hb dM_train_11 rfl (fun h1 => ?_) (fun h1 => ?_)
  · refine lv_iconst (v := 1) hx hb dM_train_30 (by decide) ?_
    refine lv_goto (tgt := 35) hx hb dM_train_31 rfl ?_
    refine lv_istore_n hx hb dM_train_35 rfl hl (by decide) rfl (fun ls hl => ?_)
    have hl : lv_has ls 6 [(2, .int 1), (0, .ref y), (1, .int v)] := hl
    refine lv_aload_n hx hb dM_train_36 rfl (lv_at hl 1 rfl) ?_
    refine lv_iload_n hx hb dM_train_37 rfl (lv_at hl 2 rfl) ?_
    refine lv_iconst (v := 1) hx hb dM_train_38 (by decide) ?_
    refine lv_bipush (v := 16) hx hb dM_train_39 (by decide) ?_
    refine ro_i (va_Run.run (va_runS (As := [.int v, .int 1, .int 16]) (rest := [.ref y]) ⟨hx, hb, hml, hown, hT⟩ (m_in l D cT v 1 16) ⟨callB_of 3 hT (tb_gd w1297) rfl rfl rfl (hT _ w13) (hT _ w1295) hM_in ⟨Nat.le_of_ble_eq_true rfl, Nat.le_of_ble_eq_true rfl⟩, (hT _ w1296)⟩ (RO.preS hZ hS ((show va_P D vwCl [] _ from fun _ _ h => nomatch h)) hK) rfl rfl hl.1 rfl (lv_room (Nat.le_of_ble_eq_true rfl)) dM_train_41 ⟨Nat.le_of_ble_eq_true rfl, Nat.le_of_ble_eq_true rfl⟩)) ?_
    refine lv_if_ne (tgt := 51) hx hb dM_train_44 rfl (fun h2 => absurd (bi_f hq) h2) (fun _ => ?_)
    refine lv_iconst (v := 1) hx hb dM_train_47 (by decide) ?_
    refine lv_goto (tgt := 71) hx hb dM_train_48 rfl ?_
    refine rw_i (wc := [(y, .inr (11, MO yr yi ysb ybs))]) (wr := []) hP hD hS hA [0] [] rfl rfl (by decide) (by decide) (va_runV (As := [.int 1]) (rest := []) ⟨hx, hb, hml, hown, hT⟩ (m_ref1 l D cT y yr yi ysb ybs _) ⟨callB_of 1 hT (tb_gd w1301) rfl rfl rfl (hT _ w13) (hT _ w1298) hM_refused ⟨Nat.le_of_ble_eq_true rfl, Nat.le_of_ble_eq_true rfl⟩, (hT _ w1300), (hT _ wp29)⟩ (RW.preV (ci := 11) (q0 := 0) hZ hS (va_free (wc := [(y, .inr (11, MO yr yi ysb ybs))]) hD hS hA [0] rfl) (hP.sub (ws' := [(y, .inr (11, MO yr yi ysb ybs))]) [0] rfl) hK (hD.sub (ws' := [(y, .inr (11, MO yr yi ysb ybs))]) [0] (by decide) rfl) rfl rfl) rfl rfl hl.1 rfl (lv_room (Nat.le_of_ble_eq_true rfl)) dM_train_71 ⟨Nat.le_of_ble_eq_true rfl, Nat.le_of_ble_eq_true rfl⟩) (fun ru3 u9 H locs hpu3 hP hD hS => ?_)
    have hpu3 : ru3 = 1 := hpu3
    have hP : va_P D vwCl [(y, .inr (11, MO yr (va_up yi 1 1) ysb ybs))] _ := hP
    have hD : va_D A [(y, .inr (11, MO yr (va_up yi 1 1) ysb ybs))] := hD
    refine lv_topi (fun y9 e9 => ?_)
    cases (show y9 = 1 from e9.trans hpu3)
    refine lv_if_eq (tgt := 79) hx hb dM_train_74 rfl (fun h4 => absurd h4 (by decide)) (fun _ => ?_)
    refine lv_iconst (v := 0) hx hb dM_train_77 (by decide) ?_
    have hP9 := hP.sub (ws' := [(y, .inr (11, MO yr (va_up yi 1 1) ysb ybs))]) [0] rfl
    have hD9 := hD.sub (ws' := [(y, .inr (11, MO yr (va_up yi 1 1) ysb ybs))]) [0] (by decide) rfl
    refine W.widen (k := 0) (n := 0) (Nat.le_of_ble_eq_true rfl) (Nat.le_of_ble_eq_true rfl) ?_
    exact W.iret (v := 0) hx hb hr (fun t9 ht9 hW9 => ⟨⟨0, (), rfl, (show 0 = 0 from rfl), by rw [ht9]; exact hP9, hD9⟩, hS.F ht9⟩) hS.2.2 dM_train_78
  · refine lv_aload_n hx hb dM_train_14 rfl (lv_at hl 0 rfl) ?_
    refine va_get (D := D) (ci := 11) (v := .int (yi 16)) (C := R_M) (T := T_M) (N := 60) hx hb hT in_M hown hK hP 0 rfl rfl 16 (by decide) (hT _ w1120) (fun _ h9 => h9) rfl dM_train_15 ?_
    refine lv_iconst (v := 1) hx hb dM_train_18 (by decide) ?_
    refine lv_aload_n hx hb dM_train_19 rfl (lv_at hl 0 rfl) ?_
    refine va_get (D := D) (ci := 11) (v := .int (yi 2)) (C := R_M) (T := T_M) (N := 60) hx hb hT in_M hown hK hP 0 rfl rfl 2 (by decide) (hT _ w1106) (fun _ h9 => h9) rfl dM_train_20 ?_
    refine lv_ishl hx hb dM_train_23 ?_
    refine lv_iconst (v := 1) hx hb dM_train_24 (by decide) ?_
    refine lv_isub hx hb dM_train_25 ?_
    refine lv_iand hx hb dM_train_26 ?_
    refine lv_if_ne (tgt := 34) hx hb dM_train_27 rfl (fun h5 => ?_) (fun h5 => ?_)
    · refine lv_iconst (v := 0) hx hb dM_train_34 (by decide) ?_
      refine lv_istore_n hx hb dM_train_35 rfl hl (by decide) rfl (fun ls hl => ?_)
      have hl : lv_has ls 6 [(2, .int 0), (0, .ref y), (1, .int v)] := hl
      refine lv_aload_n hx hb dM_train_36 rfl (lv_at hl 1 rfl) ?_
      refine lv_iload_n hx hb dM_train_37 rfl (lv_at hl 2 rfl) ?_
      refine lv_iconst (v := 1) hx hb dM_train_38 (by decide) ?_
      refine lv_bipush (v := 16) hx hb dM_train_39 (by decide) ?_
      refine ro_i (va_Run.run (va_runS (As := [.int v, .int 1, .int 16]) (rest := [.ref y]) ⟨hx, hb, hml, hown, hT⟩ (m_in l D cT v 1 16) ⟨callB_of 3 hT (tb_gd w1297) rfl rfl rfl (hT _ w13) (hT _ w1295) hM_in ⟨Nat.le_of_ble_eq_true rfl, Nat.le_of_ble_eq_true rfl⟩, (hT _ w1296)⟩ (RO.preS hZ hS ((show va_P D vwCl [] _ from fun _ _ h => nomatch h)) hK) rfl rfl hl.1 rfl (lv_room (Nat.le_of_ble_eq_true rfl)) dM_train_41 ⟨Nat.le_of_ble_eq_true rfl, Nat.le_of_ble_eq_true rfl⟩)) ?_
      refine lv_if_ne (tgt := 51) hx hb dM_train_44 rfl (fun h6 => absurd (bi_f hq) h6) (fun _ => ?_)
      refine lv_iconst (v := 1) hx hb dM_train_47 (by decide) ?_
      refine lv_goto (tgt := 71) hx hb dM_train_48 rfl ?_
      refine rw_i (wc := [(y, .inr (11, MO yr yi ysb ybs))]) (wr := []) hP hD hS hA [0] [] rfl rfl (by decide) (by decide) (va_runV (As := [.int 1]) (rest := []) ⟨hx, hb, hml, hown, hT⟩ (m_ref1 l D cT y yr yi ysb ybs _) ⟨callB_of 1 hT (tb_gd w1301) rfl rfl rfl (hT _ w13) (hT _ w1298) hM_refused ⟨Nat.le_of_ble_eq_true rfl, Nat.le_of_ble_eq_true rfl⟩, (hT _ w1300), (hT _ wp29)⟩ (RW.preV (ci := 11) (q0 := 0) hZ hS (va_free (wc := [(y, .inr (11, MO yr yi ysb ybs))]) hD hS hA [0] rfl) (hP.sub (ws' := [(y, .inr (11, MO yr yi ysb ybs))]) [0] rfl) hK (hD.sub (ws' := [(y, .inr (11, MO yr yi ysb ybs))]) [0] (by decide) rfl) rfl rfl) rfl rfl hl.1 rfl (lv_room (Nat.le_of_ble_eq_true rfl)) dM_train_71 ⟨Nat.le_of_ble_eq_true rfl, Nat.le_of_ble_eq_true rfl⟩) (fun ru7 u9 H locs hpu7 hP hD hS => ?_)
      have hpu7 : ru7 = 1 := hpu7
      have hP : va_P D vwCl [(y, .inr (11, MO yr (va_up yi 1 1) ysb ybs))] _ := hP
      have hD : va_D A [(y, .inr (11, MO yr (va_up yi 1 1) ysb ybs))] := hD
      refine lv_topi (fun y9 e9 => ?_)
      cases (show y9 = 1 from e9.trans hpu7)
      refine lv_if_eq (tgt := 79) hx hb dM_train_74 rfl (fun h8 => absurd h8 (by decide)) (fun _ => ?_)
      refine lv_iconst (v := 0) hx hb dM_train_77 (by decide) ?_
      have hP9 := hP.sub (ws' := [(y, .inr (11, MO yr (va_up yi 1 1) ysb ybs))]) [0] rfl
      have hD9 := hD.sub (ws' := [(y, .inr (11, MO yr (va_up yi 1 1) ysb ybs))]) [0] (by decide) rfl
      refine W.widen (k := 0) (n := 0) (Nat.le_of_ble_eq_true rfl) (Nat.le_of_ble_eq_true rfl) ?_
      exact W.iret (v := 0) hx hb hr (fun t9 ht9 hW9 => ⟨⟨0, (), rfl, (show 0 = 0 from rfl), by rw [ht9]; exact hP9, hD9⟩, hS.F ht9⟩) hS.2.2 dM_train_78
    · refine lv_iconst (v := 1) hx hb dM_train_30 (by decide) ?_
      refine lv_goto (tgt := 35) hx hb dM_train_31 rfl ?_
      refine lv_istore_n hx hb dM_train_35 rfl hl (by decide) rfl (fun ls hl => ?_)
      have hl : lv_has ls 6 [(2, .int 1), (0, .ref y), (1, .int v)] := hl
      refine lv_aload_n hx hb dM_train_36 rfl (lv_at hl 1 rfl) ?_
      refine lv_iload_n hx hb dM_train_37 rfl (lv_at hl 2 rfl) ?_
      refine lv_iconst (v := 1) hx hb dM_train_38 (by decide) ?_
      refine lv_bipush (v := 16) hx hb dM_train_39 (by decide) ?_
      refine ro_i (va_Run.run (va_runS (As := [.int v, .int 1, .int 16]) (rest := [.ref y]) ⟨hx, hb, hml, hown, hT⟩ (m_in l D cT v 1 16) ⟨callB_of 3 hT (tb_gd w1297) rfl rfl rfl (hT _ w13) (hT _ w1295) hM_in ⟨Nat.le_of_ble_eq_true rfl, Nat.le_of_ble_eq_true rfl⟩, (hT _ w1296)⟩ (RO.preS hZ hS ((show va_P D vwCl [] _ from fun _ _ h => nomatch h)) hK) rfl rfl hl.1 rfl (lv_room (Nat.le_of_ble_eq_true rfl)) dM_train_41 ⟨Nat.le_of_ble_eq_true rfl, Nat.le_of_ble_eq_true rfl⟩)) ?_
      refine lv_if_ne (tgt := 51) hx hb dM_train_44 rfl (fun h9 => absurd (bi_f hq) h9) (fun _ => ?_)
      refine lv_iconst (v := 1) hx hb dM_train_47 (by decide) ?_
      refine lv_goto (tgt := 71) hx hb dM_train_48 rfl ?_
      refine rw_i (wc := [(y, .inr (11, MO yr yi ysb ybs))]) (wr := []) hP hD hS hA [0] [] rfl rfl (by decide) (by decide) (va_runV (As := [.int 1]) (rest := []) ⟨hx, hb, hml, hown, hT⟩ (m_ref1 l D cT y yr yi ysb ybs _) ⟨callB_of 1 hT (tb_gd w1301) rfl rfl rfl (hT _ w13) (hT _ w1298) hM_refused ⟨Nat.le_of_ble_eq_true rfl, Nat.le_of_ble_eq_true rfl⟩, (hT _ w1300), (hT _ wp29)⟩ (RW.preV (ci := 11) (q0 := 0) hZ hS (va_free (wc := [(y, .inr (11, MO yr yi ysb ybs))]) hD hS hA [0] rfl) (hP.sub (ws' := [(y, .inr (11, MO yr yi ysb ybs))]) [0] rfl) hK (hD.sub (ws' := [(y, .inr (11, MO yr yi ysb ybs))]) [0] (by decide) rfl) rfl rfl) rfl rfl hl.1 rfl (lv_room (Nat.le_of_ble_eq_true rfl)) dM_train_71 ⟨Nat.le_of_ble_eq_true rfl, Nat.le_of_ble_eq_true rfl⟩) (fun ru10 u9 H locs hpu10 hP hD hS => ?_)
      have hpu10 : ru10 = 1 := hpu10
      have hP : va_P D vwCl [(y, .inr (11, MO yr (va_up yi 1 1) ysb ybs))] _ := hP
      have hD : va_D A [(y, .inr (11, MO yr (va_up yi 1 1) ysb ybs))] := hD
      refine lv_topi (fun y9 e9 => ?_)
      cases (show y9 = 1 from e9.trans hpu10)
      refine lv_if_eq (tgt := 79) hx hb dM_train_74 rfl (fun h11 => absurd h11 (by decide)) (fun _ => ?_)
      refine lv_iconst (v := 0) hx hb dM_train_77 (by decide) ?_
      have hP9 := hP.sub (ws' := [(y, .inr (11, MO yr (va_up yi 1 1) ysb ybs))]) [0] rfl
      have hD9 := hD.sub (ws' := [(y, .inr (11, MO yr (va_up yi 1 1) ysb ybs))]) [0] (by decide) rfl
      refine W.widen (k := 0) (n := 0) (Nat.le_of_ble_eq_true rfl) (Nat.le_of_ble_eq_true rfl) ?_
      exact W.iret (v := 0) hx hb hr (fun t9 ht9 hW9 => ⟨⟨0, (), rfl, (show 0 = 0 from rfl), by rw [ht9]; exact hP9, hD9⟩, hS.F ht9⟩) hS.2.2 dM_train_78
set_option maxHeartbeats 4000000 in
set_option maxRecDepth 100000 in
theorem y_train_no2 (l : Launch) (D : va_G) (cT : Nat → ClassId) (y : Nat) (yr : Nat → Nat) (yi : Nat → Int32) (ysb : Int64) (ybs : Int64) (n : Nat) (T : Nat) (rr : Nat) (hn : yi 3 = nI n) (hn48 : n ≤ 48) (hc0 : 1 ≤ nI rr ∧ nI rr ≤ 16) (hTT : yi 17 = nI T) (hT16 : T ≤ 16) (hr16 : rr ≤ 16) (hq : ysb &&& thr n = 0 ∨ yi 16 &&& (((1 : Int32) <<< (yi 2 &&& 31)) - 1) = 0 ∨ 16 < T + rr) (sz : Nat) : Met l yM_train WM_train ({ frames := 1, cells := 0, slots := 0, locals := 22 } : Room) (RW D vwCl [.ref y, .int (nI rr)] [(y, .inr (11, MO yr yi ysb ybs))] (TY cT) sz) (va_Qi (fun (r9 : Int32) (u9 : Unit) => r9 = 0) (BW D vwCl (va_A [(y, .inr (11, MO yr yi ysb ybs))] sz) (fun u9 : Unit => [(y, .inr (11, MO yr (va_up yi 1 2) ysb ybs))])) (va_A [(y, .inr (11, MO yr yi ysb ybs))] sz)) 0 0 (va_A [(y, .inr (11, MO yr yi ysb ybs))] sz) := by
  refine Met.ofW (cc := cM_train) (maxL := 6) (ret := (some .int)) (by decide) rfl ?_
  intro p e s m args below meth c s₁ B hml hv
  obtain ⟨rfl, hsz, hZ, hP, hK, hD0⟩ := hv
  have hx := B.exec
  have hb := B.bytes
  have hr := B.returns
  have hts := atoms_spec (ws := WM_train) B.pre
  have hT : ∀ w ∈ TB, w.before _ s = true := fun w h => hts w (List.mem_cons_of_mem _ h)
  have hown : s.vm.findClass R_M = some m.cls := findClass_of_methodNamed B.named
  have hlocks := B.notSynchronized
  subst hsz
  have hD := hD0.self (sz := s.heap.size)
  generalize hAe : va_A [(y, .inr (11, MO yr yi ysb ybs))] s.heap.size = A at hD hZ ⊢
  have hA : ∀ q : Nat, s.heap.size ≤ q → A q := fun q h => by rw [← hAe]; exact Or.inr h
  have hS : va_S A s.heap s.heap [] := va_S.rf
  have hl := lv_entry ([.ref y, .int (nI rr)]) (n := 6) (Nat.le_of_ble_eq_true rfl)
  rw [lg_entry_eq]
  generalize (lg_sl ([.ref y, .int (nI rr)]) ++ List.replicate (6 - (lg_sl ([.ref y, .int (nI rr)])).length) Slot.unset).toArray = ls at hl ⊢
  have hl : lv_has ls 6 [(0, .ref y), (1, .int (nI rr))] := hl
  refine lv_aload_n hx hb dM_train_0 rfl (lv_at hl 0 rfl) ?_
  refine va_get (D := D) (ci := 11) (v := .long ysb) (C := R_M) (T := T_M) (N := 60) hx hb hT in_M hown hK hP 0 rfl rfl 15 (by decide) (hT _ w1119) (fun _ h9 => h9) rfl dM_train_1 ?_
  refine lv_aload_n hx hb dM_train_4 rfl (lv_at hl 0 rfl) ?_
  refine ro_l (va_Run.run (va_runV (As := []) (rest := [.long ysb]) ⟨hx, hb, hml, hown, hT⟩ (m_there l D cT y yr yi ysb ybs n hn hn48) ⟨callB_of 0 hT (tb_gd w1366) rfl rfl rfl (hT _ w13) (hT _ w1363) hM_there ⟨Nat.le_of_ble_eq_true rfl, Nat.le_of_ble_eq_true rfl⟩, (hT _ w1365), (hT _ wp34)⟩ (RO.preV (ci := 11) (q0 := 0) hZ hS (hP.sub (ws' := [(y, .inr (11, MO yr yi ysb ybs))]) [0] rfl) hK rfl rfl) rfl rfl hl.1 rfl (lv_room (Nat.le_of_ble_eq_true rfl)) dM_train_5 ⟨Nat.le_of_ble_eq_true rfl, Nat.le_of_ble_eq_true rfl⟩)) ?_
  refine lv_land hx hb dM_train_8 ?_
  refine lv_lconst (v := 0) hx hb dM_train_9 (by decide) ?_
  refine W.lcmp hx hb dM_train_10 ?_
  refine lv_if_eq (tgt := 30) hx hb dM_train_11 rfl (fun h1 => ?_) (fun h1 => ?_)
  · refine lv_iconst (v := 1) hx hb dM_train_30 (by decide) ?_
    refine lv_goto (tgt := 35) hx hb dM_train_31 rfl ?_
    refine lv_istore_n hx hb dM_train_35 rfl hl (by decide) rfl (fun ls hl => ?_)
    have hl : lv_has ls 6 [(2, .int 1), (0, .ref y), (1, .int (nI rr))] := hl
    refine lv_aload_n hx hb dM_train_36 rfl (lv_at hl 1 rfl) ?_
    refine lv_iload_n hx hb dM_train_37 rfl (lv_at hl 2 rfl) ?_
    refine lv_iconst (v := 1) hx hb dM_train_38 (by decide) ?_
    refine lv_bipush (v := 16) hx hb dM_train_39 (by decide) ?_
    refine ro_i (va_Run.run (va_runS (As := [.int (nI rr), .int 1, .int 16]) (rest := [.ref y]) ⟨hx, hb, hml, hown, hT⟩ (m_in l D cT (nI rr) 1 16) ⟨callB_of 3 hT (tb_gd w1297) rfl rfl rfl (hT _ w13) (hT _ w1295) hM_in ⟨Nat.le_of_ble_eq_true rfl, Nat.le_of_ble_eq_true rfl⟩, (hT _ w1296)⟩ (RO.preS hZ hS ((show va_P D vwCl [] _ from fun _ _ h => nomatch h)) hK) rfl rfl hl.1 rfl (lv_room (Nat.le_of_ble_eq_true rfl)) dM_train_41 ⟨Nat.le_of_ble_eq_true rfl, Nat.le_of_ble_eq_true rfl⟩)) ?_
    refine lv_if_ne (tgt := 51) hx hb dM_train_44 rfl (fun _ => ?_) (fun h2 => absurd h2 (by rw [bi_t hc0]; decide))
    refine lv_iload_n hx hb dM_train_51 rfl (lv_at hl 0 rfl) ?_
    refine lv_if_ne (tgt := 66) hx hb dM_train_52 rfl (fun _ => ?_) (fun h3 => absurd h3 (by decide))
    refine lv_iconst (v := 2) hx hb dM_train_66 (by decide) ?_
    refine lv_goto (tgt := 71) hx hb dM_train_67 rfl ?_
    refine rw_i (wc := [(y, .inr (11, MO yr yi ysb ybs))]) (wr := []) hP hD hS hA [0] [] rfl rfl (by decide) (by decide) (va_runV (As := [.int 2]) (rest := []) ⟨hx, hb, hml, hown, hT⟩ (m_ref2 l D cT y yr yi ysb ybs _) ⟨callB_of 1 hT (tb_gd w1301) rfl rfl rfl (hT _ w13) (hT _ w1298) hM_refused ⟨Nat.le_of_ble_eq_true rfl, Nat.le_of_ble_eq_true rfl⟩, (hT _ w1300), (hT _ wp29)⟩ (RW.preV (ci := 11) (q0 := 0) hZ hS (va_free (wc := [(y, .inr (11, MO yr yi ysb ybs))]) hD hS hA [0] rfl) (hP.sub (ws' := [(y, .inr (11, MO yr yi ysb ybs))]) [0] rfl) hK (hD.sub (ws' := [(y, .inr (11, MO yr yi ysb ybs))]) [0] (by decide) rfl) rfl rfl) rfl rfl hl.1 rfl (lv_room (Nat.le_of_ble_eq_true rfl)) dM_train_71 ⟨Nat.le_of_ble_eq_true rfl, Nat.le_of_ble_eq_true rfl⟩) (fun ru4 u9 H locs hpu4 hP hD hS => ?_)
    have hpu4 : ru4 = 1 := hpu4
    have hP : va_P D vwCl [(y, .inr (11, MO yr (va_up yi 1 2) ysb ybs))] _ := hP
    have hD : va_D A [(y, .inr (11, MO yr (va_up yi 1 2) ysb ybs))] := hD
    refine lv_topi (fun y9 e9 => ?_)
    cases (show y9 = 1 from e9.trans hpu4)
    refine lv_if_eq (tgt := 79) hx hb dM_train_74 rfl (fun h5 => absurd h5 (by decide)) (fun _ => ?_)
    refine lv_iconst (v := 0) hx hb dM_train_77 (by decide) ?_
    have hP9 := hP.sub (ws' := [(y, .inr (11, MO yr (va_up yi 1 2) ysb ybs))]) [0] rfl
    have hD9 := hD.sub (ws' := [(y, .inr (11, MO yr (va_up yi 1 2) ysb ybs))]) [0] (by decide) rfl
    refine W.widen (k := 0) (n := 0) (Nat.le_of_ble_eq_true rfl) (Nat.le_of_ble_eq_true rfl) ?_
    exact W.iret (v := 0) hx hb hr (fun t9 ht9 hW9 => ⟨⟨0, (), rfl, (show 0 = 0 from rfl), by rw [ht9]; exact hP9, hD9⟩, hS.F ht9⟩) hS.2.2 dM_train_78
  · refine lv_aload_n hx hb dM_train_14 rfl (lv_at hl 0 rfl) ?_
    refine va_get (D := D) (ci := 11) (v := .int (yi 16)) (C := R_M) (T := T_M) (N := 60) hx hb hT in_M hown hK hP 0 rfl rfl 16 (by decide) (hT _ w1120) (fun _ h9 => h9) rfl dM_train_15 ?_
    refine lv_iconst (v := 1) hx hb dM_train_18 (by decide) ?_
    refine lv_aload_n hx hb dM_train_19 rfl (lv_at hl 0 rfl) ?_
    refine va_get (D := D) (ci := 11) (v := .int (yi 2)) (C := R_M) (T := T_M) (N := 60) hx hb hT in_M hown hK hP 0 rfl rfl 2 (by decide) (hT _ w1106) (fun _ h9 => h9) rfl dM_train_20 ?_
    refine lv_ishl hx hb dM_train_23 ?_
    refine lv_iconst (v := 1) hx hb dM_train_24 (by decide) ?_
    refine lv_isub hx hb dM_train_25 ?_
    refine lv_iand hx hb dM_train_26 ?_
    refine lv_if_ne (tgt := 34) hx hb dM_train_27 rfl (fun h6 => ?_) (fun h6 => ?_)
    · refine lv_iconst (v := 0) hx hb dM_train_34 (by decide) ?_
      refine lv_istore_n hx hb dM_train_35 rfl hl (by decide) rfl (fun ls hl => ?_)
      have hl : lv_has ls 6 [(2, .int 0), (0, .ref y), (1, .int (nI rr))] := hl
      refine lv_aload_n hx hb dM_train_36 rfl (lv_at hl 1 rfl) ?_
      refine lv_iload_n hx hb dM_train_37 rfl (lv_at hl 2 rfl) ?_
      refine lv_iconst (v := 1) hx hb dM_train_38 (by decide) ?_
      refine lv_bipush (v := 16) hx hb dM_train_39 (by decide) ?_
      refine ro_i (va_Run.run (va_runS (As := [.int (nI rr), .int 1, .int 16]) (rest := [.ref y]) ⟨hx, hb, hml, hown, hT⟩ (m_in l D cT (nI rr) 1 16) ⟨callB_of 3 hT (tb_gd w1297) rfl rfl rfl (hT _ w13) (hT _ w1295) hM_in ⟨Nat.le_of_ble_eq_true rfl, Nat.le_of_ble_eq_true rfl⟩, (hT _ w1296)⟩ (RO.preS hZ hS ((show va_P D vwCl [] _ from fun _ _ h => nomatch h)) hK) rfl rfl hl.1 rfl (lv_room (Nat.le_of_ble_eq_true rfl)) dM_train_41 ⟨Nat.le_of_ble_eq_true rfl, Nat.le_of_ble_eq_true rfl⟩)) ?_
      refine lv_if_ne (tgt := 51) hx hb dM_train_44 rfl (fun _ => ?_) (fun h7 => absurd h7 (by rw [bi_t hc0]; decide))
      refine lv_iload_n hx hb dM_train_51 rfl (lv_at hl 0 rfl) ?_
      refine lv_if_ne (tgt := 66) hx hb dM_train_52 rfl (fun h8 => absurd (by decide) h8) (fun _ => ?_)
      refine lv_aload_n hx hb dM_train_55 rfl (lv_at hl 1 rfl) ?_
      refine va_get (D := D) (ci := 11) (v := .int (yi 17)) (C := R_M) (T := T_M) (N := 60) hx hb hT in_M hown hK hP 0 rfl rfl 17 (by decide) (hT _ w1121) (fun _ h9 => h9) rfl dM_train_56 ?_
      refine lv_topi (fun y9 e9 => ?_)
      cases (show y9 = nI T from e9.trans hTT)
      refine lv_iload_n hx hb dM_train_59 rfl (lv_at hl 2 rfl) ?_
      refine lv_iadd hx hb dM_train_60 ?_
      refine lv_topi (fun y9 e9 => ?_)
      cases (show y9 = nI (T + rr) from e9.trans (nI_add T rr))
      refine lv_bipush (v := 16) hx hb dM_train_61 (by decide) ?_
      refine lv_icmp_le (tgt := 70) hx hb dM_train_63 rfl (fun h9 => ?_) (fun h9 => ?_)
      · have gh9 : T + rr ≤ 16 := (nI_leI (a := T + rr) (b := 16) (by omega) (by omega)).mp h9
        exact absurd hq (fun q => q.elim (fun q => h1 ((lg_cmp_eq _ _).mpr q)) (fun q => q.elim (fun q => h6 q) (fun q => absurd q (by omega))))
      · have gh9 : 16 < T + rr := Nat.not_le.mp (fun q => h9 ((nI_leI (a := T + rr) (b := 16) (by omega) (by omega)).mpr q))
        refine lv_iconst (v := 2) hx hb dM_train_66 (by decide) ?_
        refine lv_goto (tgt := 71) hx hb dM_train_67 rfl ?_
        refine rw_i (wc := [(y, .inr (11, MO yr yi ysb ybs))]) (wr := []) hP hD hS hA [0] [] rfl rfl (by decide) (by decide) (va_runV (As := [.int 2]) (rest := []) ⟨hx, hb, hml, hown, hT⟩ (m_ref2 l D cT y yr yi ysb ybs _) ⟨callB_of 1 hT (tb_gd w1301) rfl rfl rfl (hT _ w13) (hT _ w1298) hM_refused ⟨Nat.le_of_ble_eq_true rfl, Nat.le_of_ble_eq_true rfl⟩, (hT _ w1300), (hT _ wp29)⟩ (RW.preV (ci := 11) (q0 := 0) hZ hS (va_free (wc := [(y, .inr (11, MO yr yi ysb ybs))]) hD hS hA [0] rfl) (hP.sub (ws' := [(y, .inr (11, MO yr yi ysb ybs))]) [0] rfl) hK (hD.sub (ws' := [(y, .inr (11, MO yr yi ysb ybs))]) [0] (by decide) rfl) rfl rfl) rfl rfl hl.1 rfl (lv_room (Nat.le_of_ble_eq_true rfl)) dM_train_71 ⟨Nat.le_of_ble_eq_true rfl, Nat.le_of_ble_eq_true rfl⟩) (fun ru10 u9 H locs hpu10 hP hD hS => ?_)
        have hpu10 : ru10 = 1 := hpu10
        have hP : va_P D vwCl [(y, .inr (11, MO yr (va_up yi 1 2) ysb ybs))] _ := hP
        have hD : va_D A [(y, .inr (11, MO yr (va_up yi 1 2) ysb ybs))] := hD
        refine lv_topi (fun y9 e9 => ?_)
        cases (show y9 = 1 from e9.trans hpu10)
        refine lv_if_eq (tgt := 79) hx hb dM_train_74 rfl (fun h11 => absurd h11 (by decide)) (fun _ => ?_)
        refine lv_iconst (v := 0) hx hb dM_train_77 (by decide) ?_
        have hP9 := hP.sub (ws' := [(y, .inr (11, MO yr (va_up yi 1 2) ysb ybs))]) [0] rfl
        have hD9 := hD.sub (ws' := [(y, .inr (11, MO yr (va_up yi 1 2) ysb ybs))]) [0] (by decide) rfl
        refine W.widen (k := 0) (n := 0) (Nat.le_of_ble_eq_true rfl) (Nat.le_of_ble_eq_true rfl) ?_
        exact W.iret (v := 0) hx hb hr (fun t9 ht9 hW9 => ⟨⟨0, (), rfl, (show 0 = 0 from rfl), by rw [ht9]; exact hP9, hD9⟩, hS.F ht9⟩) hS.2.2 dM_train_78
    · refine lv_iconst (v := 1) hx hb dM_train_30 (by decide) ?_
      refine lv_goto (tgt := 35) hx hb dM_train_31 rfl ?_
      refine lv_istore_n hx hb dM_train_35 rfl hl (by decide) rfl (fun ls hl => ?_)
      have hl : lv_has ls 6 [(2, .int 1), (0, .ref y), (1, .int (nI rr))] := hl
      refine lv_aload_n hx hb dM_train_36 rfl (lv_at hl 1 rfl) ?_
      refine lv_iload_n hx hb dM_train_37 rfl (lv_at hl 2 rfl) ?_
      refine lv_iconst (v := 1) hx hb dM_train_38 (by decide) ?_
      refine lv_bipush (v := 16) hx hb dM_train_39 (by decide) ?_
      refine ro_i (va_Run.run (va_runS (As := [.int (nI rr), .int 1, .int 16]) (rest := [.ref y]) ⟨hx, hb, hml, hown, hT⟩ (m_in l D cT (nI rr) 1 16) ⟨callB_of 3 hT (tb_gd w1297) rfl rfl rfl (hT _ w13) (hT _ w1295) hM_in ⟨Nat.le_of_ble_eq_true rfl, Nat.le_of_ble_eq_true rfl⟩, (hT _ w1296)⟩ (RO.preS hZ hS ((show va_P D vwCl [] _ from fun _ _ h => nomatch h)) hK) rfl rfl hl.1 rfl (lv_room (Nat.le_of_ble_eq_true rfl)) dM_train_41 ⟨Nat.le_of_ble_eq_true rfl, Nat.le_of_ble_eq_true rfl⟩)) ?_
      refine lv_if_ne (tgt := 51) hx hb dM_train_44 rfl (fun _ => ?_) (fun h12 => absurd h12 (by rw [bi_t hc0]; decide))
      refine lv_iload_n hx hb dM_train_51 rfl (lv_at hl 0 rfl) ?_
      refine lv_if_ne (tgt := 66) hx hb dM_train_52 rfl (fun _ => ?_) (fun h13 => absurd h13 (by decide))
      refine lv_iconst (v := 2) hx hb dM_train_66 (by decide) ?_
      refine lv_goto (tgt := 71) hx hb dM_train_67 rfl ?_
      refine rw_i (wc := [(y, .inr (11, MO yr yi ysb ybs))]) (wr := []) hP hD hS hA [0] [] rfl rfl (by decide) (by decide) (va_runV (As := [.int 2]) (rest := []) ⟨hx, hb, hml, hown, hT⟩ (m_ref2 l D cT y yr yi ysb ybs _) ⟨callB_of 1 hT (tb_gd w1301) rfl rfl rfl (hT _ w13) (hT _ w1298) hM_refused ⟨Nat.le_of_ble_eq_true rfl, Nat.le_of_ble_eq_true rfl⟩, (hT _ w1300), (hT _ wp29)⟩ (RW.preV (ci := 11) (q0 := 0) hZ hS (va_free (wc := [(y, .inr (11, MO yr yi ysb ybs))]) hD hS hA [0] rfl) (hP.sub (ws' := [(y, .inr (11, MO yr yi ysb ybs))]) [0] rfl) hK (hD.sub (ws' := [(y, .inr (11, MO yr yi ysb ybs))]) [0] (by decide) rfl) rfl rfl) rfl rfl hl.1 rfl (lv_room (Nat.le_of_ble_eq_true rfl)) dM_train_71 ⟨Nat.le_of_ble_eq_true rfl, Nat.le_of_ble_eq_true rfl⟩) (fun ru14 u9 H locs hpu14 hP hD hS => ?_)
      have hpu14 : ru14 = 1 := hpu14
      have hP : va_P D vwCl [(y, .inr (11, MO yr (va_up yi 1 2) ysb ybs))] _ := hP
      have hD : va_D A [(y, .inr (11, MO yr (va_up yi 1 2) ysb ybs))] := hD
      refine lv_topi (fun y9 e9 => ?_)
      cases (show y9 = 1 from e9.trans hpu14)
      refine lv_if_eq (tgt := 79) hx hb dM_train_74 rfl (fun h15 => absurd h15 (by decide)) (fun _ => ?_)
      refine lv_iconst (v := 0) hx hb dM_train_77 (by decide) ?_
      have hP9 := hP.sub (ws' := [(y, .inr (11, MO yr (va_up yi 1 2) ysb ybs))]) [0] rfl
      have hD9 := hD.sub (ws' := [(y, .inr (11, MO yr (va_up yi 1 2) ysb ybs))]) [0] (by decide) rfl
      refine W.widen (k := 0) (n := 0) (Nat.le_of_ble_eq_true rfl) (Nat.le_of_ble_eq_true rfl) ?_
      exact W.iret (v := 0) hx hb hr (fun t9 ht9 hW9 => ⟨⟨0, (), rfl, (show 0 = 0 from rfl), by rw [ht9]; exact hP9, hD9⟩, hS.F ht9⟩) hS.2.2 dM_train_78
/-! The class's columns. -/
def takB (k v : Int32) : Bool := decide (v = -2147483648) || vokB k v
theorem vok_k2 {k v : Int32} (h : ¬ k = 0) : vokB k v = decide (0 ≤ v ∧ v < 12) := by
  unfold vokB
  rw [if_neg h]
  apply decide_eq_decide.mpr
  have e : v ≤ 11 ↔ v < 12 := by
    rw [Int32.le_iff_toInt_le, Int32.lt_iff_toInt_lt]
    have e1 : (11 : Int32).toInt = 11 := by decide
    have e2 : (12 : Int32).toInt = 12 := by decide
    omega
  rw [e]
theorem tak_m {k v : Int32} (h : v = -2147483648) : 1 = bn (takB k v) := by
  unfold takB; rw [decide_eq_true h, Bool.true_or]; rfl
theorem tak_k {k v : Int32} (hv : ¬ v = -2147483648) (h : ¬ k = 0) (hk : 0 ≤ v ∧ v < 12) : 1 = bn (takB k v) := by
  unfold takB; rw [decide_eq_false hv, Bool.false_or, vok_k2 h, decide_eq_true hk]; rfl
theorem tak_kn {k v : Int32} (hv : ¬ v = -2147483648) (h : ¬ k = 0) (hk : ¬ (0 ≤ v ∧ v < 12)) : 0 = bn (takB k v) := by
  unfold takB; rw [decide_eq_false hv, Bool.false_or, vok_k2 h, decide_eq_false hk]; rfl
theorem tak_n {k v : Int32} (hv : ¬ v = -2147483648) (h : k = 0) (hk : (-1000000) ≤ v ∧ v ≤ 1000000) : 1 = bn (takB k v) := by
  unfold takB vokB; rw [decide_eq_false hv, Bool.false_or, if_pos h, decide_eq_true hk]; rfl
theorem tak_nn {k v : Int32} (hv : ¬ v = -2147483648) (h : k = 0) (hk : ¬ ((-1000000) ≤ v ∧ v ≤ 1000000)) : 0 = bn (takB k v) := by
  unfold takB vokB; rw [decide_eq_false hv, Bool.false_or, if_pos h, decide_eq_false hk]; rfl
/-- all known values of the first rows are kinds -/
def kvB (v : Int32) : Bool := decide (v = -2147483648) || decide (0 ≤ v ∧ v < 12)
def kaB (f : Nat → Int32) : Nat → Bool
  | 0 => true
  | r + 1 => kaB f r && kvB (f r)
theorem ka_0 {f : Nat → Int32} {r : Nat} (h : bn (kaB f r) = 0) : 0 = bn (kaB f (r + 1)) := by
  show 0 = bn (kaB f r && kvB (f r)); rw [bn_0.mp h, Bool.false_and]; rfl
theorem ka_1 {f : Nat → Int32} {r : Nat} (h : ¬ bn (kaB f r) = 0) (hv : f r = -2147483648) : 1 = bn (kaB f (r + 1)) := by
  show 1 = bn (kaB f r && kvB (f r))
  cases hb : kaB f r
  · exact absurd (bn_0.mpr hb) h
  · unfold kvB; rw [decide_eq_true hv]; rfl
theorem ka_2 {f : Nat → Int32} {r : Nat} (h : ¬ bn (kaB f r) = 0) (hv : 0 ≤ f r ∧ f r < 12) : 1 = bn (kaB f (r + 1)) := by
  show 1 = bn (kaB f r && kvB (f r))
  cases hb : kaB f r
  · exact absurd (bn_0.mpr hb) h
  · unfold kvB; rw [decide_eq_true hv, Bool.or_true]; rfl
theorem ka_3 {f : Nat → Int32} {r : Nat} (hv : ¬ f r = -2147483648) (hk : ¬ (0 ≤ f r ∧ f r < 12)) : 0 = bn (kaB f (r + 1)) := by
  show 0 = bn (kaB f r && kvB (f r))
  unfold kvB; rw [decide_eq_false hv, decide_eq_false hk, Bool.or_false, Bool.and_false]; rfl
theorem kvB_kb {v : Int32} : kvB v = true ↔ kb false v = false := by
  have e : (0 ≤ v ∧ v < 12) ↔ (0 ≤ v ∧ v ≤ 11) := by
    rw [Int32.le_iff_toInt_le (a := v) (b := 11), Int32.lt_iff_toInt_lt]
    have e1 : (11 : Int32).toInt = 11 := by decide
    have e2 : (12 : Int32).toInt = 12 := by decide
    omega
  unfold kvB kb
  rw [decide_eq_decide.mpr e, Bool.false_or]
  by_cases h1 : v = -2147483648
  · rw [decide_eq_true h1, decide_eq_false (p := ¬ v = -2147483648) (fun q => q h1)]; simp
  · rw [decide_eq_false h1, decide_eq_true (p := ¬ v = -2147483648) h1]
    by_cases h2 : 0 ≤ v ∧ v ≤ 11
    · rw [decide_eq_true h2, decide_eq_false (p := ¬ (0 ≤ v ∧ v ≤ 11)) (fun q => q h2)]; simp
    · rw [decide_eq_false h2, decide_eq_true (p := ¬ (0 ≤ v ∧ v ≤ 11)) h2]; simp
theorem kaB_kal {f vv : Nat → Int32} {c : Nat} : ∀ {n : Nat}, (∀ r, r < n → f r = vv (6 * r + c)) → (kaB f n = true ↔ KAL vv c n)
  | 0, _ => ⟨fun _ q hq => absurd hq (by omega), fun _ => rfl⟩
  | n + 1, h => by
    have ih := kaB_kal (f := f) (vv := vv) (c := c) (n := n) (fun r hr => h r (by omega))
    show (kaB f n && kvB (f n)) = true ↔ _
    rw [Bool.and_eq_true, ih, kvB_kb, h n (by omega)]
    constructor
    · intro ⟨h1, h2⟩ q hq
      by_cases e : q = n
      · rw [e]; exact h2
      · exact h1 q (by omega)
    · intro h1
      exact ⟨fun q hq => h1 q (by omega), h1 n (by omega)⟩
/-- edges that rise -/
def RIS (eg : Nat → Int32) (b ne : Nat) : Prop := ∀ i j, i < j → j < ne → eg (b + i) < eg (b + j)
theorem cnE_srt {eg : Nat → Int32} {b ne k : Nat} {v : Int32} (h : RIS eg b ne) (hk : k ≤ ne) (hl : ∀ i, i < k → eg (b + i) ≤ v) (hr : k = ne ∨ v < eg (b + k)) : cnE eg b v ne = k := by
  have h1 : ∀ j, j ≤ k → cnE eg b v j = j := by
    intro j
    induction j with
    | zero => intro _; rfl
    | succ j ih =>
      intro hj
      show cnE eg b v j + _ = _
      rw [ih (by omega), if_pos (hl j (by omega))]
  have h2 : ∀ j, k + j ≤ ne → cnE eg b v (k + j) = k := by
    intro j
    induction j with
    | zero => intro _; exact h1 k (Nat.le_refl _)
    | succ j ih =>
      intro hj
      show cnE eg b v (k + j) + _ = _
      have hv : v < eg (b + k) := by rcases hr with q | q; omega; exact q
      have hlt : ¬ eg (b + (k + j)) ≤ v := by
        rcases Nat.eq_zero_or_pos j with q | q
        · rw [q]; exact Int32.not_le.mpr hv
        · exact Int32.not_le.mpr (Int32.lt_trans hv (h k (k + j) (by omega) (by omega)))
      rw [ih (by omega), if_neg hlt]
  have := h2 (ne - k) (by omega)
  rw [show k + (ne - k) = ne by omega] at this
  exact this
theorem gob_m {tl kd ed v : Int32} (h : v = -2147483648) (ht : tl = 0 ∨ tl = 1) : tl = bn (goB tl kd ed v) := by
  unfold goB
  rw [if_pos h]
  rcases ht with q | q
  · rw [q]; rfl
  · rw [q]; rfl
theorem gob_n1 {tl kd ed v : Int32} (h : ¬ v = -2147483648) (hk : kd = 0) (hv : v < ed) : 1 = bn (goB tl kd ed v) := by
  unfold goB; rw [if_neg h, if_pos hk, decide_eq_true hv]; rfl
theorem gob_n0 {tl kd ed v : Int32} (h : ¬ v = -2147483648) (hk : kd = 0) (hv : ¬ v < ed) : 0 = bn (goB tl kd ed v) := by
  unfold goB; rw [if_neg h, if_pos hk, decide_eq_false hv]; rfl
theorem i12 {v : Int32} : v < 12 ↔ v ≤ 11 := by
  rw [Int32.le_iff_toInt_le, Int32.lt_iff_toInt_lt]
  have e1 : (11 : Int32).toInt = 11 := by decide
  have e2 : (12 : Int32).toInt = 12 := by decide
  omega
theorem gob_k1 {tl kd ed v : Int32} (h : ¬ v = -2147483648) (hk : ¬ kd = 0) (hv : 0 ≤ v ∧ v < 12) (hb : (ed >>> (v &&& 31)) &&& 1 = 1) : 1 = bn (goB tl kd ed v) := by
  unfold goB; rw [if_neg h, if_neg hk, decide_eq_true ⟨⟨hv.1, i12.mp hv.2⟩, hb⟩]; rfl
theorem gob_k0 {tl kd ed v : Int32} (h : ¬ v = -2147483648) (hk : ¬ kd = 0) (hv : ¬ (0 ≤ v ∧ v < 12) ∨ ¬ (ed >>> (v &&& 31)) &&& 1 = 1) : 0 = bn (goB tl kd ed v) := by
  unfold goB; rw [if_neg h, if_neg hk, decide_eq_false (fun q => hv.elim (fun r => r ⟨q.1.1, i12.mpr q.1.2⟩) (fun r => r q.2))]; rfl
theorem gd_s {x y M i : Nat} (hy : 0 < y) (h1 : x * 2 ^ ((i - 1) / 2) ≤ M) (h2 : y * 2 ^ (i / 2) ≤ M) (h3 : 0 < i → y < x) : x % y * 2 ^ ((i + 1) / 2) ≤ M := by
  have hm := Nat.mod_lt x hy
  rcases (show i = 0 ∨ (0 < i ∧ i % 2 = 0) ∨ (0 < i ∧ i % 2 = 1) by omega) with q | ⟨q, r⟩ | ⟨q, r⟩
  · subst q
    rw [show (0 + 1) / 2 = 0 by decide, Nat.pow_zero, Nat.mul_one]
    rw [show 0 / 2 = 0 by decide, Nat.pow_zero, Nat.mul_one] at h2
    omega
  · rw [show (i + 1) / 2 = i / 2 by omega]
    exact Nat.le_trans (Nat.mul_le_mul_right _ (by omega)) h2
  · have hx := h3 q
    have h4 : 2 * (x % y) ≤ x := by
      have e := Nat.div_add_mod x y
      have hd : 1 ≤ x / y := Nat.div_pos (by omega) hy
      have := Nat.mul_le_mul_left y hd
      omega
    rw [show (i + 1) / 2 = (i - 1) / 2 + 1 by omega, Nat.pow_succ, show x % y * (2 ^ ((i - 1) / 2) * 2) = 2 * (x % y) * 2 ^ ((i - 1) / 2) by ac_rfl]
    exact Nat.le_trans (Nat.mul_le_mul_right _ h4) h1
theorem gd_e {y M i : Nat} (hM : M < 2 ^ 63) (hi : 128 ≤ i) (h2 : y * 2 ^ (i / 2) ≤ M) : y = 0 := by
  rcases Nat.eq_zero_or_pos y with q | q
  · exact q
  · exfalso
    have a := Nat.pow_le_pow_right (show 0 < 2 by decide) (show 63 ≤ i / 2 by omega)
    have b := Nat.le_mul_of_pos_left (2 ^ (i / 2)) q
    omega
set_option maxHeartbeats 4000000 in
set_option maxRecDepth 100000 in
theorem k_takes (l : Launch) (D : va_G) (cT : Nat → ClassId) (h : Nat) (cv : Nat) (ce : Nat) (ec : Int32) (ok : Int32) (v : Int32) : Met l yC_takes WC_takes ({ frames := 2, cells := 0, slots := 0, locals := 42 } : Room) (RO D vwCl [.ref h, .int v] [(h, .inr (1, [.ref cv, .ref ce, .int ec, .int ok]))] (TY cT)) (QcRead (bn (takB ok v))) 0 0 (fun _ => False) := by
  refine Met.ofW (cc := cC_takes) (maxL := 2) (ret := (some .boolean)) (by decide) rfl ?_
  intro p e s m args below meth c s₁ B hml hv
  obtain ⟨rfl, hZ, hP, hK⟩ := hv
  have hx := B.exec
  have hb := B.bytes
  have hr := B.returns
  have hts := atoms_spec (ws := WC_takes) B.pre
  have hT : ∀ w ∈ TB, w.before _ s = true := fun w h => hts w (List.mem_cons_of_mem _ h)
  have hown : s.vm.findClass R_C = some m.cls := findClass_of_methodNamed B.named
  have hlocks := B.notSynchronized
  have hS : va_S (fun _ => False) s.heap s.heap [] := va_S.rf
  have hl := lv_entry ([.ref h, .int v]) (n := 2) (Nat.le_of_ble_eq_true rfl)
  rw [lg_entry_eq]
  generalize (lg_sl ([.ref h, .int v]) ++ List.replicate (2 - (lg_sl ([.ref h, .int v])).length) Slot.unset).toArray = ls at hl ⊢
  have hl : lv_has ls 2 [(0, .ref h), (1, .int v)] := hl
  refine lv_iload_n hx hb dC_takes_0 rfl (lv_at hl 1 rfl) ?_
  refine lv_ldc (v := (-2147483648)) hx hb hown (hT _ w626) dC_takes_1 ?_
  refine lv_icmp_eq (tgt := 30) hx hb dC_takes_3 rfl (fun h1 => ?_) (fun h1 => ?_)
  · refine lv_iconst (v := 1) hx hb dC_takes_30 (by decide) ?_
    refine lv_goto (tgt := 35) hx hb dC_takes_31 rfl ?_
    exact W.zret (v := 1) hx hb hr rfl (fun t9 ht9 hW9 => ⟨tak_m h1, ht9⟩) (fun q h => nomatch h) dC_takes_35
  · refine lv_aload_n hx hb dC_takes_6 rfl (lv_at hl 0 rfl) ?_
    refine va_get (D := D) (ci := 1) (v := .int ok) (C := R_C) (T := T_C) (N := 4) hx hb hT in_C hown hK hP 0 rfl rfl 3 (by decide) (hT _ w60) (fun _ h9 => h9) rfl dC_takes_7 ?_
    refine lv_if_eq (tgt := 23) hx hb dC_takes_10 rfl (fun h2 => ?_) (fun h2 => ?_)
    · refine lv_iload_n hx hb dC_takes_23 rfl (lv_at hl 1 rfl) ?_
      refine ro_i (va_Run.run (va_runSN (As := [.int v]) (rest := []) ⟨hx, hb, hml, hown, hT⟩ (k_isNumber l D cT v) ⟨va_cnB 1 hT (tb_gd w630) rfl rfl rfl (hZ.1.2.1 ("ResidualTrees$Column", 27, ⟨"ResidualTrees", "isNumber", "(I)Z"⟩, "ResidualTrees") (List.mem_of_getElem? (i := 9) rfl)) (hT _ w1) hR_isNumber ⟨Nat.le_of_ble_eq_true rfl, Nat.le_of_ble_eq_true rfl⟩, (hT _ w629), trivial⟩ (RO.preS hZ hS ((show va_P D vwCl [] _ from fun _ _ h => nomatch h)) hK) rfl rfl hl.1 rfl (lv_room (Nat.le_of_ble_eq_true rfl)) dC_takes_24 ⟨Nat.le_of_ble_eq_true rfl, Nat.le_of_ble_eq_true rfl⟩)) ?_
      refine lv_if_eq (tgt := 34) hx hb dC_takes_27 rfl (fun h3 => ?_) (fun h3 => ?_)
      · refine lv_iconst (v := 0) hx hb dC_takes_34 (by decide) ?_
        exact W.zret (v := 0) hx hb hr rfl (fun t9 ht9 hW9 => ⟨tak_n h1 h2 h3, ht9⟩) (fun q h => nomatch h) dC_takes_35
      · refine lv_iconst (v := 1) hx hb dC_takes_30 (by decide) ?_
        refine lv_goto (tgt := 35) hx hb dC_takes_31 rfl ?_
        exact W.zret (v := 1) hx hb hr rfl (fun t9 ht9 hW9 => ⟨tak_n h1 h2 (bi_1 h3), ht9⟩) (fun q h => nomatch h) dC_takes_35
    · refine lv_iload_n hx hb dC_takes_13 rfl (lv_at hl 1 rfl) ?_
      refine ro_i (va_Run.run (va_runSN (As := [.int v]) (rest := []) ⟨hx, hb, hml, hown, hT⟩ (k_isKind l D cT v) ⟨va_cnB 1 hT (tb_gd w435) rfl rfl rfl (hZ.1.2.1 ("ResidualTrees$Column", 23, ⟨"ResidualTrees", "isKind", "(I)Z"⟩, "ResidualTrees") (List.mem_of_getElem? (i := 8) rfl)) (hT _ w1) hR_isKind ⟨Nat.le_of_ble_eq_true rfl, Nat.le_of_ble_eq_true rfl⟩, (hT _ w434), trivial⟩ (RO.preS hZ hS ((show va_P D vwCl [] _ from fun _ _ h => nomatch h)) hK) rfl rfl hl.1 rfl (lv_room (Nat.le_of_ble_eq_true rfl)) dC_takes_14 ⟨Nat.le_of_ble_eq_true rfl, Nat.le_of_ble_eq_true rfl⟩)) ?_
      refine lv_if_eq (tgt := 34) hx hb dC_takes_17 rfl (fun h4 => ?_) (fun h4 => ?_)
      · refine lv_iconst (v := 0) hx hb dC_takes_34 (by decide) ?_
        exact W.zret (v := 0) hx hb hr rfl (fun t9 ht9 hW9 => ⟨tak_k h1 h2 h4, ht9⟩) (fun q h => nomatch h) dC_takes_35
      · refine lv_goto (tgt := 30) hx hb dC_takes_20 rfl ?_
        refine lv_iconst (v := 1) hx hb dC_takes_30 (by decide) ?_
        refine lv_goto (tgt := 35) hx hb dC_takes_31 rfl ?_
        exact W.zret (v := 1) hx hb hr rfl (fun t9 ht9 hW9 => ⟨tak_k h1 h2 (bi_1 h4), ht9⟩) (fun q h => nomatch h) dC_takes_35
set_option maxHeartbeats 4000000 in
set_option maxRecDepth 100000 in
theorem k_exchange (l : Launch) (D : va_G) (cT : Nat → ClassId) (h : Nat) (cv : Nat) (ce : Nat) (ec : Int32) (ok : Int32) (fv : Nat → Int32) (r : Nat) (v : Int32) (hr49 : r < 49) (sz : Nat) : Met l yC_exchange WC_exchange ({ frames := 0, cells := 0, slots := 0, locals := 0 } : Room) (RW D vwCl [.ref h, .int (nI r), .int v] [(h, .inr (1, [.ref cv, .ref ce, .int ec, .int ok])), (cv, .inl (cT 0, 49, .inl fv))] (TY cT) sz) (va_Qi (fun (r9 : Int32) (u9 : Unit) => r9 = fv r) (BW D vwCl (va_A [(h, .inr (1, [.ref cv, .ref ce, .int ec, .int ok])), (cv, .inl (cT 0, 49, .inl fv))] sz) (fun u9 : Unit => [(h, .inr (1, [.ref cv, .ref ce, .int ec, .int ok])), (cv, .inl (cT 0, 49, .inl (upd fv r v)))])) (va_A [(h, .inr (1, [.ref cv, .ref ce, .int ec, .int ok])), (cv, .inl (cT 0, 49, .inl fv))] sz)) 0 0 (va_A [(h, .inr (1, [.ref cv, .ref ce, .int ec, .int ok])), (cv, .inl (cT 0, 49, .inl fv))] sz) := by
  refine Met.ofW (cc := cC_exchange) (maxL := 4) (ret := (some .int)) (by decide) rfl ?_
  intro p e s m args below meth c s₁ B hml hv
  obtain ⟨rfl, hsz, hZ, hP, hK, hD0⟩ := hv
  have hx := B.exec
  have hb := B.bytes
  have hr := B.returns
  have hts := atoms_spec (ws := WC_exchange) B.pre
  have hT : ∀ w ∈ TB, w.before _ s = true := fun w h => hts w (List.mem_cons_of_mem _ h)
  have hown : s.vm.findClass R_C = some m.cls := findClass_of_methodNamed B.named
  have hlocks := B.notSynchronized
  subst hsz
  have hD := hD0.self (sz := s.heap.size)
  generalize hAe : va_A [(h, .inr (1, [.ref cv, .ref ce, .int ec, .int ok])), (cv, .inl (cT 0, 49, .inl fv))] s.heap.size = A at hD hZ ⊢
  have hA : ∀ q : Nat, s.heap.size ≤ q → A q := fun q h => by rw [← hAe]; exact Or.inr h
  have hS : va_S A s.heap s.heap [] := va_S.rf
  have hl := lv_entry ([.ref h, .int (nI r), .int v]) (n := 4) (Nat.le_of_ble_eq_true rfl)
  rw [lg_entry_eq]
  generalize (lg_sl ([.ref h, .int (nI r), .int v]) ++ List.replicate (4 - (lg_sl ([.ref h, .int (nI r), .int v])).length) Slot.unset).toArray = ls at hl ⊢
  have hl : lv_has ls 4 [(0, .ref h), (1, .int (nI r)), (2, .int v)] := hl
  refine lv_aload_n hx hb dC_exchange_0 rfl (lv_at hl 0 rfl) ?_
  refine va_get (D := D) (ci := 1) (v := .ref cv) (C := R_C) (T := T_C) (N := 4) hx hb hT in_C hown hK hP 0 rfl rfl 0 (by decide) (hT _ w50) (fun _ h9 => h9) rfl dC_exchange_1 ?_
  refine lv_iload_n hx hb dC_exchange_4 rfl (lv_at hl 1 rfl) ?_
  refine lq_iald (j := r) hx hb hK hP 1 0 rfl rfl rfl (by omega) (by omega) dC_exchange_5 ?_
  refine lv_istore_n hx hb dC_exchange_6 rfl hl (by decide) rfl (fun ls hl => ?_)
  have hl : lv_has ls 4 [(3, .int (fv r)), (0, .ref h), (1, .int (nI r)), (2, .int v)] := hl
  refine lv_aload_n hx hb dC_exchange_7 rfl (lv_at hl 1 rfl) ?_
  refine va_get (D := D) (ci := 1) (v := .ref cv) (C := R_C) (T := T_C) (N := 4) hx hb hT in_C hown hK hP 0 rfl rfl 0 (by decide) (hT _ w50) (fun _ h9 => h9) rfl dC_exchange_8 ?_
  refine lv_iload_n hx hb dC_exchange_11 rfl (lv_at hl 2 rfl) ?_
  refine lv_iload_n hx hb dC_exchange_12 rfl (lv_at hl 3 rfl) ?_
  refine lq_iast (j := r) hx hb hK hP hD hS 1 0 rfl rfl rfl (by omega) (by omega) dC_exchange_13 (fun H locs hP hD hS => ?_)
  have hP : va_P D vwCl [(h, .inr (1, [.ref cv, .ref ce, .int ec, .int ok])), (cv, .inl (cT 0, 49, .inl (upd fv r v)))] _ := hP
  have hD : va_D A [(h, .inr (1, [.ref cv, .ref ce, .int ec, .int ok])), (cv, .inl (cT 0, 49, .inl (upd fv r v)))] := hD
  refine lv_iload_n hx hb dC_exchange_14 rfl (lv_at hl 0 rfl) ?_
  have hP9 := hP.sub (ws' := [(h, .inr (1, [.ref cv, .ref ce, .int ec, .int ok])), (cv, .inl (cT 0, 49, .inl (upd fv r v)))]) [0, 1] rfl
  have hD9 := hD.sub (ws' := [(h, .inr (1, [.ref cv, .ref ce, .int ec, .int ok])), (cv, .inl (cT 0, 49, .inl (upd fv r v)))]) [0, 1] (by decide) rfl
  refine W.widen (k := 0) (n := 0) (Nat.le_of_ble_eq_true rfl) (Nat.le_of_ble_eq_true rfl) ?_
  exact W.iret (v := fv r) hx hb hr (fun t9 ht9 hW9 => ⟨⟨fv r, (), rfl, (show (fv r) = fv r from rfl), by rw [ht9]; exact hP9, hD9⟩, hS.F ht9⟩) hS.2.2 dC_exchange_15
set_option maxHeartbeats 4000000 in
set_option maxRecDepth 100000 in
theorem k_alone (l : Launch) (D : va_G) (cT : Nat → ClassId) (h : Nat) (cv : Nat) (ce : Nat) (ec : Int32) (ok : Int32) (fv : Nat → Int32) (n : Nat) (hn48 : n ≤ 48) : Met l yC_hasKindsAlone WC_hasKindsAlone ({ frames := 1, cells := 0, slots := 0, locals := 20 } : Room) (RO D vwCl [.ref h, .int (nI n)] [(h, .inr (1, [.ref cv, .ref ce, .int ec, .int ok])), (cv, .inl (cT 0, 49, .inl fv))] (TY cT)) (QcRead (bn (kaB fv n))) 0 0 (fun _ => False) := by
  refine Met.ofW (cc := cC_hasKindsAlone) (maxL := 4) (ret := (some .boolean)) (by decide) rfl ?_
  intro p e s m args below meth c s₁ B hml hv
  obtain ⟨rfl, hZ, hP, hK⟩ := hv
  have hx := B.exec
  have hb := B.bytes
  have hr := B.returns
  have hts := atoms_spec (ws := WC_hasKindsAlone) B.pre
  have hT : ∀ w ∈ TB, w.before _ s = true := fun w h => hts w (List.mem_cons_of_mem _ h)
  have hown : s.vm.findClass R_C = some m.cls := findClass_of_methodNamed B.named
  have hlocks := B.notSynchronized
  have hS : va_S (fun _ => False) s.heap s.heap [] := va_S.rf
  have hl := lv_entry ([.ref h, .int (nI n)]) (n := 4) (Nat.le_of_ble_eq_true rfl)
  rw [lg_entry_eq]
  generalize (lg_sl ([.ref h, .int (nI n)]) ++ List.replicate (4 - (lg_sl ([.ref h, .int (nI n)])).length) Slot.unset).toArray = ls at hl ⊢
  have hl : lv_has ls 4 [(0, .ref h), (1, .int (nI n))] := hl
  refine lv_iconst (v := 1) hx hb dC_hasKindsAlone_0 (by decide) ?_
  refine lv_istore_n hx hb dC_hasKindsAlone_1 rfl hl (by decide) rfl (fun ls hl => ?_)
  have hl : lv_has ls 4 [(2, .int 1), (0, .ref h), (1, .int (nI n))] := hl
  refine lv_iconst (v := 0) hx hb dC_hasKindsAlone_2 (by decide) ?_
  refine lv_istore_n hx hb dC_hasKindsAlone_3 rfl hl (by decide) rfl (fun ls hl => ?_)
  have hl : lv_has ls 4 [(3, .int 0), (2, .int 1), (0, .ref h), (1, .int (nI n))] := hl
  have hl : lv_has ls 4 [(3, .int 0), (2, .int (bn (kaB fv 0))), (0, .ref h), (1, .int (nI n))] := by
    rw [show bn (kaB fv 0) = 1 from rfl]; exact hl
  refine lp_r (α := Nat) (fun a9 => a9 ≤ n) (fun a9 => n - a9) (fun a9 => [(0, .ref h), (1, .int (nI n)), (2, .int (bn (kaB fv a9))), (3, .int (nI a9))]) 4 ?_ 0 (show 0 ≤ n from by omega) (lv_sub hl [2, 3, 1, 0] rfl)
  intro a9 hI4 ih4 ls hl
  obtain ⟨r, rfl⟩ : ∃ q9, q9 = a9 := ⟨_, rfl⟩
  have hI4 : r ≤ n := hI4
  have hl : lv_has ls 4 [(0, .ref h), (1, .int (nI n)), (2, .int (bn (kaB fv r))), (3, .int (nI r))] := hl
  refine lv_iload_n hx hb dC_hasKindsAlone_4 rfl (lv_at hl 3 rfl) ?_
  refine lv_iload_n hx hb dC_hasKindsAlone_5 rfl (lv_at hl 1 rfl) ?_
  refine lv_icmp_ge (tgt := 48) hx hb dC_hasKindsAlone_6 rfl (fun h1 => ?_) (fun h1 => ?_)
  · have gh1 : n ≤ r := (nI_leI (a := n) (b := r) (by omega) (by omega)).mp h1
    refine lv_iload_n hx hb dC_hasKindsAlone_48 rfl (lv_at hl 2 rfl) ?_
    exact W.zret (v := bn (kaB fv r)) hx hb hr bn_n (fun t9 ht9 hW9 => ⟨by rw [show r = n by omega], ht9⟩) (fun q h => nomatch h) dC_hasKindsAlone_49
  · have gh1 : r < n := Nat.not_le.mp (fun q => h1 ((nI_leI (a := n) (b := r) (by omega) (by omega)).mpr q))
    refine lp_cut (fun x9 : Int32 => x9 = bn (kaB fv (r + 1))) (fun x9 => [.int x9]) 41 ls (fun x9 e9 => ?_) (fun hct2 => ?_)
    · cases (show x9 = bn (kaB fv (r + 1)) from e9)
      refine lv_istore_n hx hb dC_hasKindsAlone_41 rfl hl (by decide) rfl (fun ls hl => ?_)
      have hl : lv_has ls 4 [(2, .int (bn (kaB fv (r + 1)))), (0, .ref h), (1, .int (nI n)), (3, .int (nI r))] := hl
      refine lv_iinc (k := 3) (v := nI (r + 1)) hx hb dC_hasKindsAlone_42 hl rfl (nI_1 r) (by decide) rfl (fun ls hl => ?_)
      have hl : lv_has ls 4 [(3, .int (nI (r + 1))), (2, .int (bn (kaB fv (r + 1)))), (0, .ref h), (1, .int (nI n))] := hl
      refine lv_goto (tgt := 4) hx hb dC_hasKindsAlone_45 rfl ?_
      exact ih4 (r + 1) (show (r + 1) ≤ n from by omega) (show n - (r + 1) < n - r from (by omega)) ls (lv_sub hl [2, 3, 1, 0] rfl)
    · refine lv_iload_n hx hb dC_hasKindsAlone_9 rfl (lv_at hl 2 rfl) ?_
      refine lv_if_eq (tgt := 40) hx hb dC_hasKindsAlone_10 rfl (fun h3 => ?_) (fun h3 => ?_)
      · refine lv_iconst (v := 0) hx hb dC_hasKindsAlone_40 (by decide) ?_
        exact hct2 _ (ka_0 h3)
      · refine lv_aload_n hx hb dC_hasKindsAlone_13 rfl (lv_at hl 0 rfl) ?_
        refine va_get (D := D) (ci := 1) (v := .ref cv) (C := R_C) (T := T_C) (N := 4) hx hb hT in_C hown hK hP 0 rfl rfl 0 (by decide) (hT _ w50) (fun _ h9 => h9) rfl dC_hasKindsAlone_14 ?_
        refine lv_iload_n hx hb dC_hasKindsAlone_17 rfl (lv_at hl 3 rfl) ?_
        refine lq_iald (j := r) hx hb hK hP 1 0 rfl rfl rfl (by omega) (by omega) dC_hasKindsAlone_18 ?_
        refine lv_ldc (v := (-2147483648)) hx hb hown (hT _ w626) dC_hasKindsAlone_19 ?_
        refine lv_icmp_eq (tgt := 36) hx hb dC_hasKindsAlone_21 rfl (fun h4 => ?_) (fun h4 => ?_)
        · refine lv_iconst (v := 1) hx hb dC_hasKindsAlone_36 (by decide) ?_
          refine lv_goto (tgt := 41) hx hb dC_hasKindsAlone_37 rfl ?_
          exact hct2 _ (ka_1 h3 h4)
        · refine lv_aload_n hx hb dC_hasKindsAlone_24 rfl (lv_at hl 0 rfl) ?_
          refine va_get (D := D) (ci := 1) (v := .ref cv) (C := R_C) (T := T_C) (N := 4) hx hb hT in_C hown hK hP 0 rfl rfl 0 (by decide) (hT _ w50) (fun _ h9 => h9) rfl dC_hasKindsAlone_25 ?_
          refine lv_iload_n hx hb dC_hasKindsAlone_28 rfl (lv_at hl 3 rfl) ?_
          refine lq_iald (j := r) hx hb hK hP 1 0 rfl rfl rfl (by omega) (by omega) dC_hasKindsAlone_29 ?_
          refine ro_i (va_Run.run (va_runSN (As := [.int (fv r)]) (rest := []) ⟨hx, hb, hml, hown, hT⟩ (k_isKind l D cT (fv r)) ⟨va_cnB 1 hT (tb_gd w435) rfl rfl rfl (hZ.1.2.1 ("ResidualTrees$Column", 23, ⟨"ResidualTrees", "isKind", "(I)Z"⟩, "ResidualTrees") (List.mem_of_getElem? (i := 8) rfl)) (hT _ w1) hR_isKind ⟨Nat.le_of_ble_eq_true rfl, Nat.le_of_ble_eq_true rfl⟩, (hT _ w434), trivial⟩ (RO.preS hZ hS ((show va_P D vwCl [] _ from fun _ _ h => nomatch h)) hK) rfl rfl hl.1 rfl (lv_room (Nat.le_of_ble_eq_true rfl)) dC_hasKindsAlone_30 ⟨Nat.le_of_ble_eq_true rfl, Nat.le_of_ble_eq_true rfl⟩)) ?_
          refine lv_if_eq (tgt := 40) hx hb dC_hasKindsAlone_33 rfl (fun h5 => ?_) (fun h5 => ?_)
          · refine lv_iconst (v := 0) hx hb dC_hasKindsAlone_40 (by decide) ?_
            exact hct2 _ (ka_3 h4 (bi_0 h5))
          · refine lv_iconst (v := 1) hx hb dC_hasKindsAlone_36 (by decide) ?_
            refine lv_goto (tgt := 41) hx hb dC_hasKindsAlone_37 rfl ?_
            exact hct2 _ (ka_2 h3 (bi_1 h5))
set_option maxHeartbeats 4000000 in
set_option maxRecDepth 100000 in
theorem k_become (l : Launch) (D : va_G) (cT : Nat → ClassId) (h : Nat) (cv : Nat) (ce : Nat) (ec : Int32) (ok : Int32) (kz : Int32) (hk : kz = 0 ∨ kz = 1) (hok : ok = 0 ∨ ok = 1) (sz : Nat) : Met l yC_become WC_become ({ frames := 0, cells := 0, slots := 0, locals := 0 } : Room) (RW D vwCl [.ref h, .int kz] [(h, .inr (1, [.ref cv, .ref ce, .int ec, .int ok]))] (TY cT) sz) (va_Qi (fun (r9 : Int32) (u9 : Unit) => r9 = ok) (BW D vwCl (va_A [(h, .inr (1, [.ref cv, .ref ce, .int ec, .int ok]))] sz) (fun u9 : Unit => [(h, .inr (1, [.ref cv, .ref ce, .int 0, .int kz]))])) (va_A [(h, .inr (1, [.ref cv, .ref ce, .int ec, .int ok]))] sz)) 0 0 (va_A [(h, .inr (1, [.ref cv, .ref ce, .int ec, .int ok]))] sz) := by
  refine Met.ofW (cc := cC_become) (maxL := 3) (ret := (some .boolean)) (by decide) rfl ?_
  intro p e s m args below meth c s₁ B hml hv
  obtain ⟨rfl, hsz, hZ, hP, hK, hD0⟩ := hv
  have hx := B.exec
  have hb := B.bytes
  have hr := B.returns
  have hts := atoms_spec (ws := WC_become) B.pre
  have hT : ∀ w ∈ TB, w.before _ s = true := fun w h => hts w (List.mem_cons_of_mem _ h)
  have hown : s.vm.findClass R_C = some m.cls := findClass_of_methodNamed B.named
  have hlocks := B.notSynchronized
  subst hsz
  have hD := hD0.self (sz := s.heap.size)
  generalize hAe : va_A [(h, .inr (1, [.ref cv, .ref ce, .int ec, .int ok]))] s.heap.size = A at hD hZ ⊢
  have hA : ∀ q : Nat, s.heap.size ≤ q → A q := fun q h => by rw [← hAe]; exact Or.inr h
  have hS : va_S A s.heap s.heap [] := va_S.rf
  have hl := lv_entry ([.ref h, .int kz]) (n := 3) (Nat.le_of_ble_eq_true rfl)
  rw [lg_entry_eq]
  generalize (lg_sl ([.ref h, .int kz]) ++ List.replicate (3 - (lg_sl ([.ref h, .int kz])).length) Slot.unset).toArray = ls at hl ⊢
  have hl : lv_has ls 3 [(0, .ref h), (1, .int kz)] := hl
  refine lv_aload_n hx hb dC_become_0 rfl (lv_at hl 0 rfl) ?_
  refine va_get (D := D) (ci := 1) (v := .int ok) (C := R_C) (T := T_C) (N := 4) hx hb hT in_C hown hK hP 0 rfl rfl 3 (by decide) (hT _ w60) (fun _ h9 => h9) rfl dC_become_1 ?_
  refine lv_istore_n hx hb dC_become_4 rfl hl (by decide) rfl (fun ls hl => ?_)
  have hl : lv_has ls 3 [(2, .int ok), (0, .ref h), (1, .int kz)] := hl
  refine lv_aload_n hx hb dC_become_5 rfl (lv_at hl 1 rfl) ?_
  refine lv_iload_n hx hb dC_become_6 rfl (lv_at hl 2 rfl) ?_
  refine va_put (D := D) (ci := 1) (v := .int kz) (ty := .boolean) (C := R_C) (T := T_C) (N := 4) hx hb hT in_C ty_C ty_C_ok m_C hown hK hP hD hS 0 rfl rfl 3 (by decide) (hT _ w60) (fun _ h9 => h9) rfl (by decide +kernel) (nar_z hk) rfl (Nat.le_of_ble_eq_true rfl) dC_become_7 (fun H locs hP hD hS => ?_)
  have hP : va_P D vwCl [(h, .inr (1, [.ref cv, .ref ce, .int ec, .int kz]))] _ := hP
  have hD : va_D A [(h, .inr (1, [.ref cv, .ref ce, .int ec, .int kz]))] := hD
  refine lv_aload_n hx hb dC_become_10 rfl (lv_at hl 1 rfl) ?_
  refine lv_iconst (v := 0) hx hb dC_become_11 (by decide) ?_
  refine va_put (D := D) (ci := 1) (v := .int 0) (ty := .int) (C := R_C) (T := T_C) (N := 4) hx hb hT in_C ty_C ty_C_ok m_C hown hK hP hD hS 0 rfl rfl 2 (by decide) (hT _ w57) (fun _ h9 => h9) rfl (by decide +kernel) rfl rfl (Nat.le_of_ble_eq_true rfl) dC_become_12 (fun H locs hP hD hS => ?_)
  have hP : va_P D vwCl [(h, .inr (1, [.ref cv, .ref ce, .int 0, .int kz]))] _ := hP
  have hD : va_D A [(h, .inr (1, [.ref cv, .ref ce, .int 0, .int kz]))] := hD
  refine lv_iload_n hx hb dC_become_15 rfl (lv_at hl 0 rfl) ?_
  have hP9 := hP.sub (ws' := [(h, .inr (1, [.ref cv, .ref ce, .int 0, .int kz]))]) [0] rfl
  have hD9 := hD.sub (ws' := [(h, .inr (1, [.ref cv, .ref ce, .int 0, .int kz]))]) [0] (by decide) rfl
  refine W.widen (k := 0) (n := 0) (Nat.le_of_ble_eq_true rfl) (Nat.le_of_ble_eq_true rfl) ?_
  exact W.zret (v := ok) hx hb hr (nar_z hok) (fun t9 ht9 hW9 => ⟨⟨ok, (), rfl, (show ok = ok from rfl), by rw [ht9]; exact hP9, hD9⟩, hS.F ht9⟩) hS.2.2 dC_become_16
set_option maxHeartbeats 4000000 in
set_option maxRecDepth 100000 in
theorem k_binOfK (l : Launch) (D : va_G) (cT : Nat → ClassId) (h : Nat) (cv : Nat) (ce : Nat) (ec : Int32) (ok : Int32) (v : Int32) (hk : ¬ ok = 0) : Met l yC_binOf WC_binOf ({ frames := 0, cells := 0, slots := 0, locals := 0 } : Room) (RO D vwCl [.ref h, .int v] [(h, .inr (1, [.ref cv, .ref ce, .int ec, .int ok]))] (TY cT)) (QcRead v) 0 0 (fun _ => False) := by
  refine Met.ofW (cc := cC_binOf) (maxL := 3) (ret := (some .int)) (by decide) rfl ?_
  intro p e s m args below meth c s₁ B hml hv
  obtain ⟨rfl, hZ, hP, hK⟩ := hv
  have hx := B.exec
  have hb := B.bytes
  have hr := B.returns
  have hts := atoms_spec (ws := WC_binOf) B.pre
  have hT : ∀ w ∈ TB, w.before _ s = true := fun w h => hts w (List.mem_cons_of_mem _ h)
  have hown : s.vm.findClass R_C = some m.cls := findClass_of_methodNamed B.named
  have hlocks := B.notSynchronized
  have hS : va_S (fun _ => False) s.heap s.heap [] := va_S.rf
  have hl := lv_entry ([.ref h, .int v]) (n := 3) (Nat.le_of_ble_eq_true rfl)
  rw [lg_entry_eq]
  generalize (lg_sl ([.ref h, .int v]) ++ List.replicate (3 - (lg_sl ([.ref h, .int v])).length) Slot.unset).toArray = ls at hl ⊢
  have hl : lv_has ls 3 [(0, .ref h), (1, .int v)] := hl
  refine lv_aload_n hx hb dC_binOf_0 rfl (lv_at hl 0 rfl) ?_
  refine va_get (D := D) (ci := 1) (v := .int ok) (C := R_C) (T := T_C) (N := 4) hx hb hT in_C hown hK hP 0 rfl rfl 3 (by decide) (hT _ w60) (fun _ h9 => h9) rfl dC_binOf_1 ?_
  refine lv_if_eq (tgt := 9) hx hb dC_binOf_4 rfl (fun h1 => absurd h1 hk) (fun _ => ?_)
  refine lv_iload_n hx hb dC_binOf_7 rfl (lv_at hl 1 rfl) ?_
  exact W.iret (v := v) hx hb hr (fun t9 ht9 hW9 => ⟨rfl, ht9⟩) (fun q h => nomatch h) dC_binOf_8
set_option maxHeartbeats 4000000 in
set_option maxRecDepth 100000 in
theorem k_binOfN (l : Launch) (D : va_G) (cT : Nat → ClassId) (h : Nat) (cv : Nat) (ce : Nat) (ec : Int32) (ok : Int32) (fe : Nat → Int32) (eg : Nat → Int32) (b0 : Nat) (ne : Nat) (v : Int32) (hk : ok = 0) (hec : ec = nI ne) (hne : ne ≤ 11) (hE : ∀ i, i < ne → fe i = eg (b0 + i)) (hS9 : RIS eg b0 ne) : Met l yC_binOf WC_binOf ({ frames := 0, cells := 0, slots := 0, locals := 0 } : Room) (RO D vwCl [.ref h, .int v] [(h, .inr (1, [.ref cv, .ref ce, .int ec, .int ok])), (ce, .inl (cT 0, 11, .inl fe))] (TY cT)) (QcRead (nI (cnE eg b0 v ne))) 0 0 (fun _ => False) := by
  refine Met.ofW (cc := cC_binOf) (maxL := 3) (ret := (some .int)) (by decide) rfl ?_
  intro p e s m args below meth c s₁ B hml hv
  obtain ⟨rfl, hZ, hP, hK⟩ := hv
  have hx := B.exec
  have hb := B.bytes
  have hr := B.returns
  have hts := atoms_spec (ws := WC_binOf) B.pre
  have hT : ∀ w ∈ TB, w.before _ s = true := fun w h => hts w (List.mem_cons_of_mem _ h)
  have hown : s.vm.findClass R_C = some m.cls := findClass_of_methodNamed B.named
  have hlocks := B.notSynchronized
  have hS : va_S (fun _ => False) s.heap s.heap [] := va_S.rf
  have hl := lv_entry ([.ref h, .int v]) (n := 3) (Nat.le_of_ble_eq_true rfl)
  rw [lg_entry_eq]
  generalize (lg_sl ([.ref h, .int v]) ++ List.replicate (3 - (lg_sl ([.ref h, .int v])).length) Slot.unset).toArray = ls at hl ⊢
  have hl : lv_has ls 3 [(0, .ref h), (1, .int v)] := hl
  refine lv_aload_n hx hb dC_binOf_0 rfl (lv_at hl 0 rfl) ?_
  refine va_get (D := D) (ci := 1) (v := .int ok) (C := R_C) (T := T_C) (N := 4) hx hb hT in_C hown hK hP 0 rfl rfl 3 (by decide) (hT _ w60) (fun _ h9 => h9) rfl dC_binOf_1 ?_
  refine lv_if_eq (tgt := 9) hx hb dC_binOf_4 rfl (fun _ => ?_) (fun h1 => absurd hk h1)
  refine lv_iconst (v := 0) hx hb dC_binOf_9 (by decide) ?_
  refine lv_istore_n hx hb dC_binOf_10 rfl hl (by decide) rfl (fun ls hl => ?_)
  have hl : lv_has ls 3 [(2, .int 0), (0, .ref h), (1, .int v)] := hl
  refine lp_r (α := Nat) (fun a9 => a9 ≤ ne ∧ ∀ i, i < a9 → eg (b0 + i) ≤ v) (fun a9 => ne - a9) (fun a9 => [(0, .ref h), (1, .int v), (2, .int (nI a9))]) 11 ?_ 0 (show 0 ≤ ne ∧ ∀ i, i < 0 → eg (b0 + i) ≤ v from ⟨by omega, fun i h => absurd h (by omega)⟩) (lv_sub hl [1, 2, 0] rfl)
  intro a9 hI11 ih11 ls hl
  obtain ⟨k, rfl⟩ : ∃ q9, q9 = a9 := ⟨_, rfl⟩
  have hI11 : k ≤ ne ∧ ∀ i, i < k → eg (b0 + i) ≤ v := hI11
  obtain ⟨ik9, il⟩ := hI11
  have hl : lv_has ls 3 [(0, .ref h), (1, .int v), (2, .int (nI k))] := hl
  refine lv_iload_n hx hb dC_binOf_11 rfl (lv_at hl 2 rfl) ?_
  refine lv_aload_n hx hb dC_binOf_12 rfl (lv_at hl 0 rfl) ?_
  refine va_get (D := D) (ci := 1) (v := .int ec) (C := R_C) (T := T_C) (N := 4) hx hb hT in_C hown hK hP 0 rfl rfl 2 (by decide) (hT _ w57) (fun _ h9 => h9) rfl dC_binOf_13 ?_
  refine lv_topi (fun y9 e9 => ?_)
  cases (show y9 = nI ne from e9.trans hec)
  refine lv_icmp_ge (tgt := 35) hx hb dC_binOf_16 rfl (fun h2 => ?_) (fun h2 => ?_)
  · have gh2 : ne ≤ k := (nI_leI (a := ne) (b := k) (by omega) (by omega)).mp h2
    refine lv_iload_n hx hb dC_binOf_35 rfl (lv_at hl 2 rfl) ?_
    exact W.iret (v := nI k) hx hb hr (fun t9 ht9 hW9 => ⟨by rw [cnE_srt hS9 ik9 il (Or.inl (by omega))], ht9⟩) (fun q h => nomatch h) dC_binOf_36
  · have gh2 : k < ne := Nat.not_le.mp (fun q => h2 ((nI_leI (a := ne) (b := k) (by omega) (by omega)).mpr q))
    refine lv_aload_n hx hb dC_binOf_19 rfl (lv_at hl 0 rfl) ?_
    refine va_get (D := D) (ci := 1) (v := .ref ce) (C := R_C) (T := T_C) (N := 4) hx hb hT in_C hown hK hP 0 rfl rfl 1 (by decide) (hT _ w54) (fun _ h9 => h9) rfl dC_binOf_20 ?_
    refine lv_iload_n hx hb dC_binOf_23 rfl (lv_at hl 2 rfl) ?_
    refine lq_iald (j := k) hx hb hK hP 1 0 rfl rfl rfl (by omega) (by omega) dC_binOf_24 ?_
    refine lv_iload_n hx hb dC_binOf_25 rfl (lv_at hl 1 rfl) ?_
    refine lv_icmp_gt (tgt := 35) hx hb dC_binOf_26 rfl (fun h3 => ?_) (fun h3 => ?_)
    · refine lv_iload_n hx hb dC_binOf_35 rfl (lv_at hl 2 rfl) ?_
      exact W.iret (v := nI k) hx hb hr (fun t9 ht9 hW9 => ⟨by rw [cnE_srt hS9 ik9 il (Or.inr (by rw [← hE k (by omega)]; exact h3))], ht9⟩) (fun q h => nomatch h) dC_binOf_36
    · refine lv_iinc (k := 2) (v := nI (k + 1)) hx hb dC_binOf_29 hl rfl (nI_1 k) (by decide) rfl (fun ls hl => ?_)
      have hl : lv_has ls 3 [(2, .int (nI (k + 1))), (0, .ref h), (1, .int v)] := hl
      refine lv_goto (tgt := 11) hx hb dC_binOf_32 rfl ?_
      exact ih11 (k + 1) (show (k + 1) ≤ ne ∧ ∀ i, i < (k + 1) → eg (b0 + i) ≤ v from ⟨by omega, fun i h => (by by_cases r9 : i = k; (rw [r9, ← hE k (by omega)]; exact Int32.not_lt.mp h3); (exact il i (by omega)))⟩) (show ne - (k + 1) < ne - k from (by omega)) ls (lv_sub hl [1, 2, 0] rfl)
set_option maxHeartbeats 4000000 in
set_option maxRecDepth 100000 in
theorem k_becomeLeaf (l : Launch) (D : va_G) (cT : Nat → ClassId) (h : Nat) (ns : Nat) (nq0 : Int32) (nq1 : Int32) (nq2 : Int32) (nq3 : Int32) (nq4 : Int32) (nq5 : Int32) (nq6 : Int32) (nq7 : Int32) (sz : Nat) : Met l yN_becomeLeaf WN_becomeLeaf ({ frames := 0, cells := 0, slots := 0, locals := 0 } : Room) (RW D vwCl [.ref h] [(h, .inr (10, [.int nq0, .int nq1, .int nq2, .int nq3, .int nq4, .int nq5, .int nq6, .int nq7, .ref ns]))] (TY cT) sz) (va_Qv (fun u9 : Unit => True) (BW D vwCl (va_A [(h, .inr (10, [.int nq0, .int nq1, .int nq2, .int nq3, .int nq4, .int nq5, .int nq6, .int nq7, .ref ns]))] sz) (fun u9 : Unit => [(h, .inr (10, [.int (-1), .int 0, .int 0, .int 0, .int (-1), .int (-1), .int nq6, .int nq7, .ref ns]))])) (va_A [(h, .inr (10, [.int nq0, .int nq1, .int nq2, .int nq3, .int nq4, .int nq5, .int nq6, .int nq7, .ref ns]))] sz)) 0 0 (va_A [(h, .inr (10, [.int nq0, .int nq1, .int nq2, .int nq3, .int nq4, .int nq5, .int nq6, .int nq7, .ref ns]))] sz) := by
  refine Met.ofW (cc := cN_becomeLeaf) (maxL := 1) (ret := none) (by decide) rfl ?_
  intro p e s m args below meth c s₁ B hml hv
  obtain ⟨rfl, hsz, hZ, hP, hK, hD0⟩ := hv
  have hx := B.exec
  have hb := B.bytes
  have hr := B.returns
  have hts := atoms_spec (ws := WN_becomeLeaf) B.pre
  have hT : ∀ w ∈ TB, w.before _ s = true := fun w h => hts w (List.mem_cons_of_mem _ h)
  have hown : s.vm.findClass R_N = some m.cls := findClass_of_methodNamed B.named
  have hlocks := B.notSynchronized
  subst hsz
  have hD := hD0.self (sz := s.heap.size)
  generalize hAe : va_A [(h, .inr (10, [.int nq0, .int nq1, .int nq2, .int nq3, .int nq4, .int nq5, .int nq6, .int nq7, .ref ns]))] s.heap.size = A at hD hZ ⊢
  have hA : ∀ q : Nat, s.heap.size ≤ q → A q := fun q h => by rw [← hAe]; exact Or.inr h
  have hS : va_S A s.heap s.heap [] := va_S.rf
  have hl := lv_entry ([.ref h]) (n := 1) (Nat.le_of_ble_eq_true rfl)
  rw [lg_entry_eq]
  generalize (lg_sl ([.ref h]) ++ List.replicate (1 - (lg_sl ([.ref h])).length) Slot.unset).toArray = ls at hl ⊢
  have hl : lv_has ls 1 [(0, .ref h)] := hl
  refine lv_aload_n hx hb dN_becomeLeaf_0 rfl (lv_at hl 0 rfl) ?_
  refine lv_iconst (v := (-1)) hx hb dN_becomeLeaf_1 (by decide) ?_
  refine va_put (D := D) (ci := 10) (v := .int (-1)) (ty := .int) (C := R_N) (T := T_N) (N := 9) hx hb hT in_N ty_N ty_N_ok m_N hown hK hP hD hS 0 rfl rfl 0 (by decide) (hT _ w829) (fun _ h9 => h9) rfl (by decide +kernel) rfl rfl (Nat.le_of_ble_eq_true rfl) dN_becomeLeaf_2 (fun H locs hP hD hS => ?_)
  have hP : va_P D vwCl [(h, .inr (10, [.int (-1), .int nq1, .int nq2, .int nq3, .int nq4, .int nq5, .int nq6, .int nq7, .ref ns]))] _ := hP
  have hD : va_D A [(h, .inr (10, [.int (-1), .int nq1, .int nq2, .int nq3, .int nq4, .int nq5, .int nq6, .int nq7, .ref ns]))] := hD
  refine lv_aload_n hx hb dN_becomeLeaf_5 rfl (lv_at hl 0 rfl) ?_
  refine lv_iconst (v := 0) hx hb dN_becomeLeaf_6 (by decide) ?_
  refine va_put (D := D) (ci := 10) (v := .int 0) (ty := .int) (C := R_N) (T := T_N) (N := 9) hx hb hT in_N ty_N ty_N_ok m_N hown hK hP hD hS 0 rfl rfl 1 (by decide) (hT _ w833) (fun _ h9 => h9) rfl (by decide +kernel) rfl rfl (Nat.le_of_ble_eq_true rfl) dN_becomeLeaf_7 (fun H locs hP hD hS => ?_)
  have hP : va_P D vwCl [(h, .inr (10, [.int (-1), .int 0, .int nq2, .int nq3, .int nq4, .int nq5, .int nq6, .int nq7, .ref ns]))] _ := hP
  have hD : va_D A [(h, .inr (10, [.int (-1), .int 0, .int nq2, .int nq3, .int nq4, .int nq5, .int nq6, .int nq7, .ref ns]))] := hD
  refine lv_aload_n hx hb dN_becomeLeaf_10 rfl (lv_at hl 0 rfl) ?_
  refine lv_iconst (v := 0) hx hb dN_becomeLeaf_11 (by decide) ?_
  refine va_put (D := D) (ci := 10) (v := .int 0) (ty := .boolean) (C := R_N) (T := T_N) (N := 9) hx hb hT in_N ty_N ty_N_ok m_N hown hK hP hD hS 0 rfl rfl 2 (by decide) (hT _ w836) (fun _ h9 => h9) rfl (by decide +kernel) rfl rfl (Nat.le_of_ble_eq_true rfl) dN_becomeLeaf_12 (fun H locs hP hD hS => ?_)
  have hP : va_P D vwCl [(h, .inr (10, [.int (-1), .int 0, .int 0, .int nq3, .int nq4, .int nq5, .int nq6, .int nq7, .ref ns]))] _ := hP
  have hD : va_D A [(h, .inr (10, [.int (-1), .int 0, .int 0, .int nq3, .int nq4, .int nq5, .int nq6, .int nq7, .ref ns]))] := hD
  refine lv_aload_n hx hb dN_becomeLeaf_15 rfl (lv_at hl 0 rfl) ?_
  refine lv_iconst (v := 0) hx hb dN_becomeLeaf_16 (by decide) ?_
  refine va_put (D := D) (ci := 10) (v := .int 0) (ty := .boolean) (C := R_N) (T := T_N) (N := 9) hx hb hT in_N ty_N ty_N_ok m_N hown hK hP hD hS 0 rfl rfl 3 (by decide) (hT _ w839) (fun _ h9 => h9) rfl (by decide +kernel) rfl rfl (Nat.le_of_ble_eq_true rfl) dN_becomeLeaf_17 (fun H locs hP hD hS => ?_)
  have hP : va_P D vwCl [(h, .inr (10, [.int (-1), .int 0, .int 0, .int 0, .int nq4, .int nq5, .int nq6, .int nq7, .ref ns]))] _ := hP
  have hD : va_D A [(h, .inr (10, [.int (-1), .int 0, .int 0, .int 0, .int nq4, .int nq5, .int nq6, .int nq7, .ref ns]))] := hD
  refine lv_aload_n hx hb dN_becomeLeaf_20 rfl (lv_at hl 0 rfl) ?_
  refine lv_iconst (v := (-1)) hx hb dN_becomeLeaf_21 (by decide) ?_
  refine va_put (D := D) (ci := 10) (v := .int (-1)) (ty := .int) (C := R_N) (T := T_N) (N := 9) hx hb hT in_N ty_N ty_N_ok m_N hown hK hP hD hS 0 rfl rfl 4 (by decide) (hT _ w842) (fun _ h9 => h9) rfl (by decide +kernel) rfl rfl (Nat.le_of_ble_eq_true rfl) dN_becomeLeaf_22 (fun H locs hP hD hS => ?_)
  have hP : va_P D vwCl [(h, .inr (10, [.int (-1), .int 0, .int 0, .int 0, .int (-1), .int nq5, .int nq6, .int nq7, .ref ns]))] _ := hP
  have hD : va_D A [(h, .inr (10, [.int (-1), .int 0, .int 0, .int 0, .int (-1), .int nq5, .int nq6, .int nq7, .ref ns]))] := hD
  refine lv_aload_n hx hb dN_becomeLeaf_25 rfl (lv_at hl 0 rfl) ?_
  refine lv_iconst (v := (-1)) hx hb dN_becomeLeaf_26 (by decide) ?_
  refine va_put (D := D) (ci := 10) (v := .int (-1)) (ty := .int) (C := R_N) (T := T_N) (N := 9) hx hb hT in_N ty_N ty_N_ok m_N hown hK hP hD hS 0 rfl rfl 5 (by decide) (hT _ w846) (fun _ h9 => h9) rfl (by decide +kernel) rfl rfl (Nat.le_of_ble_eq_true rfl) dN_becomeLeaf_27 (fun H locs hP hD hS => ?_)
  have hP : va_P D vwCl [(h, .inr (10, [.int (-1), .int 0, .int 0, .int 0, .int (-1), .int (-1), .int nq6, .int nq7, .ref ns]))] _ := hP
  have hD : va_D A [(h, .inr (10, [.int (-1), .int 0, .int 0, .int 0, .int (-1), .int (-1), .int nq6, .int nq7, .ref ns]))] := hD
  have hP9 := hP.sub (ws' := [(h, .inr (10, [.int (-1), .int 0, .int 0, .int 0, .int (-1), .int (-1), .int nq6, .int nq7, .ref ns]))]) [0] rfl
  have hD9 := hD.sub (ws' := [(h, .inr (10, [.int (-1), .int 0, .int 0, .int 0, .int (-1), .int (-1), .int nq6, .int nq7, .ref ns]))]) [0] (by decide) rfl
  refine W.widen (k := 0) (n := 0) (Nat.le_of_ble_eq_true rfl) (Nat.le_of_ble_eq_true rfl) ?_
  exact W.vret hx hb hr (fun t9 ht9 hW9 => ⟨⟨(), rfl, (show True from trivial), by rw [ht9]; exact hP9, hD9⟩, hS.F ht9⟩) hS.2.2 dN_becomeLeaf_30
set_option maxHeartbeats 4000000 in
set_option maxRecDepth 100000 in
theorem k_sendsLeft (l : Launch) (D : va_G) (cT : Nat → ClassId) (h : Nat) (ns : Nat) (nq0 : Int32) (nq1 : Int32) (nq2 : Int32) (nq3 : Int32) (nq4 : Int32) (nq5 : Int32) (nq6 : Int32) (nq7 : Int32) (v : Int32) (htl : nq3 = 0 ∨ nq3 = 1) : Met l yN_sendsLeft WN_sendsLeft ({ frames := 1, cells := 0, slots := 0, locals := 20 } : Room) (RO D vwCl [.ref h, .int v] [(h, .inr (10, [.int nq0, .int nq1, .int nq2, .int nq3, .int nq4, .int nq5, .int nq6, .int nq7, .ref ns]))] (TY cT)) (QcRead (bn (goB nq3 nq2 nq1 v))) 0 0 (fun _ => False) := by
  refine Met.ofW (cc := cN_sendsLeft) (maxL := 2) (ret := (some .boolean)) (by decide) rfl ?_
  intro p e s m args below meth c s₁ B hml hv
  obtain ⟨rfl, hZ, hP, hK⟩ := hv
  have hx := B.exec
  have hb := B.bytes
  have hr := B.returns
  have hts := atoms_spec (ws := WN_sendsLeft) B.pre
  have hT : ∀ w ∈ TB, w.before _ s = true := fun w h => hts w (List.mem_cons_of_mem _ h)
  have hown : s.vm.findClass R_N = some m.cls := findClass_of_methodNamed B.named
  have hlocks := B.notSynchronized
  have hS : va_S (fun _ => False) s.heap s.heap [] := va_S.rf
  have hl := lv_entry ([.ref h, .int v]) (n := 2) (Nat.le_of_ble_eq_true rfl)
  rw [lg_entry_eq]
  generalize (lg_sl ([.ref h, .int v]) ++ List.replicate (2 - (lg_sl ([.ref h, .int v])).length) Slot.unset).toArray = ls at hl ⊢
  have hl : lv_has ls 2 [(0, .ref h), (1, .int v)] := hl
  refine lv_iload_n hx hb dN_sendsLeft_0 rfl (lv_at hl 1 rfl) ?_
  refine lv_ldc (v := (-2147483648)) hx hb hown (hT _ w432) dN_sendsLeft_1 ?_
  refine lv_icmp_ne (tgt := 11) hx hb dN_sendsLeft_3 rfl (fun h1 => ?_) (fun h1 => ?_)
  · refine lv_aload_n hx hb dN_sendsLeft_11 rfl (lv_at hl 0 rfl) ?_
    refine va_get (D := D) (ci := 10) (v := .int nq2) (C := R_N) (T := T_N) (N := 9) hx hb hT in_N hown hK hP 0 rfl rfl 2 (by decide) (hT _ w836) (fun _ h9 => h9) rfl dN_sendsLeft_12 ?_
    refine lv_if_eq (tgt := 45) hx hb dN_sendsLeft_15 rfl (fun h2 => ?_) (fun h2 => ?_)
    · refine lv_iload_n hx hb dN_sendsLeft_45 rfl (lv_at hl 1 rfl) ?_
      refine lv_aload_n hx hb dN_sendsLeft_46 rfl (lv_at hl 0 rfl) ?_
      refine va_get (D := D) (ci := 10) (v := .int nq1) (C := R_N) (T := T_N) (N := 9) hx hb hT in_N hown hK hP 0 rfl rfl 1 (by decide) (hT _ w833) (fun _ h9 => h9) rfl dN_sendsLeft_47 ?_
      refine lv_icmp_ge (tgt := 57) hx hb dN_sendsLeft_50 rfl (fun h3 => ?_) (fun h3 => ?_)
      · refine lv_iconst (v := 0) hx hb dN_sendsLeft_57 (by decide) ?_
        exact W.zret (v := 0) hx hb hr rfl (fun t9 ht9 hW9 => ⟨gob_n0 h1 h2 (Int32.not_lt.mpr h3), ht9⟩) (fun q h => nomatch h) dN_sendsLeft_58
      · refine lv_iconst (v := 1) hx hb dN_sendsLeft_53 (by decide) ?_
        refine lv_goto (tgt := 58) hx hb dN_sendsLeft_54 rfl ?_
        exact W.zret (v := 1) hx hb hr rfl (fun t9 ht9 hW9 => ⟨gob_n1 h1 h2 (Int32.not_le.mp h3), ht9⟩) (fun q h => nomatch h) dN_sendsLeft_58
    · refine lv_iload_n hx hb dN_sendsLeft_18 rfl (lv_at hl 1 rfl) ?_
      refine ro_i (va_Run.run (va_runSN (As := [.int v]) (rest := []) ⟨hx, hb, hml, hown, hT⟩ (k_isKind l D cT v) ⟨va_cnB 1 hT (tb_gd w435) rfl rfl rfl (hZ.1.2.1 ("ResidualTrees$Node", 41, ⟨"ResidualTrees", "isKind", "(I)Z"⟩, "ResidualTrees") (List.mem_of_getElem? (i := 5) rfl)) (hT _ w1) hR_isKind ⟨Nat.le_of_ble_eq_true rfl, Nat.le_of_ble_eq_true rfl⟩, (hT _ w434), trivial⟩ (RO.preS hZ hS ((show va_P D vwCl [] _ from fun _ _ h => nomatch h)) hK) rfl rfl hl.1 rfl (lv_room (Nat.le_of_ble_eq_true rfl)) dN_sendsLeft_19 ⟨Nat.le_of_ble_eq_true rfl, Nat.le_of_ble_eq_true rfl⟩)) ?_
      refine lv_if_eq (tgt := 41) hx hb dN_sendsLeft_22 rfl (fun h4 => ?_) (fun h4 => ?_)
      · refine lv_iconst (v := 0) hx hb dN_sendsLeft_41 (by decide) ?_
        refine lv_goto (tgt := 58) hx hb dN_sendsLeft_42 rfl ?_
        exact W.zret (v := 0) hx hb hr rfl (fun t9 ht9 hW9 => ⟨gob_k0 h1 h2 (Or.inl h4), ht9⟩) (fun q h => nomatch h) dN_sendsLeft_58
      · refine lv_aload_n hx hb dN_sendsLeft_25 rfl (lv_at hl 0 rfl) ?_
        refine va_get (D := D) (ci := 10) (v := .int nq1) (C := R_N) (T := T_N) (N := 9) hx hb hT in_N hown hK hP 0 rfl rfl 1 (by decide) (hT _ w833) (fun _ h9 => h9) rfl dN_sendsLeft_26 ?_
        refine lv_iload_n hx hb dN_sendsLeft_29 rfl (lv_at hl 1 rfl) ?_
        refine lv_ishr hx hb dN_sendsLeft_30 ?_
        refine lv_iconst (v := 1) hx hb dN_sendsLeft_31 (by decide) ?_
        refine lv_iand hx hb dN_sendsLeft_32 ?_
        refine lv_iconst (v := 1) hx hb dN_sendsLeft_33 (by decide) ?_
        refine lv_icmp_ne (tgt := 41) hx hb dN_sendsLeft_34 rfl (fun h5 => ?_) (fun h5 => ?_)
        · refine lv_iconst (v := 0) hx hb dN_sendsLeft_41 (by decide) ?_
          refine lv_goto (tgt := 58) hx hb dN_sendsLeft_42 rfl ?_
          exact W.zret (v := 0) hx hb hr rfl (fun t9 ht9 hW9 => ⟨gob_k0 h1 h2 (Or.inr h5), ht9⟩) (fun q h => nomatch h) dN_sendsLeft_58
        · refine lv_iconst (v := 1) hx hb dN_sendsLeft_37 (by decide) ?_
          refine lv_goto (tgt := 58) hx hb dN_sendsLeft_38 rfl ?_
          exact W.zret (v := 1) hx hb hr rfl (fun t9 ht9 hW9 => ⟨gob_k1 h1 h2 (bi_1 h4) h5, ht9⟩) (fun q h => nomatch h) dN_sendsLeft_58
  · refine lv_aload_n hx hb dN_sendsLeft_6 rfl (lv_at hl 0 rfl) ?_
    refine va_get (D := D) (ci := 10) (v := .int nq3) (C := R_N) (T := T_N) (N := 9) hx hb hT in_N hown hK hP 0 rfl rfl 3 (by decide) (hT _ w839) (fun _ h9 => h9) rfl dN_sendsLeft_7 ?_
    exact W.zret (v := nq3) hx hb hr (nar_z htl) (fun t9 ht9 hW9 => ⟨gob_m h1 htl, ht9⟩) (fun q h => nomatch h) dN_sendsLeft_10
set_option maxHeartbeats 4000000 in
set_option maxRecDepth 100000 in
theorem k_planClear (l : Launch) (D : va_G) (cT : Nat → ClassId) (h : Nat) (p0 : Int32) (p1 : Int32) (p2 : Int32) (p3 : Int32) (p4 : Int32) (p5 : Int64) (p6 : Int32) (sz : Nat) : Met l yP_clear WP_clear ({ frames := 0, cells := 0, slots := 0, locals := 0 } : Room) (RW D vwCl [.ref h] [(h, .inr (3, [.int p0, .int p1, .int p2, .int p3, .int p4, .long p5, .int p6]))] (TY cT) sz) (va_Qv (fun u9 : Unit => True) (BW D vwCl (va_A [(h, .inr (3, [.int p0, .int p1, .int p2, .int p3, .int p4, .long p5, .int p6]))] sz) (fun u9 : Unit => [(h, .inr (3, [.int 2, .int 1, .int 0, .int 1, .int 2, .long (-1), .int (-1)]))])) (va_A [(h, .inr (3, [.int p0, .int p1, .int p2, .int p3, .int p4, .long p5, .int p6]))] sz)) 0 0 (va_A [(h, .inr (3, [.int p0, .int p1, .int p2, .int p3, .int p4, .long p5, .int p6]))] sz) := by
  refine Met.ofW (cc := cP_clear) (maxL := 1) (ret := none) (by decide) rfl ?_
  intro p e s m args below meth c s₁ B hml hv
  obtain ⟨rfl, hsz, hZ, hP, hK, hD0⟩ := hv
  have hx := B.exec
  have hb := B.bytes
  have hr := B.returns
  have hts := atoms_spec (ws := WP_clear) B.pre
  have hT : ∀ w ∈ TB, w.before _ s = true := fun w h => hts w (List.mem_cons_of_mem _ h)
  have hown : s.vm.findClass R_P = some m.cls := findClass_of_methodNamed B.named
  have hlocks := B.notSynchronized
  subst hsz
  have hD := hD0.self (sz := s.heap.size)
  generalize hAe : va_A [(h, .inr (3, [.int p0, .int p1, .int p2, .int p3, .int p4, .long p5, .int p6]))] s.heap.size = A at hD hZ ⊢
  have hA : ∀ q : Nat, s.heap.size ≤ q → A q := fun q h => by rw [← hAe]; exact Or.inr h
  have hS : va_S A s.heap s.heap [] := va_S.rf
  have hl := lv_entry ([.ref h]) (n := 1) (Nat.le_of_ble_eq_true rfl)
  rw [lg_entry_eq]
  generalize (lg_sl ([.ref h]) ++ List.replicate (1 - (lg_sl ([.ref h])).length) Slot.unset).toArray = ls at hl ⊢
  have hl : lv_has ls 1 [(0, .ref h)] := hl
  refine lv_aload_n hx hb dP_clear_0 rfl (lv_at hl 0 rfl) ?_
  refine lv_iconst (v := 2) hx hb dP_clear_1 (by decide) ?_
  refine va_put (D := D) (ci := 3) (v := .int 2) (ty := .int) (C := R_P) (T := T_P) (N := 7) hx hb hT in_P ty_P ty_P_ok m_P hown hK hP hD hS 0 rfl rfl 0 (by decide) (hT _ w99) (fun _ h9 => h9) rfl (by decide +kernel) rfl rfl (Nat.le_of_ble_eq_true rfl) dP_clear_2 (fun H locs hP hD hS => ?_)
  have hP : va_P D vwCl [(h, .inr (3, [.int 2, .int p1, .int p2, .int p3, .int p4, .long p5, .int p6]))] _ := hP
  have hD : va_D A [(h, .inr (3, [.int 2, .int p1, .int p2, .int p3, .int p4, .long p5, .int p6]))] := hD
  refine lv_aload_n hx hb dP_clear_5 rfl (lv_at hl 0 rfl) ?_
  refine lv_iconst (v := 1) hx hb dP_clear_6 (by decide) ?_
  refine va_put (D := D) (ci := 3) (v := .int 1) (ty := .int) (C := R_P) (T := T_P) (N := 7) hx hb hT in_P ty_P ty_P_ok m_P hown hK hP hD hS 0 rfl rfl 1 (by decide) (hT _ w102) (fun _ h9 => h9) rfl (by decide +kernel) rfl rfl (Nat.le_of_ble_eq_true rfl) dP_clear_7 (fun H locs hP hD hS => ?_)
  have hP : va_P D vwCl [(h, .inr (3, [.int 2, .int 1, .int p2, .int p3, .int p4, .long p5, .int p6]))] _ := hP
  have hD : va_D A [(h, .inr (3, [.int 2, .int 1, .int p2, .int p3, .int p4, .long p5, .int p6]))] := hD
  refine lv_aload_n hx hb dP_clear_10 rfl (lv_at hl 0 rfl) ?_
  refine lv_iconst (v := 0) hx hb dP_clear_11 (by decide) ?_
  refine va_put (D := D) (ci := 3) (v := .int 0) (ty := .int) (C := R_P) (T := T_P) (N := 7) hx hb hT in_P ty_P ty_P_ok m_P hown hK hP hD hS 0 rfl rfl 2 (by decide) (hT _ w105) (fun _ h9 => h9) rfl (by decide +kernel) rfl rfl (Nat.le_of_ble_eq_true rfl) dP_clear_12 (fun H locs hP hD hS => ?_)
  have hP : va_P D vwCl [(h, .inr (3, [.int 2, .int 1, .int 0, .int p3, .int p4, .long p5, .int p6]))] _ := hP
  have hD : va_D A [(h, .inr (3, [.int 2, .int 1, .int 0, .int p3, .int p4, .long p5, .int p6]))] := hD
  refine lv_aload_n hx hb dP_clear_15 rfl (lv_at hl 0 rfl) ?_
  refine lv_iconst (v := 1) hx hb dP_clear_16 (by decide) ?_
  refine va_put (D := D) (ci := 3) (v := .int 1) (ty := .int) (C := R_P) (T := T_P) (N := 7) hx hb hT in_P ty_P ty_P_ok m_P hown hK hP hD hS 0 rfl rfl 3 (by decide) (hT _ w109) (fun _ h9 => h9) rfl (by decide +kernel) rfl rfl (Nat.le_of_ble_eq_true rfl) dP_clear_17 (fun H locs hP hD hS => ?_)
  have hP : va_P D vwCl [(h, .inr (3, [.int 2, .int 1, .int 0, .int 1, .int p4, .long p5, .int p6]))] _ := hP
  have hD : va_D A [(h, .inr (3, [.int 2, .int 1, .int 0, .int 1, .int p4, .long p5, .int p6]))] := hD
  refine lv_aload_n hx hb dP_clear_20 rfl (lv_at hl 0 rfl) ?_
  refine lv_iconst (v := 2) hx hb dP_clear_21 (by decide) ?_
  refine va_put (D := D) (ci := 3) (v := .int 2) (ty := .int) (C := R_P) (T := T_P) (N := 7) hx hb hT in_P ty_P ty_P_ok m_P hown hK hP hD hS 0 rfl rfl 4 (by decide) (hT _ w112) (fun _ h9 => h9) rfl (by decide +kernel) rfl rfl (Nat.le_of_ble_eq_true rfl) dP_clear_22 (fun H locs hP hD hS => ?_)
  have hP : va_P D vwCl [(h, .inr (3, [.int 2, .int 1, .int 0, .int 1, .int 2, .long p5, .int p6]))] _ := hP
  have hD : va_D A [(h, .inr (3, [.int 2, .int 1, .int 0, .int 1, .int 2, .long p5, .int p6]))] := hD
  refine lv_aload_n hx hb dP_clear_25 rfl (lv_at hl 0 rfl) ?_
  refine lv_ldc2 (v := (-1)) hx hb hown (hT _ w323) dP_clear_26 ?_
  refine va_put (D := D) (ci := 3) (v := .long (-1)) (ty := .long) (C := R_P) (T := T_P) (N := 7) hx hb hT in_P ty_P ty_P_ok m_P hown hK hP hD hS 0 rfl rfl 5 (by decide) (hT _ w115) (fun _ h9 => h9) rfl (by decide +kernel) rfl rfl (Nat.le_of_ble_eq_true rfl) dP_clear_29 (fun H locs hP hD hS => ?_)
  have hP : va_P D vwCl [(h, .inr (3, [.int 2, .int 1, .int 0, .int 1, .int 2, .long (-1), .int p6]))] _ := hP
  have hD : va_D A [(h, .inr (3, [.int 2, .int 1, .int 0, .int 1, .int 2, .long (-1), .int p6]))] := hD
  refine lv_aload_n hx hb dP_clear_32 rfl (lv_at hl 0 rfl) ?_
  refine lv_iconst (v := (-1)) hx hb dP_clear_33 (by decide) ?_
  refine va_put (D := D) (ci := 3) (v := .int (-1)) (ty := .int) (C := R_P) (T := T_P) (N := 7) hx hb hT in_P ty_P ty_P_ok m_P hown hK hP hD hS 0 rfl rfl 6 (by decide) (hT _ w117) (fun _ h9 => h9) rfl (by decide +kernel) rfl rfl (Nat.le_of_ble_eq_true rfl) dP_clear_34 (fun H locs hP hD hS => ?_)
  have hP : va_P D vwCl [(h, .inr (3, [.int 2, .int 1, .int 0, .int 1, .int 2, .long (-1), .int (-1)]))] _ := hP
  have hD : va_D A [(h, .inr (3, [.int 2, .int 1, .int 0, .int 1, .int 2, .long (-1), .int (-1)]))] := hD
  have hP9 := hP.sub (ws' := [(h, .inr (3, [.int 2, .int 1, .int 0, .int 1, .int 2, .long (-1), .int (-1)]))]) [0] rfl
  have hD9 := hD.sub (ws' := [(h, .inr (3, [.int 2, .int 1, .int 0, .int 1, .int 2, .long (-1), .int (-1)]))]) [0] (by decide) rfl
  refine W.widen (k := 0) (n := 0) (Nat.le_of_ble_eq_true rfl) (Nat.le_of_ble_eq_true rfl) ?_
  exact W.vret hx hb hr (fun t9 ht9 hW9 => ⟨⟨(), rfl, (show True from trivial), by rw [ht9]; exact hP9, hD9⟩, hS.F ht9⟩) hS.2.2 dP_clear_37
set_option maxHeartbeats 4000000 in
set_option maxRecDepth 100000 in
theorem k_gdiv (l : Launch) (D : va_G) (cT : Nat → ClassId) (a1 : Nat) (b1 : Nat) (ha9 : a1 ≤ 4611686018427387904) (hb9 : b1 ≤ 4611686018427387904) : Met l yR_greatestDivisor WR_greatestDivisor ({ frames := 0, cells := 0, slots := 0, locals := 0 } : Room) (RO D vwCl [.long (lN a1), .long (lN b1)] [] (TY cT)) (QcReadL (lN (Nat.gcd a1 b1))) 0 0 (fun _ => False) := by
  refine Met.ofW (cc := cR_greatestDivisor) (maxL := 11) (ret := (some .long)) (by decide) rfl ?_
  intro p e s m args below meth c s₁ B hml hv
  obtain ⟨rfl, hZ, hP, hK⟩ := hv
  have hx := B.exec
  have hb := B.bytes
  have hr := B.returns
  have hts := atoms_spec (ws := WR_greatestDivisor) B.pre
  have hT : ∀ w ∈ TB, w.before _ s = true := fun w h => hts w (List.mem_cons_of_mem _ h)
  have hown : s.vm.findClass R_R = some m.cls := findClass_of_methodNamed B.named
  have hlocks := B.notSynchronized
  have hS : va_S (fun _ => False) s.heap s.heap [] := va_S.rf
  have hl := lv_entry ([.long (lN a1), .long (lN b1)]) (n := 11) (Nat.le_of_ble_eq_true rfl)
  rw [lg_entry_eq]
  generalize (lg_sl ([.long (lN a1), .long (lN b1)]) ++ List.replicate (11 - (lg_sl ([.long (lN a1), .long (lN b1)])).length) Slot.unset).toArray = ls at hl ⊢
  have hl : lv_has ls 11 [(0, .long (lN a1)), (2, .long (lN b1))] := hl
  refine lv_lload_n hx hb dR_greatestDivisor_0 rfl (lv_at hl 0 rfl) ?_
  refine lv_lstore hx hb dR_greatestDivisor_1 hl (by decide) rfl (fun ls hl => ?_)
  have hl : lv_has ls 11 [(4, .long (lN a1)), (0, .long (lN a1)), (2, .long (lN b1))] := hl
  refine lv_lload_n hx hb dR_greatestDivisor_3 rfl (lv_at hl 2 rfl) ?_
  refine lv_lstore hx hb dR_greatestDivisor_4 hl (by decide) rfl (fun ls hl => ?_)
  have hl : lv_has ls 11 [(6, .long (lN b1)), (4, .long (lN a1)), (0, .long (lN a1)), (2, .long (lN b1))] := hl
  refine lv_iconst (v := 0) hx hb dR_greatestDivisor_6 (by decide) ?_
  refine lv_istore hx hb dR_greatestDivisor_7 hl (by decide) rfl (fun ls hl => ?_)
  have hl : lv_has ls 11 [(8, .int 0), (6, .long (lN b1)), (4, .long (lN a1)), (0, .long (lN a1)), (2, .long (lN b1))] := hl
  refine lp_r (α := Nat × Nat × Nat) (fun a9 => Nat.gcd a9.1 a9.2.1 = Nat.gcd a1 b1 ∧ a9.1 ≤ 4611686018427387904 ∧ a9.2.1 ≤ 4611686018427387904 ∧ a9.2.2 ≤ 128 ∧ a9.1 * 2 ^ ((a9.2.2 - 1) / 2) ≤ 4611686018427387904 ∧ a9.2.1 * 2 ^ (a9.2.2 / 2) ≤ 4611686018427387904 ∧ (0 < a9.2.2 → a9.2.1 < a9.1)) (fun a9 => 128 - a9.2.2) (fun a9 => [(0, .long (lN a1)), (2, .long (lN b1)), (4, .long (lN a9.1)), (6, .long (lN a9.2.1)), (8, .int (nI a9.2.2))]) 9 ?_ (a1, b1, 0) (show Nat.gcd a1 b1 = Nat.gcd a1 b1 ∧ a1 ≤ 4611686018427387904 ∧ b1 ≤ 4611686018427387904 ∧ 0 ≤ 128 ∧ a1 * 2 ^ ((0 - 1) / 2) ≤ 4611686018427387904 ∧ b1 * 2 ^ (0 / 2) ≤ 4611686018427387904 ∧ (0 < 0 → b1 < a1) from ⟨rfl, by omega, by omega, by omega, by rw [show (0 - 1) / 2 = 0 by decide, Nat.pow_zero]; omega, by rw [show 0 / 2 = 0 by decide, Nat.pow_zero]; omega, fun h => absurd h (by omega)⟩) (lv_sub hl [3, 4, 2, 1, 0] rfl)
  intro a9 hI9 ih9 ls hl
  obtain ⟨x, y1, i⟩ := a9
  have hI9 : Nat.gcd x y1 = Nat.gcd a1 b1 ∧ x ≤ 4611686018427387904 ∧ y1 ≤ 4611686018427387904 ∧ i ≤ 128 ∧ x * 2 ^ ((i - 1) / 2) ≤ 4611686018427387904 ∧ y1 * 2 ^ (i / 2) ≤ 4611686018427387904 ∧ (0 < i → y1 < x) := hI9
  obtain ⟨ig, ix, iy, ii, i1, i2, i3⟩ := hI9
  have hl : lv_has ls 11 [(0, .long (lN a1)), (2, .long (lN b1)), (4, .long (lN x)), (6, .long (lN y1)), (8, .int (nI i))] := hl
  refine lv_iload hx hb dR_greatestDivisor_9 (lv_at hl 4 rfl) ?_
  refine lv_sipush (v := 128) hx hb dR_greatestDivisor_11 (by decide) ?_
  refine lv_icmp_ge (tgt := 45) hx hb dR_greatestDivisor_14 rfl (fun h1 => ?_) (fun h1 => ?_)
  · have gh1 : 128 ≤ i := (nI_leI (a := 128) (b := i) (by omega) (by omega)).mp h1
    refine lv_lload hx hb dR_greatestDivisor_45 (lv_at hl 2 rfl) ?_
    exact W.lret (v := lN x) hx hb hr (fun t9 ht9 hW9 => ⟨(by rw [← ig, show y1 = 0 from (gd_e (by omega) (by omega) i2), Nat.gcd_zero_right]), ht9⟩) (fun q h => nomatch h) dR_greatestDivisor_47
  · have gh1 : i < 128 := Nat.not_le.mp (fun q => h1 ((nI_leI (a := 128) (b := i) (by omega) (by omega)).mpr q))
    refine lv_lload hx hb dR_greatestDivisor_17 (lv_at hl 3 rfl) ?_
    refine lv_lconst (v := 0) hx hb dR_greatestDivisor_19 (by decide) ?_
    refine W.lcmp hx hb dR_greatestDivisor_20 ?_
    refine lv_if_eq (tgt := 45) hx hb dR_greatestDivisor_21 rfl (fun h2 => ?_) (fun h2 => ?_)
    · have gh2 : y1 = 0 := ((lg_cmp_eq (lN y1) 0).trans (pk_lEQ (a := y1) (b := 0) (by omega) (by omega))).mp h2
      refine lv_lload hx hb dR_greatestDivisor_45 (lv_at hl 2 rfl) ?_
      exact W.lret (v := lN x) hx hb hr (fun t9 ht9 hW9 => ⟨(by rw [← ig, show y1 = 0 from (by omega), Nat.gcd_zero_right]), ht9⟩) (fun q h => nomatch h) dR_greatestDivisor_47
    · have gh2 : ¬ (y1 = 0) := fun q => h2 (((lg_cmp_eq (lN y1) 0).trans (pk_lEQ (a := y1) (b := 0) (by omega) (by omega))).mpr q)
      refine lv_lload hx hb dR_greatestDivisor_24 (lv_at hl 2 rfl) ?_
      refine lv_lload hx hb dR_greatestDivisor_26 (lv_at hl 3 rfl) ?_
      refine lv_lrem hx hb dR_greatestDivisor_28 (fun q => absurd ((lN_eq0 (by omega)).mp q) (by omega)) ?_
      refine lv_topl (fun y9 e9 => ?_)
      cases (show y9 = lN (x % y1) from e9.trans (pk_lRem (a := x) (b := y1) (by omega) (by omega) (by omega)))
      refine lv_lstore hx hb dR_greatestDivisor_29 hl (by decide) rfl (fun ls hl => ?_)
      have hl : lv_has ls 11 [(9, .long (lN (x % y1))), (0, .long (lN a1)), (2, .long (lN b1)), (4, .long (lN x)), (6, .long (lN y1)), (8, .int (nI i))] := hl
      refine lv_lload hx hb dR_greatestDivisor_31 (lv_at hl 4 rfl) ?_
      refine lv_lstore hx hb dR_greatestDivisor_33 hl (by decide) rfl (fun ls hl => ?_)
      have hl : lv_has ls 11 [(4, .long (lN y1)), (9, .long (lN (x % y1))), (0, .long (lN a1)), (2, .long (lN b1)), (6, .long (lN y1)), (8, .int (nI i))] := hl
      refine lv_lload hx hb dR_greatestDivisor_35 (lv_at hl 1 rfl) ?_
      refine lv_lstore hx hb dR_greatestDivisor_37 hl (by decide) rfl (fun ls hl => ?_)
      have hl : lv_has ls 11 [(6, .long (lN (x % y1))), (4, .long (lN y1)), (9, .long (lN (x % y1))), (0, .long (lN a1)), (2, .long (lN b1)), (8, .int (nI i))] := hl
      refine lv_iinc (k := 5) (v := nI (i + 1)) hx hb dR_greatestDivisor_39 hl rfl (nI_1 i) (by decide) rfl (fun ls hl => ?_)
      have hl : lv_has ls 11 [(8, .int (nI (i + 1))), (6, .long (lN (x % y1))), (4, .long (lN y1)), (9, .long (lN (x % y1))), (0, .long (lN a1)), (2, .long (lN b1))] := hl
      refine lv_goto (tgt := 9) hx hb dR_greatestDivisor_42 rfl ?_
      exact ih9 (y1, x % y1, i + 1) (show Nat.gcd y1 (x % y1) = Nat.gcd a1 b1 ∧ y1 ≤ 4611686018427387904 ∧ (x % y1) ≤ 4611686018427387904 ∧ (i + 1) ≤ 128 ∧ y1 * 2 ^ (((i + 1) - 1) / 2) ≤ 4611686018427387904 ∧ (x % y1) * 2 ^ ((i + 1) / 2) ≤ 4611686018427387904 ∧ (0 < (i + 1) → (x % y1) < y1) from ⟨by rw [Nat.gcd_comm, ← Nat.gcd_rec, Nat.gcd_comm]; exact ig, iy, by have q9 := Nat.mod_lt x (show 0 < y1 by omega); omega, by omega, i2, gd_s (by omega) i1 i2 i3, fun _ => Nat.mod_lt x (by omega)⟩) (show 128 - (i + 1) < 128 - i from (by omega)) ls (lv_sub hl [4, 5, 2, 1, 0] rfl)
/-! Bits counted by pairs, in bytes. -/
theorem bc_and {x m y c : Nat} (hy : y < 256) (hc : c < 256) : (256 * x + y) &&& (256 * m + c) = 256 * (x &&& m) + (y &&& c) := by
  have e : ∀ a b, b < 256 → 256 * a + b = (a <<< 8) ||| b := fun a b hb => by
    rw [Nat.shiftLeft_add_eq_or_of_lt (i := 8) (by omega) a |>.symm, Nat.shiftLeft_eq]
    omega
  rw [e x y hy, e m c hc, e (x &&& m) (y &&& c) (Nat.lt_of_le_of_lt Nat.and_le_left hy)]
  apply Nat.eq_of_testBit_eq
  intro i
  rw [Nat.testBit_and, Nat.testBit_or, Nat.testBit_or, Nat.testBit_or, Nat.testBit_shiftLeft, Nat.testBit_shiftLeft, Nat.testBit_shiftLeft, Nat.testBit_and, Nat.testBit_and]
  by_cases h : 8 ≤ i
  · have ty : ∀ z, z < 256 → z.testBit i = false := fun z hz => Nat.testBit_lt_two_pow (Nat.lt_of_lt_of_le hz (Nat.pow_le_pow_right (show 0 < 2 by decide) h))
    rw [ty y hy, ty c hc]
    simp [h]
  · simp [h]
/-- masks of k bytes -/
def mk (c : Nat) : Nat → Nat
  | 0 => 0
  | k + 1 => 256 * mk c k + c
theorem bc_1 : ∀ o, o < 2 → ∀ b, b < 256 → (128 * o + b / 2) &&& 85 = (b / 2) &&& 85 ∧ (b / 2) &&& 85 ≤ b := by decide +kernel
def s1 (k v : Nat) : Nat := v - ((v / 2) &&& mk 85 k)
theorem s1_le : ∀ k v, v < 256 ^ k → (v / 2) &&& mk 85 k ≤ v
  | 0, v, _ => by show (v / 2) &&& 0 ≤ v; rw [Nat.and_zero]; omega
  | k + 1, v, h => Nat.le_trans Nat.and_le_left (by omega)
theorem s1_s {k q b : Nat} (hb : b < 256) : s1 (k + 1) (256 * q + b) = 256 * s1 k q + (b - ((b / 2) &&& 85)) := by
  unfold s1
  have e : (256 * q + b) / 2 = 256 * (q / 2) + (128 * (q % 2) + b / 2) := by omega
  have h1 := bc_1 (q % 2) (by omega) b hb
  have h2 : (q / 2) &&& mk 85 k ≤ q := Nat.le_trans Nat.and_le_left (by omega)
  rw [e]
  show _ - ((256 * (q / 2) + (128 * (q % 2) + b / 2)) &&& (256 * mk 85 k + 85)) = _
  rw [bc_and (by omega) (by decide), h1.1]
  have h3 := h1.2
  omega
def s2 (k v : Nat) : Nat := (v &&& mk 51 k) + ((v / 4) &&& mk 51 k)
theorem bc_2 : ∀ o, o < 4 → ∀ b, b < 256 → (64 * o + b / 4) &&& 51 = (b / 4) &&& 51 ∧ (b &&& 51) + ((b / 4) &&& 51) < 256 := by decide +kernel
theorem s2_s {k q b : Nat} (hb : b < 256) : s2 (k + 1) (256 * q + b) = 256 * s2 k q + ((b &&& 51) + ((b / 4) &&& 51)) := by
  unfold s2
  have e : (256 * q + b) / 4 = 256 * (q / 4) + (64 * (q % 4) + b / 4) := by omega
  have h1 := bc_2 (q % 4) (by omega) b hb
  rw [e]
  show ((256 * q + b) &&& (256 * mk 51 k + 51)) + ((256 * (q / 4) + (64 * (q % 4) + b / 4)) &&& (256 * mk 51 k + 51)) = _
  rw [bc_and hb (by decide), bc_and (by omega) (by decide), h1.1]
  omega
/-- a byte's bits -/
def pb (b : Nat) : Nat := b % 2 + b / 2 % 2 + b / 4 % 2 + b / 8 % 2 + b / 16 % 2 + b / 32 % 2 + b / 64 % 2 + b / 128 % 2
def p2 (b : Nat) : Nat := ((b - ((b / 2) &&& 85)) &&& 51) + (((b - ((b / 2) &&& 85)) / 4) &&& 51)
theorem bc_3 : ∀ b, b < 256 → p2 b < 256 ∧ p2 b % 16 ≤ 4 ∧ p2 b / 16 ≤ 4 ∧ p2 b % 16 + p2 b / 16 = pb b ∧ pb b ≤ 8 := by decide +kernel
def s3 (k v : Nat) : Nat := (v + v / 16) &&& mk 15 k
theorem bc_4 : ∀ o, o < 5 → ∀ x, x < 5 → ∀ y, y < 5 → (16 * x + y + (16 * o + x)) &&& 15 = x + y := by decide +kernel
theorem s12 : ∀ k q b, b < 256 → s2 (k + 1) (s1 (k + 1) (256 * q + b)) = 256 * s2 k (s1 k q) + p2 b := fun k q b hb => by
  rw [s1_s hb, s2_s (by omega)]
  rfl
theorem s12_m : ∀ k v, v < 256 ^ k → s2 k (s1 k v) % 16 ≤ 4
  | 0, v, h => by
    have : v = 0 := by rw [Nat.pow_zero] at h; omega
    subst this; decide
  | k + 1, v, h => by
    have e : v = 256 * (v / 256) + v % 256 := (Nat.div_add_mod v 256).symm
    rw [e, s12 k _ _ (Nat.mod_lt _ (by decide))]
    have := bc_3 (v % 256) (Nat.mod_lt _ (by decide))
    omega
/-- the sum over the bytes, each in its place -/
def ps : Nat → Nat → Nat
  | 0, _ => 0
  | k + 1, v => 256 * ps k (v / 256) + pb (v % 256)
theorem s123 : ∀ k v, v < 256 ^ k → s3 k (s2 k (s1 k v)) = ps k v
  | 0, v, h => by show _ &&& 0 = 0; exact Nat.and_zero _
  | k + 1, v, h => by
    have hb := Nat.mod_lt v (show 0 < 256 by decide)
    have hq : v / 256 < 256 ^ k := by rw [Nat.pow_succ] at h; omega
    have e : v = 256 * (v / 256) + v % 256 := (Nat.div_add_mod v 256).symm
    have ih := s123 k (v / 256) hq
    have hm := s12_m k (v / 256) hq
    have h3 := bc_3 (v % 256) hb
    show s3 (k + 1) (s2 (k + 1) (s1 (k + 1) v)) = 256 * ps k (v / 256) + pb (v % 256)
    rw [show s2 (k + 1) (s1 (k + 1) v) = 256 * s2 k (s1 k (v / 256)) + p2 (v % 256) by rw [← s12 k _ _ hb, ← e]]
    generalize s2 k (s1 k (v / 256)) = Q at ih hm ⊢
    generalize p2 (v % 256) = y at h3 ⊢
    generalize pb (v % 256) = z at h3 ⊢
    unfold s3 at ih ⊢
    have e2 : 256 * Q + y + (256 * Q + y) / 16 = 256 * (Q + Q / 16) + (y + (16 * (Q % 16) + y / 16)) := by omega
    rw [e2]
    show (256 * (Q + Q / 16) + (y + (16 * (Q % 16) + y / 16))) &&& (256 * mk 15 k + 15) = _
    rw [bc_and (by omega) (by decide), ih]
    have h4 := bc_4 (Q % 16) (by omega) (y / 16) (by omega) (y % 16) (by omega)
    have e3 : y + (16 * (Q % 16) + y / 16) = 16 * (y / 16) + y % 16 + (16 * (Q % 16) + y / 16) := by omega
    rw [e3, h4]
    omega
theorem ps8 {v : Nat} : ps 8 v = pb (v % 256) + 256 * (pb (v / 256 % 256) + 256 * (pb (v / 256 / 256 % 256) + 256 * (pb (v / 256 / 256 / 256 % 256) + 256 * (pb (v / 256 / 256 / 256 / 256 % 256) + 256 * (pb (v / 256 / 256 / 256 / 256 / 256 % 256) + 256 * (pb (v / 256 / 256 / 256 / 256 / 256 / 256 % 256) + 256 * (pb (v / 256 / 256 / 256 / 256 / 256 / 256 / 256 % 256)))))))) := by
  simp only [ps]
  omega
theorem bc_dv {l m q : Nat} (h : l < m) : (l + m * q) / m = q := by
  rw [Nat.add_mul_div_left _ _ (by omega), Nat.div_eq_of_lt h, Nat.zero_add]
theorem bc_sum {a0 a1 a2 a3 a4 a5 a6 a7 p v4 v5 : Nat} (h0 : a0 ≤ 8) (h1 : a1 ≤ 8) (h2 : a2 ≤ 8) (h3 : a3 ≤ 8) (h4 : a4 ≤ 8) (h5 : a5 ≤ 8) (h6 : a6 ≤ 8) (h7 : a7 ≤ 8) (hp : p = a0 + 256 * (a1 + 256 * (a2 + 256 * (a3 + 256 * (a4 + 256 * (a5 + 256 * (a6 + 256 * a7))))))) (e4 : v4 = p + p / 256) (e5 : v5 = v4 + v4 / 65536) : (v5 + v5 / 4294967296) % 128 = a0 + a1 + a2 + a3 + a4 + a5 + a6 + a7 := by
  generalize e6 : a6 + 256 * a7 = X6 at hp
  generalize e5' : a5 + 256 * X6 = X5 at hp
  generalize e4' : a4 + 256 * X5 = X4 at hp
  generalize e3' : a3 + 256 * X4 = X3 at hp
  generalize e2' : a2 + 256 * X3 = X2 at hp
  generalize e1' : a1 + 256 * X2 = X1 at hp
  have d1 : p / 256 = X1 := by rw [hp]; exact bc_dv (by omega)
  rw [d1, hp] at e4
  have f4 : v4 = (a0 + a1 + 256 * (a1 + a2)) + 65536 * (X2 + X3) := by clear d1 e5 hp; omega
  have d2 : v4 / 65536 = X2 + X3 := by rw [f4]; exact bc_dv (by omega)
  rw [d2, f4] at e5
  have f5 : v5 = (a0 + a1 + a2 + a3 + 256 * (a1 + a2 + a3 + a4) + 65536 * (a2 + a3 + a4 + a5) + 16777216 * (a3 + a4 + a5 + a6)) + 4294967296 * (X4 + X5 + X6 + a7) := by clear d1 d2 e4 f4 hp; omega
  have d3 : v5 / 4294967296 = X4 + X5 + X6 + a7 := by rw [f5]; exact bc_dv (by omega)
  rw [d3, f5]
  clear d1 d2 d3 e4 f4 f5 e5 hp
  omega
/-- the bits of a number below 2 ^ k -/
def cbv (v : Nat) : Nat → Nat
  | 0 => 0
  | k + 1 => cbv v k + v / 2 ^ k % 2
theorem cbn_v {v : Nat} : ∀ k, k ≤ 64 → cbn (lN v) k = cbv v k
  | 0, _ => rfl
  | k + 1, hk => by
    show cbn (lN v) k + (if bx (lN v) k = true then 1 else 0) = cbv v k + v / 2 ^ k % 2
    rw [cbn_v k (by omega), bx_lN (by omega), Nat.testBit_eq_decide_div_mod_eq]
    congr 1
    by_cases h : v / 2 ^ k % 2 = 1
    · rw [decide_eq_true h, if_pos rfl, h]
    · rw [decide_eq_false h, if_neg (by decide)]; omega
theorem cbv_8 {v j : Nat} : cbv v (j + 8) = cbv v j + pb (v / 2 ^ j % 256) := by
  have d : ∀ i, v / 2 ^ (j + i) = v / 2 ^ j / 2 ^ i := fun i => by rw [Nat.pow_add, Nat.div_div_eq_div_mul]
  show cbv v j + v / 2 ^ j % 2 + v / 2 ^ (j + 1) % 2 + v / 2 ^ (j + 2) % 2 + v / 2 ^ (j + 3) % 2 + v / 2 ^ (j + 4) % 2 + v / 2 ^ (j + 5) % 2 + v / 2 ^ (j + 6) % 2 + v / 2 ^ (j + 7) % 2 = _
  rw [d 1, d 2, d 3, d 4, d 5, d 6, d 7]
  unfold pb
  generalize v / 2 ^ j = u
  omega
theorem cbv_64 {v : Nat} : cbv v 64 = pb (v % 256) + pb (v / 256 % 256) + pb (v / 256 / 256 % 256) + pb (v / 256 / 256 / 256 % 256) + pb (v / 256 / 256 / 256 / 256 % 256) + pb (v / 256 / 256 / 256 / 256 / 256 % 256) + pb (v / 256 / 256 / 256 / 256 / 256 / 256 % 256) + pb (v / 256 / 256 / 256 / 256 / 256 / 256 / 256 % 256) := by
  have d : ∀ j, v / 2 ^ (j + 8) = v / 2 ^ j / 256 := fun j => by rw [Nat.pow_add, Nat.div_div_eq_div_mul]
  rw [show 64 = 56 + 8 from rfl, cbv_8, show 56 = 48 + 8 from rfl, cbv_8, show 48 = 40 + 8 from rfl, cbv_8, show 40 = 32 + 8 from rfl, cbv_8, show 32 = 24 + 8 from rfl, cbv_8, show 24 = 16 + 8 from rfl, cbv_8, show 16 = 8 + 8 from rfl, cbv_8, show 8 = 0 + 8 from rfl, cbv_8]
  simp only [d, Nat.pow_zero, Nat.div_one]
  show 0 + _ + _ + _ + _ + _ + _ + _ + _ = _
  omega
theorem bc_all {v v4 v5 : Nat} (e4 : v4 = ps 8 v + ps 8 v / 256) (e5 : v5 = v4 + v4 / 65536) : (v5 + v5 / 4294967296) % 128 = cb (lN v) := by
  show _ = cbn (lN v) 64
  rw [cbn_v 64 (Nat.le_refl _), cbv_64]
  have m : ∀ u, pb (u % 256) ≤ 8 := fun u => (bc_3 _ (Nat.mod_lt _ (by decide))).2.2.2.2
  exact bc_sum (m _) (m _) (m _) (m _) (m _) (m _) (m _) (m _) ps8 e4 e5
theorem ps_b {v : Nat} : ps 8 v ≤ 2 ^ 60 := by
  have m : ∀ u, pb (u % 256) ≤ 8 := fun u => (bc_3 _ (Nat.mod_lt _ (by decide))).2.2.2.2
  have m0 := m v
  have m1 := m (v / 256)
  have m2 := m (v / 256 / 256)
  have m3 := m (v / 256 / 256 / 256)
  have m4 := m (v / 256 / 256 / 256 / 256)
  have m5 := m (v / 256 / 256 / 256 / 256 / 256)
  have m6 := m (v / 256 / 256 / 256 / 256 / 256 / 256)
  have m7 := m (v / 256 / 256 / 256 / 256 / 256 / 256 / 256)
  rw [ps8]
  omega
theorem lN_and (a b : Nat) : lN a &&& lN b = lN (a &&& b) := by
  apply Int64.toBitVec_inj.mp
  rw [Int64.toBitVec_and, wb_tb, wb_tb, wb_tb, BitVec.ofNat_and]
theorem lu_sh {v k : Nat} {y : UInt64} (hv : v < 2 ^ 64) (hk : y.toBitVec = BitVec.ofNat 64 k) (hk2 : k < 64) : ((lN v).toUInt64 >>> y).toInt64 = lN (v / 2 ^ k) := by
  apply Int64.toBitVec_inj.mp
  rw [wb_tb]
  show ((lN v).toUInt64 >>> y).toBitVec = _
  rw [UInt64.toBitVec_shiftRight, hk]
  show (lN v).toBitVec >>> (BitVec.ofNat 64 k % 64) = _
  rw [wb_tb]
  apply BitVec.eq_of_toNat_eq
  rw [BitVec.ushiftRight_eq', BitVec.toNat_ushiftRight, BitVec.toNat_umod, BitVec.toNat_ofNat, BitVec.toNat_ofNat, BitVec.toNat_ofNat, Nat.mod_eq_of_lt hv, Nat.shiftRight_eq_div_pow]
  rw [show k % 2 ^ 64 % (64 : BitVec 64).toNat = k by rw [show (64 : BitVec 64).toNat = 64 from rfl]; omega]
  exact (Nat.mod_eq_of_lt (Nat.lt_of_le_of_lt (Nat.div_le_self _ _) hv)).symm
theorem ni_127 (a : Nat) : nI a &&& 127 = nI (a % 128) := by
  apply Int32.toBitVec_inj.mp
  rw [Int32.toBitVec_and]
  show BitVec.ofNat 32 a &&& BitVec.ofNat 32 127 = BitVec.ofNat 32 (a % 128)
  rw [← BitVec.ofNat_and, Nat.and_two_pow_sub_one_eq_mod a 7]
theorem s2_b {v : Nat} : s2 8 v < 2 ^ 64 := by
  have a := Nat.and_le_right (n := v) (m := mk 51 8)
  have b := Nat.and_le_right (n := v / 4) (m := mk 51 8)
  have e : mk 51 8 = 3689348814741910323 := by decide
  unfold s2
  omega
theorem mk_85 : (6148914691236517205 : Int64) = lN (mk 85 8) := by decide
theorem mk_51 : (3689348814741910323 : Int64) = lN (mk 51 8) := by decide
theorem mk_15 : (1085102592571150095 : Int64) = lN (mk 15 8) := by decide
theorem sd_f {z : Int} {u B : Nat} (h : z.natAbs ≤ B) (hu : u ≤ 68) (hB : B * B * 68 * 2 < 1000000000 ^ 48) : z.natAbs * z.natAbs < 1000000000 ^ 48 ∧ (z * z).natAbs * u < 1000000000 ^ 48 ∧ (z * z * (u : Int)).natAbs ≤ B * B * 68 := by
  have a : z.natAbs * z.natAbs ≤ B * B := Nat.mul_le_mul h h
  have b : z.natAbs * z.natAbs * u ≤ B * B * 68 := Nat.mul_le_mul a hu
  rw [Int.natAbs_mul, Int.natAbs_mul, Int.natAbs_natCast]
  omega
/-! The class's search against the reference's: worth and gain take the same split. -/
/-- what the class has found: nothing, or worth, under, column, mark, missing to the left, rows of the left side -/
abbrev CST : Type := Bool × Int × Nat × Int32 × Int32 × Int32 × Int64
abbrev wZ (sl sr : Int) (lw rw : Nat) : Int := sl * sl * (rw : Int) + sr * sr * (lw : Int)
def csd (RR : Nat → Int) (n w lst : Nat) (A : Int64) (b : CST) (S : Int64) (cc ee ml : Int32) : CST :=
  if cb S < lst ∨ cb A - cb S < lst then b
  else if b.1 = false ∨ b.2.1 * (((cb S + w) * (cb A - cb S + w) : Nat) : Int) < wZ (smv RR S n) (smv RR A n - smv RR S n) (cb S + w) (cb A - cb S + w) * (b.2.2.1 : Int) then
    (true, wZ (smv RR S n) (smv RR A n - smv RR S n) (cb S + w) (cb A - cb S + w), (cb S + w) * (cb A - cb S + w), cc, ee, ml, S)
  else b
/-- the gain that a worth stands for -/
def gnz (W s : Int) (u nw : Nat) : Int := W * (nw : Int) - s * s * (u : Int)
theorem gnz_lt {W W' s : Int} {u u' nw : Nat} (hn : 0 < nw) : gnz W s u nw * ((u' * nw : Nat) : Int) < gnz W' s u' nw * ((u * nw : Nat) : Int) ↔ W * (u' : Int) < W' * (u : Int) := by
  unfold gnz
  have e1 : (W * (nw : Int) - s * s * (u : Int)) * ((u' * nw : Nat) : Int) = (W * (u' : Int)) * ((nw : Int) * nw) - s * s * ((u : Int) * u' * nw) := by
    rw [Int.natCast_mul, Int.sub_mul]; congr 1 <;> ac_rfl
  have e2 : (W' * (nw : Int) - s * s * (u' : Int)) * ((u * nw : Nat) : Int) = (W' * (u : Int)) * ((nw : Int) * nw) - s * s * ((u : Int) * u' * nw) := by
    rw [Int.natCast_mul, Int.sub_mul]; congr 1 <;> ac_rfl
  rw [e1, e2]
  have pQ : (0 : Int) < (nw : Int) * nw := Int.mul_pos (by omega) (by omega)
  constructor
  · intro h
    exact Int.lt_of_mul_lt_mul_right (a := (nw : Int) * nw) (by omega) (by omega)
  · intro h
    have := Int.mul_lt_mul_of_pos_right h pQ
    omega
theorem gnz_pos {W W' s : Int} {u u' nw : Nat} (hn : 0 < nw) (hu : 0 < u) (hu' : 0 < u') (h0 : gnz W s u nw ≤ 0) (h1 : 0 < gnz W' s u' nw) : W * (u' : Int) < W' * (u : Int) := by
  rw [← gnz_lt (s := s) hn]
  have a1 : gnz W s u nw * ((u' * nw : Nat) : Int) ≤ 0 := Int.mul_nonpos_of_nonpos_of_nonneg h0 (by omega)
  have a2 : 0 < gnz W' s u' nw * ((u * nw : Nat) : Int) := Int.mul_pos h1 (by have := Nat.mul_pos hu hn; omega)
  omega
theorem gnz_mono {W W' s : Int} {u u' nw : Nat} (hn : 0 < nw) (hu : 0 < u) (hu' : 0 < u') (h0 : 0 < gnz W s u nw) (h1 : W * (u' : Int) < W' * (u : Int)) : 0 < gnz W' s u' nw := by
  rcases Int.lt_or_le 0 (gnz W' s u' nw) with q | q
  · exact q
  · exfalso
    have := gnz_pos (W := W') (W' := W) hn hu' hu q h0
    omega
theorem gZ_gnz {sl sr : Int} {lw rl nw : Nat} : gZ sl sr lw rl nw = gnz (wZ sl sr lw rl) (sl + sr) (lw * rl) nw := by
  unfold gZ gnz wZ
  have e : (sl * sl * (rl : Int) + sr * sr * (lw : Int)) * (nw : Int) = sl * sl * ((rl * nw : Nat) : Int) + sr * sr * ((lw * nw : Nat) : Int) := by
    rw [Int.natCast_mul, Int.natCast_mul, Int.add_mul]
    congr 1 <;> ac_rfl
  rw [e]
/-- the two searches have the same in hand; nw: the node's rows and weight, s: its sum -/
def SRL (nw : Nat) (s : Int) (b : CST) (r : BST) : Prop :=
  (b.1 = false ∧ r = (0, 1, 0, 0, 0, 0)) ∨ (b.1 = true ∧ 0 < b.2.2.1 ∧ ((gnz b.2.1 s b.2.2.1 nw ≤ 0 ∧ r = (0, 1, 0, 0, 0, 0)) ∨ (0 < gnz b.2.1 s b.2.2.1 nw ∧ r = (gnz b.2.1 s b.2.2.1 nw, b.2.2.1 * nw, b.2.2.2.1, b.2.2.2.2.1, b.2.2.2.2.2.1, b.2.2.2.2.2.2))))
theorem srl_w {RR : Nat → Int} {n w lst : Nat} {A S : Int64} {b : CST} {r : BST} {cc ee ml : Int32} (hn : n ≤ 64) (hl : 1 ≤ lst) (hS : WIN S A) (h : SRL (cb A + w) (smv RR A n) b r) : SRL (cb A + w) (smv RR A n) (csd RR n w lst A b S cc ee ml) (wgh RR n w lst A r S cc ee ml) := by
  have hadd : cb S + cb (A &&& (S ^^^ (-1))) = cb A := cb_add hS 64 (Nat.le_refl _)
  have hsum := smv_add (RR := RR) hS n hn
  have er : cb (A &&& (S ^^^ (-1))) = cb A - cb S := by omega
  have es : smv RR (A &&& (S ^^^ (-1))) n = smv RR A n - smv RR S n := by omega
  unfold csd wgh
  rw [er, es]
  by_cases q : cb S < lst ∨ cb A - cb S < lst
  · rw [if_pos q, if_pos q]; exact h
  · rw [if_neg q, if_neg q]
    have hu : 0 < (cb S + w) * (cb A - cb S + w) := Nat.mul_pos (by omega) (by omega)
    have hnw : 0 < cb A + w := by omega
    have enw : cb S + (cb A - cb S) + w = cb A + w := by omega
    have esm : smv RR S n + (smv RR A n - smv RR S n) = smv RR A n := by omega
    rw [enw, gZ_gnz, esm]
    generalize wZ (smv RR S n) (smv RR A n - smv RR S n) (cb S + w) (cb A - cb S + w) = W'
    generalize (cb S + w) * (cb A - cb S + w) = u' at hu ⊢
    generalize cb A + w = nw at hnw h ⊢
    generalize smv RR A n = s at h ⊢
    obtain ⟨fd, W, u, c1, e1, m1, s1⟩ := b
    rcases h with ⟨h1, h2⟩ | ⟨h1, h2, h3⟩
    · have h1 : fd = false := h1
      subst h1; subst h2
      rw [if_pos (Or.inl rfl)]
      refine Or.inr ⟨rfl, hu, ?_⟩
      show (gnz W' s u' nw ≤ 0 ∧ _) ∨ _
      by_cases g : 0 < gnz W' s u' nw
      · rw [if_pos (by show (0 : Int) * _ < _ * ((1 : Nat) : Int); rw [Int.zero_mul, show ((1 : Nat) : Int) = 1 from rfl, Int.mul_one]; exact g)]
        exact Or.inr ⟨g, rfl⟩
      · rw [if_neg (by show ¬ (0 : Int) * _ < _ * ((1 : Nat) : Int); rw [Int.zero_mul, show ((1 : Nat) : Int) = 1 from rfl, Int.mul_one]; exact g)]
        exact Or.inl ⟨by omega, rfl⟩
    · have h1 : fd = true := h1
      have h2 : 0 < u := h2
      subst h1
      have hf : ¬ (true = false) := by decide
      by_cases c : W * (u' : Int) < W' * (u : Int)
      · rw [if_pos (Or.inr c)]
        refine Or.inr ⟨rfl, hu, ?_⟩
        show (gnz W' s u' nw ≤ 0 ∧ _) ∨ _
        rcases h3 with ⟨g0, h3⟩ | ⟨g0, h3⟩
        · subst h3
          by_cases g : 0 < gnz W' s u' nw
          · rw [if_pos (by show (0 : Int) * _ < _ * ((1 : Nat) : Int); rw [Int.zero_mul, show ((1 : Nat) : Int) = 1 from rfl, Int.mul_one]; exact g)]
            exact Or.inr ⟨g, rfl⟩
          · rw [if_neg (by show ¬ (0 : Int) * _ < _ * ((1 : Nat) : Int); rw [Int.zero_mul, show ((1 : Nat) : Int) = 1 from rfl, Int.mul_one]; exact g)]
            exact Or.inl ⟨by omega, rfl⟩
        · have g0 : 0 < gnz W s u nw := g0
          have h3 : r = (gnz W s u nw, u * nw, c1, e1, m1, s1) := h3
          subst h3
          rw [if_pos ((gnz_lt hnw).mpr c)]
          exact Or.inr ⟨gnz_mono hnw h2 hu g0 c, rfl⟩
      · rw [if_neg (fun z => z.elim hf c)]
        refine Or.inr ⟨rfl, h2, ?_⟩
        rcases h3 with ⟨g0, h3⟩ | ⟨g0, h3⟩
        · have g0 : gnz W s u nw ≤ 0 := g0
          subst h3
          rw [if_neg (by show ¬ (0 : Int) * _ < _ * ((1 : Nat) : Int); rw [Int.zero_mul, show ((1 : Nat) : Int) = 1 from rfl, Int.mul_one]; exact fun g => c (gnz_pos hnw h2 hu g0 g))]
          exact Or.inl ⟨g0, rfl⟩
        · have g0 : 0 < gnz W s u nw := g0
          have h3 : r = (gnz W s u nw, u * nw, c1, e1, m1, s1) := h3
          subst h3
          rw [if_neg (fun z => c ((gnz_lt hnw).mp z))]
          exact Or.inr ⟨g0, rfl⟩
/-! Edges that part the rows as the edge before: nothing changes. -/
/-- the reference has weighed the side S already -/
def CNS (RR : Nat → Int) (n w lst : Nat) (A S : Int64) (b : BST) : Prop :=
  (cb S < lst ∨ cb (A &&& (S ^^^ (-1))) < lst) ∨ gZ (smv RR S n) (smv RR (A &&& (S ^^^ (-1))) n) (cb S + w) (cb (A &&& (S ^^^ (-1))) + w) (cb S + cb (A &&& (S ^^^ (-1))) + w) * (b.2.1 : Int) ≤ b.1 * (((cb S + w) * (cb (A &&& (S ^^^ (-1))) + w) * (cb S + cb (A &&& (S ^^^ (-1))) + w) : Nat) : Int)
theorem cns_no {RR : Nat → Int} {n w lst : Nat} {A S : Int64} {b : BST} {cc ee ml : Int32} (h : CNS RR n w lst A S b) : wgh RR n w lst A b S cc ee ml = b := by
  unfold wgh
  by_cases q : cb S < lst ∨ cb (A &&& (S ^^^ (-1))) < lst
  · rw [if_pos q]
  · rw [if_neg q, if_neg (Int.not_lt.mpr (h.resolve_left q))]
theorem cns_w {RR : Nat → Int} {n w lst : Nat} {A S : Int64} {b : BST} {cc ee ml : Int32} : CNS RR n w lst A S (wgh RR n w lst A b S cc ee ml) := by
  unfold wgh CNS
  by_cases q : cb S < lst ∨ cb (A &&& (S ^^^ (-1))) < lst
  · exact Or.inl q
  · rw [if_neg q]
    refine Or.inr ?_
    split
    · exact Int.le_refl _
    · rename_i h
      exact Int.not_lt.mp h
theorem wgh_p {RR : Nat → Int} {n w lst : Nat} {A S : Int64} {b : BST} {cc ee ml : Int32} (hl : 1 ≤ lst) (hb : 0 < b.2.1) : 0 < (wgh RR n w lst A b S cc ee ml).2.1 := by
  unfold wgh
  by_cases q : cb S < lst ∨ cb (A &&& (S ^^^ (-1))) < lst
  · rw [if_pos q]; exact hb
  · rw [if_neg q]
    split
    · exact Nat.mul_pos (Nat.mul_pos (by omega) (by omega)) (by omega)
    · exact hb
theorem lin_tr {g g2 r : Int} {v u u2 : Nat} (hv : 0 < v) (hu : 0 < u) (h1 : g * (v : Int) ≤ r * (u : Int)) (h2 : r * (u2 : Int) < g2 * (v : Int)) : g * (u2 : Int) ≤ g2 * (u : Int) := by
  apply Int.le_of_mul_le_mul_right (a := (v : Int)) _ (by omega)
  have a1 : g * (u2 : Int) * (v : Int) ≤ r * (u : Int) * (u2 : Int) := by
    rw [show g * (u2 : Int) * (v : Int) = g * (v : Int) * (u2 : Int) by ac_rfl]
    exact Int.mul_le_mul_of_nonneg_right h1 (by omega)
  have a2 : r * (u2 : Int) * (u : Int) < g2 * (v : Int) * (u : Int) := Int.mul_lt_mul_of_pos_right h2 (by omega)
  rw [show g2 * (u : Int) * (v : Int) = g2 * (v : Int) * (u : Int) by ac_rfl]
  rw [show r * (u2 : Int) * (u : Int) = r * (u : Int) * (u2 : Int) by ac_rfl] at a2
  omega
theorem cns_k {RR : Nat → Int} {n w lst : Nat} {A S S2 : Int64} {b : BST} {cc ee ml : Int32} (hl : 1 ≤ lst) (hb : 0 < b.2.1) (h : CNS RR n w lst A S b) : CNS RR n w lst A S (wgh RR n w lst A b S2 cc ee ml) := by
  by_cases q0 : cb S < lst ∨ cb (A &&& (S ^^^ (-1))) < lst
  · exact Or.inl q0
  · have h0 := h.resolve_left q0
    refine Or.inr ?_
    unfold wgh
    by_cases q : cb S2 < lst ∨ cb (A &&& (S2 ^^^ (-1))) < lst
    · rw [if_pos q]; exact h0
    · rw [if_neg q]
      split
      · rename_i h2
        exact lin_tr hb (Nat.mul_pos (Nat.mul_pos (by omega) (by omega)) (by omega)) h0 h2
      · exact h0
theorem lks_p {RR : Nat → Int} {n w lst : Nat} {A M S : Int64} {b : BST} {cc ee : Int32} (hl : 1 ≤ lst) (hb : 0 < b.2.1) : 0 < (lks RR n w lst A M b S cc ee).2.1 := by
  unfold lks
  split
  · exact wgh_p hl hb
  · exact wgh_p hl (wgh_p hl hb)
/-- both ways with S are weighed -/
def CN2 (RR : Nat → Int) (n w lst : Nat) (A M S : Int64) (b : BST) : Prop := CNS RR n w lst A (S ||| M) b ∧ (M = 0 ∨ CNS RR n w lst A S b)
theorem cn2_s {RR : Nat → Int} {n w lst : Nat} {A M S : Int64} {b : BST} {cc ee : Int32} (hl : 1 ≤ lst) (hb : 0 < b.2.1) : CN2 RR n w lst A M S (lks RR n w lst A M b S cc ee) := by
  unfold lks
  split
  · rename_i h
    exact ⟨cns_w, Or.inl h⟩
  · exact ⟨cns_k hl (wgh_p hl hb) cns_w, Or.inr cns_w⟩
theorem cn2_no {RR : Nat → Int} {n w lst : Nat} {A M S : Int64} {b : BST} {cc ee : Int32} (h : CN2 RR n w lst A M S b) : lks RR n w lst A M b S cc ee = b := by
  unfold lks
  split
  · exact cns_no h.1
  · rename_i q
    rw [cns_no h.1]
    exact cns_no (h.2.resolve_left q)
/-- the class's two ways with a side -/
def cls (RR : Nat → Int) (n w lst : Nat) (A M : Int64) (b : CST) (S : Int64) (c e : Int32) : CST :=
  if M = 0 then csd RR n w lst A b (S ||| M) c e 1 else csd RR n w lst A (csd RR n w lst A b (S ||| M) c e 1) S c e 0
theorem srl_s {RR : Nat → Int} {n w lst : Nat} {A M S : Int64} {b : CST} {r : BST} {cc ee : Int32} (hn : n ≤ 64) (hl : 1 ≤ lst) (hM : WIN M A) (hS : WIN S A) (h : SRL (cb A + w) (smv RR A n) b r) : SRL (cb A + w) (smv RR A n) (cls RR n w lst A M b S cc ee) (lks RR n w lst A M r S cc ee) := by
  unfold cls lks
  split
  · exact srl_w hn hl (win_or hS hM) h
  · exact srl_w hn hl hS (srl_w hn hl (win_or hS hM) h)
/-- the rows of A before edge k, without the missing -/
abbrev seK (vv eg : Nat → Int32) (n c : Nat) (A M : Int64) (k : Nat) : Int64 := (rlt vv c (eg (11 * c + k)) n &&& A) &&& (M ^^^ (-1))
/-- the class's way through the edges of a column -/
def clE (RR : Nat → Int) (n w lst : Nat) (vv eg : Nat → Int32) (c : Nat) (A M : Int64) (b : CST) : Nat → CST
  | 0 => b
  | k + 1 => if 0 < k ∧ seK vv eg n c A M k = seK vv eg n c A M (k - 1) then clE RR n w lst vv eg c A M b k else cls RR n w lst A M (clE RR n w lst vv eg c A M b k) (seK vv eg n c A M k) (nI c) (eg (11 * c + k))
theorem srl_E {RR : Nat → Int} {n w lst : Nat} {vv eg : Nat → Int32} {c : Nat} {A M : Int64} {b : CST} {r : BST} (hn : n ≤ 64) (hl : 1 ≤ lst) (hM : WIN M A) (hr : 0 < r.2.1) (h : SRL (cb A + w) (smv RR A n) b r) : ∀ k, SRL (cb A + w) (smv RR A n) (clE RR n w lst vv eg c A M b k) (lkE RR n w lst vv eg c A M r k) ∧ 0 < (lkE RR n w lst vv eg c A M r k).2.1 ∧ (0 < k → CN2 RR n w lst A M (seK vv eg n c A M (k - 1)) (lkE RR n w lst vv eg c A M r k))
  | 0 => ⟨h, hr, fun q => absurd q (by omega)⟩
  | k + 1 => by
    obtain ⟨i1, i2, i3⟩ := srl_E (vv := vv) (eg := eg) (c := c) hn hl hM hr h k
    have hS : WIN (seK vv eg n c A M k) A := win_andl win_and
    show SRL _ _ (if _ then _ else _) (lks RR n w lst A M (lkE RR n w lst vv eg c A M r k) (seK vv eg n c A M k) (nI c) (eg (11 * c + k))) ∧ 0 < (lks RR n w lst A M (lkE RR n w lst vv eg c A M r k) (seK vv eg n c A M k) (nI c) (eg (11 * c + k))).2.1 ∧ (0 < k + 1 → CN2 RR n w lst A M (seK vv eg n c A M k) (lks RR n w lst A M (lkE RR n w lst vv eg c A M r k) (seK vv eg n c A M k) (nI c) (eg (11 * c + k))))
    refine ⟨?_, lks_p hl i2, fun _ => cn2_s hl i2⟩
    by_cases q : 0 < k ∧ seK vv eg n c A M k = seK vv eg n c A M (k - 1)
    · rw [if_pos q]
      have h3 := i3 q.1
      rw [← q.2] at h3
      rw [cn2_no h3]
      exact i1
    · rw [if_neg q]
      exact srl_s hn hl hM hS i1
/-! Kinds in the order of their means: sorted by the class, picked one by one by the reference. -/
theorem cr_le {a b c : Int} {x y z : Nat} (hx : 0 < x) (hy : 0 < y) (hz : 0 < z) (h1 : a * (y : Int) ≤ b * (x : Int)) (h2 : b * (z : Int) ≤ c * (y : Int)) : a * (z : Int) ≤ c * (x : Int) ∧ (a * (z : Int) = c * (x : Int) → a * (y : Int) = b * (x : Int) ∧ b * (z : Int) = c * (y : Int)) := by
  have p1 : a * (y : Int) * (z : Int) ≤ b * (x : Int) * (z : Int) := Int.mul_le_mul_of_nonneg_right h1 (by omega)
  have p2 : b * (z : Int) * (x : Int) ≤ c * (y : Int) * (x : Int) := Int.mul_le_mul_of_nonneg_right h2 (by omega)
  have e0 : b * (x : Int) * (z : Int) = b * (z : Int) * (x : Int) := by ac_rfl
  have e1 : a * (z : Int) * (y : Int) = a * (y : Int) * (z : Int) := by ac_rfl
  have e2 : c * (x : Int) * (y : Int) = c * (y : Int) * (x : Int) := by ac_rfl
  refine ⟨Int.le_of_mul_le_mul_right (a := (y : Int)) (by omega) (by omega), fun h => ?_⟩
  have e3 : a * (z : Int) * (y : Int) = c * (x : Int) * (y : Int) := by rw [h]
  exact ⟨Int.eq_of_mul_eq_mul_right (a := (z : Int)) (by omega) (by omega), Int.eq_of_mul_eq_mul_right (a := (x : Int)) (by omega) (by omega)⟩
section KO
variable (RR : Nat → Int) (n w : Nat) (vv : Nat → Int32) (c : Nat) (A : Int64)
/-- the rows of a kind; the order of kinds -/
abbrev kdr (k : Nat) : Int64 := rwk vv c (nI k) n &&& A
def kbf (i j : Nat) : Prop := bef RR n w (kdr n vv c A i) (nI i) (kdr n vv c A j) (nI j) = true
end KO
theorem nI_lt12 {i j : Nat} (hi : i < 12) (hj : j < 12) : nI i < nI j ↔ i < j := by
  rw [Int32.lt_iff_toInt_lt, nI_toInt (by omega), nI_toInt (by omega)]
  omega
theorem kbf_e {RR : Nat → Int} {n w : Nat} {vv : Nat → Int32} {c : Nat} {A : Int64} {i j : Nat} (hi : i < 12) (hj : j < 12) : kbf RR n w vv c A i j ↔ (smv RR (kdr n vv c A i) n * ((cb (kdr n vv c A j) + w : Nat) : Int) ≤ smv RR (kdr n vv c A j) n * ((cb (kdr n vv c A i) + w : Nat) : Int) ∧ (smv RR (kdr n vv c A i) n * ((cb (kdr n vv c A j) + w : Nat) : Int) = smv RR (kdr n vv c A j) n * ((cb (kdr n vv c A i) + w : Nat) : Int) → i < j)) := by
  unfold kbf bef
  rw [Bool.or_eq_true, Bool.and_eq_true, decide_eq_true_eq, decide_eq_true_eq, decide_eq_true_eq, nI_lt12 hi hj]
  constructor
  · rintro (h | ⟨h1, h2⟩)
    · exact ⟨by omega, fun q => absurd q (by omega)⟩
    · exact ⟨by omega, fun _ => h2⟩
  · rintro ⟨h1, h2⟩
    by_cases q : smv RR (kdr n vv c A i) n * ((cb (kdr n vv c A j) + w : Nat) : Int) = smv RR (kdr n vv c A j) n * ((cb (kdr n vv c A i) + w : Nat) : Int)
    · exact Or.inr ⟨q, h2 q⟩
    · exact Or.inl (by omega)
theorem kbf_tr {RR : Nat → Int} {n w : Nat} {vv : Nat → Int32} {c : Nat} {A : Int64} {i j k : Nat} (hi : i < 12) (hj : j < 12) (hk : k < 12) (pi : ¬ kdr n vv c A i = 0) (pj : ¬ kdr n vv c A j = 0) (pk : ¬ kdr n vv c A k = 0) (h1 : kbf RR n w vv c A i j) (h2 : kbf RR n w vv c A j k) : kbf RR n w vv c A i k := by
  rw [kbf_e hi hj] at h1
  rw [kbf_e hj hk] at h2
  rw [kbf_e hi hk]
  have ci := cb_pos pi
  have cj := cb_pos pj
  have ck := cb_pos pk
  have := cr_le (by omega) (by omega) (by omega) h1.1 h2.1
  exact ⟨this.1, fun q => by have r := this.2 q; have := h1.2 r.1; have := h2.2 r.2; omega⟩
theorem kbf_to {RR : Nat → Int} {n w : Nat} {vv : Nat → Int32} {c : Nat} {A : Int64} {i j : Nat} (hi : i < 12) (hj : j < 12) (hij : i ≠ j) : kbf RR n w vv c A i j ∨ kbf RR n w vv c A j i := by
  rw [kbf_e hi hj, kbf_e hj hi]
  omega
theorem kbf_as {RR : Nat → Int} {n w : Nat} {vv : Nat → Int32} {c : Nat} {A : Int64} {i j : Nat} (hi : i < 12) (hj : j < 12) (h1 : kbf RR n w vv c A i j) (h2 : kbf RR n w vv c A j i) : False := by
  rw [kbf_e hi hj] at h1
  rw [kbf_e hj hi] at h2
  omega
theorem nI_pos {k : Nat} (h : k < 2 ^ 31) : ¬ nI k < 0 := fun q => by
  rw [Int32.lt_iff_toInt_lt, nI_toInt h] at q
  have e0 : (0 : Int32).toInt = 0 := by decide
  omega
/-- a kind that can be picked -/
abbrev kcn (n : Nat) (vv : Nat → Int32) (c : Nat) (A : Int64) (bits : Int32) (j : Nat) : Prop := tk bits j = false ∧ ¬ kdr n vv c A j = 0
theorem nxk_min {RR : Nat → Int} {n w : Nat} {vv : Nat → Int32} {c : Nat} {A : Int64} {bits : Int32} : ∀ k, k ≤ 12 → (nxk RR n w vv c A bits k = -1 ∧ ∀ i, i < k → ¬ kcn n vv c A bits i) ∨ ∃ j, j < k ∧ kcn n vv c A bits j ∧ nxk RR n w vv c A bits k = nI j ∧ ∀ i, i < k → kcn n vv c A bits i → i ≠ j → kbf RR n w vv c A j i
  | 0, _ => Or.inl ⟨rfl, fun i hi => absurd hi (by omega)⟩
  | k + 1, hk => by
    have ih := nxk_min (RR := RR) (w := w) (vv := vv) (c := c) (A := A) (bits := bits) (n := n) k (by omega)
    by_cases hc : kcn n vv c A bits k
    · have h1 := (tk_0 bits (show k < 32 by omega)).mpr hc.1
      rcases ih with ⟨e, hn⟩ | ⟨j, hj, cj, e, hm⟩
      · rw [nxk_t h1 hc.2 (Or.inl (by rw [e]; decide))]
        refine Or.inr ⟨k, by omega, hc, rfl, fun i hi ci hne => absurd ci (hn i (by omega))⟩
      · by_cases hb : kbf RR n w vv c A k j
        · rw [nxk_t h1 hc.2 (Or.inr (by rw [e]; exact hb))]
          refine Or.inr ⟨k, by omega, hc, rfl, fun i hi ci hne => ?_⟩
          by_cases q : i = j
          · rw [q]; exact hb
          · exact kbf_tr (by omega) (by omega) (by omega) hc.2 cj.2 ci.2 hb (hm i (by omega) ci q)
        · rw [nxk_f (fun z => z.2.2.elim (fun y => absurd y (by rw [e]; exact nI_pos (by omega))) (fun y => hb (by rw [e] at y; exact y)))]
          refine Or.inr ⟨j, by omega, cj, e, fun i hi ci hne => ?_⟩
          by_cases q : i = k
          · rw [q]
            exact (kbf_to (RR := RR) (n := n) (w := w) (vv := vv) (c := c) (A := A) (show j < 12 by omega) (show k < 12 by omega) (by omega)).resolve_right hb
          · exact hm i (by omega) ci hne
    · rw [nxk_f (fun z => hc ⟨(tk_0 bits (by omega)).mp z.1, z.2.1⟩)]
      rcases ih with ⟨e, hn⟩ | ⟨j, hj, cj, e, hm⟩
      · refine Or.inl ⟨e, fun i hi => ?_⟩
        by_cases q : i = k
        · rw [q]; exact hc
        · exact hn i (by omega)
      · refine Or.inr ⟨j, by omega, cj, e, fun i hi ci hne => ?_⟩
        by_cases q : i = k
        · rw [q] at ci; exact absurd ci hc
        · exact hm i (by omega) ci hne
/-- the kinds that rows have, sorted -/
def KOR (RR : Nat → Int) (n w : Nat) (vv : Nat → Int32) (c : Nat) (A : Int64) (od : Nat → Nat) (F : Nat) : Prop :=
  (∀ p, p < F → od p < 12 ∧ ¬ kdr n vv c A (od p) = 0) ∧ (∀ p q, p < q → q < F → kbf RR n w vv c A (od p) (od q)) ∧ ∀ j, j < 12 → ¬ kdr n vv c A j = 0 → ∃ p, p < F ∧ od p = j
def bitK (od : Nat → Nat) : Nat → Int32
  | 0 => 0
  | p + 1 => bitK od p ||| ((1 : Int32) <<< (nI (od p) &&& 31))
def sidK (n : Nat) (vv : Nat → Int32) (c : Nat) (A : Int64) (od : Nat → Nat) : Nat → Int64
  | 0 => 0
  | p + 1 => sidK n vv c A od p ||| kdr n vv c A (od p)
theorem tk_z (j : Nat) : tk 0 j = false := by
  unfold tk
  show (0#32).getLsbD j = false
  exact BitVec.getLsbD_zero
theorem tk_bitK {od : Nat → Nat} {j : Nat} (hj : j < 12) : ∀ p, (∀ i, i < p → od i < 12) → (tk (bitK od p) j = true ↔ ∃ i, i < p ∧ od i = j)
  | 0, _ => ⟨fun h => absurd h (by show ¬ tk 0 j = true; rw [tk_z]; decide), fun ⟨i, hi, _⟩ => absurd hi (by omega)⟩
  | p + 1, h => by
    have ih := tk_bitK (od := od) hj p (fun i hi => h i (by omega))
    show tk (bitK od p ||| ((1 : Int32) <<< (nI (od p) &&& 31))) j = true ↔ _
    rw [tk_or _ (show od p < 32 by have := h p (by omega); omega) (show j < 32 by omega), Bool.or_eq_true, ih, decide_eq_true_eq]
    constructor
    · rintro (⟨i, hi, e⟩ | e)
      · exact ⟨i, by omega, e⟩
      · exact ⟨p, by omega, e.symm⟩
    · rintro ⟨i, hi, e⟩
      by_cases q : i = p
      · exact Or.inr (by rw [← e, q])
      · exact Or.inl ⟨i, by omega, e⟩
theorem kor_in {RR : Nat → Int} {n w : Nat} {vv : Nat → Int32} {c : Nat} {A : Int64} {od : Nat → Nat} {F p q : Nat} (h : KOR RR n w vv c A od F) (hp : p < F) (hq : q < F) (e : od p = od q) : p = q := by
  rcases Nat.lt_trichotomy p q with r | r | r
  · exfalso
    have := h.2.1 p q r hq
    rw [e] at this
    exact kbf_as (h.1 q hq).1 (h.1 q hq).1 this this
  · exact r
  · exfalso
    have := h.2.1 q p r hp
    rw [e] at this
    exact kbf_as (h.1 q hq).1 (h.1 q hq).1 this this
theorem nxk_od {RR : Nat → Int} {n w : Nat} {vv : Nat → Int32} {c : Nat} {A : Int64} {od : Nat → Nat} {F p : Nat} (h : KOR RR n w vv c A od F) (hp : p < F) : nxk RR n w vv c A (bitK od p) 12 = nI (od p) := by
  have ho := h.1 p hp
  have hc : kcn n vv c A (bitK od p) (od p) := ⟨by
    cases hb : tk (bitK od p) (od p)
    · rfl
    · obtain ⟨i, hi, e⟩ := (tk_bitK ho.1 p (fun i hi => (h.1 i (by omega)).1)).mp hb
      exact absurd (kor_in h (by omega) hp e) (by omega), ho.2⟩
  rcases nxk_min (RR := RR) (n := n) (w := w) (vv := vv) (c := c) (A := A) (bits := bitK od p) 12 (Nat.le_refl _) with ⟨_, hn⟩ | ⟨j, hj, cj, e, hm⟩
  · exact absurd hc (hn _ ho.1)
  · rw [e]
    by_cases q : od p = j
    · rw [q]
    · exfalso
      obtain ⟨r, hr, er⟩ := h.2.2 j hj cj.2
      have hr2 : p < r := by
        rcases Nat.lt_trichotomy p r with z | z | z
        · exact z
        · exact absurd (by rw [z, er]) q
        · have := (tk_bitK (od := od) hj p (fun i hi => (h.1 i (by omega)).1)).mpr ⟨r, z, er⟩
          rw [cj.1] at this
          exact absurd this (by decide)
      have h1 := h.2.1 p r hr2 hr
      rw [er] at h1
      exact kbf_as ho.1 hj h1 (hm _ ho.1 hc q)
theorem nxk_end {RR : Nat → Int} {n w : Nat} {vv : Nat → Int32} {c : Nat} {A : Int64} {od : Nat → Nat} {F : Nat} (h : KOR RR n w vv c A od F) : nxk RR n w vv c A (bitK od F) 12 < 0 := by
  rcases nxk_min (RR := RR) (n := n) (w := w) (vv := vv) (c := c) (A := A) (bits := bitK od F) 12 (Nat.le_refl _) with ⟨e, _⟩ | ⟨j, hj, cj, _, _⟩
  · rw [e]; decide
  · exfalso
    obtain ⟨p, hp, e⟩ := h.2.2 j hj cj.2
    have := (tk_bitK (od := od) hj F (fun i hi => (h.1 i hi).1)).mpr ⟨p, hp, e⟩
    rw [cj.1] at this
    exact absurd this (by decide)
/-- both searches through the kinds, in their order -/
def lkd (RR : Nat → Int) (n w lst : Nat) (vv : Nat → Int32) (c : Nat) (A M : Int64) (od : Nat → Nat) (r : BST) : Nat → BST
  | 0 => r
  | p + 1 => lks RR n w lst A M (lkd RR n w lst vv c A M od r p) (sidK n vv c A od (p + 1)) (nI c) (bitK od (p + 1))
def clK (RR : Nat → Int) (n w lst : Nat) (vv : Nat → Int32) (c : Nat) (A M : Int64) (od : Nat → Nat) (b : CST) : Nat → CST
  | 0 => b
  | p + 1 => cls RR n w lst A M (clK RR n w lst vv c A M od b p) (sidK n vv c A od (p + 1)) (nI c) (bitK od (p + 1))
theorem lkk_od {RR : Nat → Int} {n w lst : Nat} {vv : Nat → Int32} {c : Nat} {A M : Int64} {od : Nat → Nat} {F : Nat} {r : BST} (h : KOR RR n w vv c A od F) : ∀ d p f, p + d = F → d ≤ f → lkk RR n w lst vv c A M f (bitK od p) (sidK n vv c A od p) (lkd RR n w lst vv c A M od r (min p (F - 1))) = lkd RR n w lst vv c A M od r (F - 1)
  | 0, p, f, hp, _ => by
    have e : p = F := by omega
    subst e
    rw [lkk_0 (nxk_end h), show min p (p - 1) = p - 1 by omega]
  | d + 1, p, 0, _, hf => absurd hf (by omega)
  | d + 1, p, f + 1, hp, hf => by
    have hpF : p < F := by omega
    have e1 := nxk_od h hpF
    have ih := lkk_od (lst := lst) (M := M) (r := r) h d (p + 1) f (by omega) (by omega)
    rw [lkk_s (bits2 := bitK od (p + 1)) (side2 := sidK n vv c A od (p + 1)) (by rw [e1]; exact nI_pos (by have := (h.1 p hpF).1; omega)) (by rw [e1]; rfl) (by rw [e1]; rfl), show min p (F - 1) = p by omega]
    by_cases q : p + 1 < F
    · rw [show min (p + 1) (F - 1) = p + 1 by omega] at ih
      rw [if_neg (by rw [nxk_od h q]; exact nI_pos (by have := (h.1 _ q).1; omega))]
      exact ih
    · have e2 : p + 1 = F := by omega
      rw [if_pos (by rw [e2]; exact nxk_end h)]
      rw [show min (p + 1) (F - 1) = p by omega] at ih
      exact ih
theorem lkk_all {RR : Nat → Int} {n w lst : Nat} {vv : Nat → Int32} {c : Nat} {A M : Int64} {od : Nat → Nat} {F : Nat} {r : BST} (h : KOR RR n w vv c A od F) (hF : F ≤ 13) : lkk RR n w lst vv c A M 13 0 0 r = lkd RR n w lst vv c A M od r (F - 1) := by
  have := lkk_od (lst := lst) (M := M) (r := r) h F 0 13 (by omega) (by omega)
  rw [show min 0 (F - 1) = 0 by omega] at this
  exact this
theorem win_sidK {n : Nat} {vv : Nat → Int32} {c : Nat} {A : Int64} {od : Nat → Nat} : ∀ p, WIN (sidK n vv c A od p) A
  | 0 => win_0
  | p + 1 => win_or (win_sidK p) win_and
theorem srl_K {RR : Nat → Int} {n w lst : Nat} {vv : Nat → Int32} {c : Nat} {A M : Int64} {od : Nat → Nat} {b : CST} {r : BST} (hn : n ≤ 64) (hl : 1 ≤ lst) (hM : WIN M A) (h : SRL (cb A + w) (smv RR A n) b r) : ∀ p, SRL (cb A + w) (smv RR A n) (clK RR n w lst vv c A M od b p) (lkd RR n w lst vv c A M od r p)
  | 0 => h
  | p + 1 => srl_s hn hl hM (win_sidK (p + 1)) (srl_K hn hl hM h p)
set_option maxHeartbeats 4000000 in
set_option maxRecDepth 100000 in
theorem k_bitCount (l : Launch) (D : va_G) (cT : Nat → ClassId) (x : Int64) : Met l yLg_bitCount WLg_bitCount ({ frames := 0, cells := 0, slots := 0, locals := 0 } : Room) (RO D vwCl [.long x] [] (TY cT)) (QcRead (nI (cb x))) 0 0 (fun _ => False) := by
  refine Met.ofW (cc := cLg_bitCount) (maxL := 2) (ret := (some .int)) (by decide) rfl ?_
  intro p e s m args below meth c s₁ B hml hv
  obtain ⟨rfl, hZ, hP, hK⟩ := hv
  have hx := B.exec
  have hb := B.bytes
  have hr := B.returns
  have hts := atoms_spec (ws := WLg_bitCount) B.pre
  have hT : ∀ w ∈ TB, w.before _ s = true := fun w h => hts w (List.mem_cons_of_mem _ h)
  have hown : s.vm.findClass R_Lg = some m.cls := findClass_of_methodNamed B.named
  have hlocks := B.notSynchronized
  have hS : va_S (fun _ => False) s.heap s.heap [] := va_S.rf
  have hl := lv_entry ([.long x]) (n := 2) (Nat.le_of_ble_eq_true rfl)
  rw [lg_entry_eq]
  generalize (lg_sl ([.long x]) ++ List.replicate (2 - (lg_sl ([.long x])).length) Slot.unset).toArray = ls at hl ⊢
  have hl : lv_has ls 2 [(0, .long x)] := hl
  obtain ⟨v, hv8, hxv⟩ := wb_of x
  have hl : lv_has ls 2 [(0, .long (lN v))] := by
    rw [hxv.symm]; exact hl
  have h88 : v < 256 ^ 8 := hv8
  refine lv_lload_n hx hb dLg_bitCount_0 rfl (lv_at hl 0 rfl) ?_
  refine lv_lload_n hx hb dLg_bitCount_1 rfl (lv_at hl 0 rfl) ?_
  refine lv_iconst (v := 1) hx hb dLg_bitCount_2 (by decide) ?_
  refine lv_lushr (v := lN (v / 2)) hx hb dLg_bitCount_3 (lu_sh (k := 1) hv8 (by decide) (by decide)) ?_
  refine lv_ldc2 (v := 6148914691236517205) hx hb hown (hT _ w375) dLg_bitCount_4 ?_
  refine lv_land hx hb dLg_bitCount_7 ?_
  refine lv_topl (fun y9 e9 => ?_)
  cases (show y9 = lN (v / 2 &&& mk 85 8) from e9.trans (by rw [mk_85]; exact lN_and _ _))
  refine lv_lsub hx hb dLg_bitCount_8 ?_
  refine lv_topl (fun y9 e9 => ?_)
  cases (show y9 = lN (v - (v / 2 &&& mk 85 8)) from e9.trans (lN_sub (a := v) (b := v / 2 &&& mk 85 8) (s1_le 8 v h88)))
  refine lv_topl (fun y9 e9 => ?_)
  cases (show y9 = lN (s1 8 v) from e9.trans rfl)
  refine lv_lstore_n hx hb dLg_bitCount_9 rfl hl (by decide) rfl (fun ls hl => ?_)
  have hl : lv_has ls 2 [(0, .long (lN (s1 8 v)))] := hl
  have hs1 : s1 8 v < 2 ^ 64 := Nat.lt_of_le_of_lt (Nat.sub_le _ _) hv8
  refine lv_lload_n hx hb dLg_bitCount_10 rfl (lv_at hl 0 rfl) ?_
  refine lv_ldc2 (v := 3689348814741910323) hx hb hown (hT _ w376) dLg_bitCount_11 ?_
  refine lv_land hx hb dLg_bitCount_14 ?_
  refine lv_topl (fun y9 e9 => ?_)
  cases (show y9 = lN (s1 8 v &&& mk 51 8) from e9.trans (by rw [mk_51]; exact lN_and _ _))
  refine lv_lload_n hx hb dLg_bitCount_15 rfl (lv_at hl 0 rfl) ?_
  refine lv_iconst (v := 2) hx hb dLg_bitCount_16 (by decide) ?_
  refine lv_lushr (v := lN (s1 8 v / 4)) hx hb dLg_bitCount_17 (lu_sh (k := 2) hs1 (by decide) (by decide)) ?_
  refine lv_ldc2 (v := 3689348814741910323) hx hb hown (hT _ w376) dLg_bitCount_18 ?_
  refine lv_land hx hb dLg_bitCount_21 ?_
  refine lv_topl (fun y9 e9 => ?_)
  cases (show y9 = lN (s1 8 v / 4 &&& mk 51 8) from e9.trans (by rw [mk_51]; exact lN_and _ _))
  refine lv_ladd hx hb dLg_bitCount_22 ?_
  refine lv_topl (fun y9 e9 => ?_)
  cases (show y9 = lN ((s1 8 v &&& mk 51 8) + (s1 8 v / 4 &&& mk 51 8)) from e9.trans (lN_add (s1 8 v &&& mk 51 8) (s1 8 v / 4 &&& mk 51 8)))
  refine lv_topl (fun y9 e9 => ?_)
  cases (show y9 = lN (s2 8 (s1 8 v)) from e9.trans rfl)
  refine lv_lstore_n hx hb dLg_bitCount_23 rfl hl (by decide) rfl (fun ls hl => ?_)
  have hl : lv_has ls 2 [(0, .long (lN (s2 8 (s1 8 v))))] := hl
  refine lv_lload_n hx hb dLg_bitCount_24 rfl (lv_at hl 0 rfl) ?_
  refine lv_lload_n hx hb dLg_bitCount_25 rfl (lv_at hl 0 rfl) ?_
  refine lv_iconst (v := 4) hx hb dLg_bitCount_26 (by decide) ?_
  refine lv_lushr (v := lN (s2 8 (s1 8 v) / 16)) hx hb dLg_bitCount_27 (lu_sh (k := 4) s2_b (by decide) (by decide)) ?_
  refine lv_ladd hx hb dLg_bitCount_28 ?_
  refine lv_topl (fun y9 e9 => ?_)
  cases (show y9 = lN ((s2 8 (s1 8 v)) + (s2 8 (s1 8 v) / 16)) from e9.trans (lN_add (s2 8 (s1 8 v)) (s2 8 (s1 8 v) / 16)))
  refine lv_ldc2 (v := 1085102592571150095) hx hb hown (hT _ w377) dLg_bitCount_29 ?_
  refine lv_land hx hb dLg_bitCount_32 ?_
  refine lv_topl (fun y9 e9 => ?_)
  cases (show y9 = lN (ps 8 v) from e9.trans (by rw [mk_15, lN_and]; exact congrArg lN (s123 8 v h88)))
  refine lv_lstore_n hx hb dLg_bitCount_33 rfl hl (by decide) rfl (fun ls hl => ?_)
  have hl : lv_has ls 2 [(0, .long (lN (ps 8 v)))] := hl
  refine lv_lload_n hx hb dLg_bitCount_34 rfl (lv_at hl 0 rfl) ?_
  refine lv_lload_n hx hb dLg_bitCount_35 rfl (lv_at hl 0 rfl) ?_
  refine lv_bipush (v := 8) hx hb dLg_bitCount_36 (by decide) ?_
  refine lv_lushr (v := lN (ps 8 v / 256)) hx hb dLg_bitCount_38 (lu_sh (k := 8) (Nat.lt_of_le_of_lt ps_b (by decide)) (by decide) (by decide)) ?_
  refine lv_ladd hx hb dLg_bitCount_39 ?_
  refine lv_topl (fun y9 e9 => ?_)
  cases (show y9 = lN ((ps 8 v) + (ps 8 v / 256)) from e9.trans (lN_add (ps 8 v) (ps 8 v / 256)))
  obtain ⟨v4, hv4⟩ : ∃ q9 : Nat, q9 = ps 8 v + ps 8 v / 256 := ⟨_, rfl⟩
  refine lv_topl (fun y9 e9 => ?_)
  cases (show y9 = lN v4 from e9.trans (congrArg lN hv4.symm))
  have hb4 : v4 < 2 ^ 62 := by have q9 := ps_b (v := v); omega
  refine lv_lstore_n hx hb dLg_bitCount_40 rfl hl (by decide) rfl (fun ls hl => ?_)
  have hl : lv_has ls 2 [(0, .long (lN v4))] := hl
  refine lv_lload_n hx hb dLg_bitCount_41 rfl (lv_at hl 0 rfl) ?_
  refine lv_lload_n hx hb dLg_bitCount_42 rfl (lv_at hl 0 rfl) ?_
  refine lv_bipush (v := 16) hx hb dLg_bitCount_43 (by decide) ?_
  refine lv_lushr (v := lN (v4 / 65536)) hx hb dLg_bitCount_45 (lu_sh (k := 16) (by omega) (by decide) (by decide)) ?_
  refine lv_ladd hx hb dLg_bitCount_46 ?_
  refine lv_topl (fun y9 e9 => ?_)
  cases (show y9 = lN (v4 + (v4 / 65536)) from e9.trans (lN_add v4 (v4 / 65536)))
  obtain ⟨v5, hv5⟩ : ∃ q9 : Nat, q9 = v4 + v4 / 65536 := ⟨_, rfl⟩
  refine lv_topl (fun y9 e9 => ?_)
  cases (show y9 = lN v5 from e9.trans (congrArg lN hv5.symm))
  have hb5 : v5 < 2 ^ 63 := by omega
  refine lv_lstore_n hx hb dLg_bitCount_47 rfl hl (by decide) rfl (fun ls hl => ?_)
  have hl : lv_has ls 2 [(0, .long (lN v5))] := hl
  refine lv_lload_n hx hb dLg_bitCount_48 rfl (lv_at hl 0 rfl) ?_
  refine lv_lload_n hx hb dLg_bitCount_49 rfl (lv_at hl 0 rfl) ?_
  refine lv_bipush (v := 32) hx hb dLg_bitCount_50 (by decide) ?_
  refine lv_lushr (v := lN (v5 / 4294967296)) hx hb dLg_bitCount_52 (lu_sh (k := 32) (by omega) (by decide) (by decide)) ?_
  refine lv_ladd hx hb dLg_bitCount_53 ?_
  refine lv_topl (fun y9 e9 => ?_)
  cases (show y9 = lN (v5 + (v5 / 4294967296)) from e9.trans (lN_add v5 (v5 / 4294967296)))
  refine lv_lstore_n hx hb dLg_bitCount_54 rfl hl (by decide) rfl (fun ls hl => ?_)
  have hl : lv_has ls 2 [(0, .long (lN (v5 + (v5 / 4294967296))))] := hl
  refine lv_lload_n hx hb dLg_bitCount_55 rfl (lv_at hl 0 rfl) ?_
  refine lv_l2i hx hb dLg_bitCount_56 rfl ?_
  refine lv_topi (fun y9 e9 => ?_)
  cases (show y9 = nI (v5 + (v5 / 4294967296)) from e9.trans (lN_i (v5 + (v5 / 4294967296))))
  refine lv_bipush (v := 127) hx hb dLg_bitCount_57 (by decide) ?_
  refine lv_iand hx hb dLg_bitCount_59 ?_
  refine lv_topi (fun y9 e9 => ?_)
  cases (show y9 = nI (cb x) from e9.trans (by rw [ni_127, bc_all hv4 hv5, hxv]))
  exact W.iret (v := nI (cb x)) hx hb hr (fun t9 ht9 hW9 => ⟨rfl, ht9⟩) (fun q h => nomatch h) dLg_bitCount_60
set_option maxHeartbeats 4000000 in
set_option maxRecDepth 100000 in
theorem k_gclear (l : Launch) (D : va_G) (cT : Nat → ClassId) (g : Nat) (gr : Int64) (gs : Nat) (gsw : Nat) (gsn : Int32) (gsb : Int32) (gsf : Nat → Int32) (sz : Nat) : Met l yG_clear WG_clear ({ frames := 2, cells := 0, slots := 0, locals := 42 } : Room) (RW D vwCl [.ref g] [(g, .inr (5, [.long gr, .ref gs])), (gs, .inr (4, [.ref gsw, .int gsn, .int gsb])), (gsw, .inl (cT 0, 24, .inl gsf))] (TY cT) sz) (va_Qv (fun u9 : Int32 × Int32 × (Nat → Int32) => WN 24 u9.1 u9.2.1 u9.2.2 (0)) (BW D vwCl (va_A [(g, .inr (5, [.long gr, .ref gs])), (gs, .inr (4, [.ref gsw, .int gsn, .int gsb])), (gsw, .inl (cT 0, 24, .inl gsf))] sz) (fun u9 : Int32 × Int32 × (Nat → Int32) => [(g, .inr (5, [.long 0, .ref gs])), (gs, .inr (4, [.ref gsw, .int u9.1, .int u9.2.1])), (gsw, .inl (cT 0, 24, .inl u9.2.2))])) (va_A [(g, .inr (5, [.long gr, .ref gs])), (gs, .inr (4, [.ref gsw, .int gsn, .int gsb])), (gsw, .inl (cT 0, 24, .inl gsf))] sz)) 0 0 (va_A [(g, .inr (5, [.long gr, .ref gs])), (gs, .inr (4, [.ref gsw, .int gsn, .int gsb])), (gsw, .inl (cT 0, 24, .inl gsf))] sz) := by
  refine Met.ofW (cc := cG_clear) (maxL := 1) (ret := none) (by decide) rfl ?_
  intro p e s m args below meth c s₁ B hml hv
  obtain ⟨rfl, hsz, hZ, hP, hK, hD0⟩ := hv
  have hx := B.exec
  have hb := B.bytes
  have hr := B.returns
  have hts := atoms_spec (ws := WG_clear) B.pre
  have hT : ∀ w ∈ TB, w.before _ s = true := fun w h => hts w (List.mem_cons_of_mem _ h)
  have hown : s.vm.findClass R_G = some m.cls := findClass_of_methodNamed B.named
  have hlocks := B.notSynchronized
  subst hsz
  have hD := hD0.self (sz := s.heap.size)
  generalize hAe : va_A [(g, .inr (5, [.long gr, .ref gs])), (gs, .inr (4, [.ref gsw, .int gsn, .int gsb])), (gsw, .inl (cT 0, 24, .inl gsf))] s.heap.size = A at hD hZ ⊢
  have hA : ∀ q : Nat, s.heap.size ≤ q → A q := fun q h => by rw [← hAe]; exact Or.inr h
  have hS : va_S A s.heap s.heap [] := va_S.rf
  have hl := lv_entry ([.ref g]) (n := 1) (Nat.le_of_ble_eq_true rfl)
  rw [lg_entry_eq]
  generalize (lg_sl ([.ref g]) ++ List.replicate (1 - (lg_sl ([.ref g])).length) Slot.unset).toArray = ls at hl ⊢
  have hl : lv_has ls 1 [(0, .ref g)] := hl
  refine lv_aload_n hx hb dG_clear_0 rfl (lv_at hl 0 rfl) ?_
  refine lv_lconst (v := 0) hx hb dG_clear_1 (by decide) ?_
  refine va_put (D := D) (ci := 5) (v := .long 0) (ty := .long) (C := R_G) (T := T_G) (N := 2) hx hb hT in_G ty_G ty_G_ok m_G hown hK hP hD hS 0 rfl rfl 0 (by decide) (hT _ w172) (fun _ h9 => h9) rfl (by decide +kernel) rfl rfl (Nat.le_of_ble_eq_true rfl) dG_clear_2 (fun H locs hP hD hS => ?_)
  have hP : va_P D vwCl [(g, .inr (5, [.long 0, .ref gs])), (gs, .inr (4, [.ref gsw, .int gsn, .int gsb])), (gsw, .inl (cT 0, 24, .inl gsf))] _ := hP
  have hD : va_D A [(g, .inr (5, [.long 0, .ref gs])), (gs, .inr (4, [.ref gsw, .int gsn, .int gsb])), (gsw, .inl (cT 0, 24, .inl gsf))] := hD
  refine lv_aload_n hx hb dG_clear_5 rfl (lv_at hl 0 rfl) ?_
  refine va_get (D := D) (ci := 5) (v := .ref gs) (C := R_G) (T := T_G) (N := 2) hx hb hT in_G hown hK hP 0 rfl rfl 1 (by decide) (hT _ w174) (fun _ h9 => h9) rfl dG_clear_6 ?_
  refine lv_iconst (v := 0) hx hb dG_clear_9 (by decide) ?_
  refine rw_v (wc := [(gs, .inr (4, [.ref gsw, .int gsn, .int gsb])), (gsw, .inl (cT 0, 24, .inl gsf))]) (wr := [(g, .inr (5, [.long 0, .ref gs]))]) hP hD hS hA [1, 2] [0] rfl rfl (by decide) (by decide) (va_runV (As := [.int 0]) (rest := []) ⟨hx, hb, hml, hown, hT⟩ (k_setI l D cT gs gsw 24 gsn gsb gsf 0 (by decide) (by decide) (by decide) _) ⟨callB_of 1 hT (tb_gd w393) rfl rfl rfl (hT _ w5) (hT _ w909) hW_set ⟨Nat.le_of_ble_eq_true rfl, Nat.le_of_ble_eq_true rfl⟩, (hT _ w391), (hT _ w392)⟩ (RW.preV (ci := 4) (q0 := 0) hZ hS (va_free (wc := [(gs, .inr (4, [.ref gsw, .int gsn, .int gsb])), (gsw, .inl (cT 0, 24, .inl gsf))]) hD hS hA [1, 2] rfl) (hP.sub (ws' := [(gs, .inr (4, [.ref gsw, .int gsn, .int gsb])), (gsw, .inl (cT 0, 24, .inl gsf))]) [1, 2] rfl) hK (hD.sub (ws' := [(gs, .inr (4, [.ref gsw, .int gsn, .int gsb])), (gsw, .inl (cT 0, 24, .inl gsf))]) [1, 2] (by decide) rfl) rfl rfl) rfl rfl hl.1 rfl (lv_room (Nat.le_of_ble_eq_true rfl)) dG_clear_10 ⟨Nat.le_of_ble_eq_true rfl, Nat.le_of_ble_eq_true rfl⟩) (fun u9 H locs hpu1 hP hD hS => ?_)
  obtain ⟨n1u1, b1u1, f1u1⟩ := u9
  have hpu1 : WN 24 n1u1 b1u1 f1u1 0.toInt := hpu1
  have hP : va_P D vwCl [(g, .inr (5, [.long 0, .ref gs])), (gs, .inr (4, [.ref gsw, .int n1u1, .int b1u1])), (gsw, .inl (cT 0, 24, .inl f1u1))] _ := hP
  have hD : va_D A [(g, .inr (5, [.long 0, .ref gs])), (gs, .inr (4, [.ref gsw, .int n1u1, .int b1u1])), (gsw, .inl (cT 0, 24, .inl f1u1))] := hD
  have hP9 := hP.sub (ws' := [(g, .inr (5, [.long 0, .ref gs])), (gs, .inr (4, [.ref gsw, .int n1u1, .int b1u1])), (gsw, .inl (cT 0, 24, .inl f1u1))]) [0, 1, 2] rfl
  have hD9 := hD.sub (ws' := [(g, .inr (5, [.long 0, .ref gs])), (gs, .inr (4, [.ref gsw, .int n1u1, .int b1u1])), (gsw, .inl (cT 0, 24, .inl f1u1))]) [0, 1, 2] (by decide) rfl
  refine W.widen (k := 0) (n := 0) (Nat.le_of_ble_eq_true rfl) (Nat.le_of_ble_eq_true rfl) ?_
  exact W.vret hx hb hr (fun t9 ht9 hW9 => ⟨⟨(n1u1, b1u1, f1u1), rfl, (show WN 24 n1u1 b1u1 f1u1 (0) from hpu1), by rw [ht9]; exact hP9, hD9⟩, hS.F ht9⟩) hS.2.2 dG_clear_13
set_option maxHeartbeats 4000000 in
set_option maxRecDepth 100000 in
theorem k_takeIn (l : Launch) (D : va_G) (cT : Nat → ClassId) (g : Nat) (gr : Int64) (gs : Nat) (gsw : Nat) (gsn : Int32) (gsb : Int32) (gsf : Nat → Int32) (x : Int64) (t : Nat) (tw : Nat) (tn : Int32) (tb : Int32) (tf : Nat → Int32) (z : Int) (z2 : Int) (hN : WN 24 gsn gsb gsf (z)) (hN2 : WN 24 tn tb tf (z2)) (hfit : z.natAbs + z2.natAbs < 1000000000 ^ 24) (sz : Nat) : Met l yG_takeIn WG_takeIn ({ frames := 2, cells := 0, slots := 0, locals := 51 } : Room) (RW D vwCl [.ref g, .long x, .ref t] [(g, .inr (5, [.long gr, .ref gs])), (gs, .inr (4, [.ref gsw, .int gsn, .int gsb])), (gsw, .inl (cT 0, 24, .inl gsf)), (t, .inr (4, [.ref tw, .int tn, .int tb])), (tw, .inl (cT 0, 24, .inl tf))] (TY cT) sz) (va_Qv (fun u9 : Int32 × Int32 × (Nat → Int32) => WN 24 u9.1 u9.2.1 u9.2.2 (z + z2)) (BW D vwCl (va_A [(g, .inr (5, [.long gr, .ref gs])), (gs, .inr (4, [.ref gsw, .int gsn, .int gsb])), (gsw, .inl (cT 0, 24, .inl gsf)), (t, .inr (4, [.ref tw, .int tn, .int tb])), (tw, .inl (cT 0, 24, .inl tf))] sz) (fun u9 : Int32 × Int32 × (Nat → Int32) => [(g, .inr (5, [.long (gr ||| x), .ref gs])), (gs, .inr (4, [.ref gsw, .int u9.1, .int u9.2.1])), (gsw, .inl (cT 0, 24, .inl u9.2.2)), (t, .inr (4, [.ref tw, .int tn, .int tb])), (tw, .inl (cT 0, 24, .inl tf))])) (va_A [(g, .inr (5, [.long gr, .ref gs])), (gs, .inr (4, [.ref gsw, .int gsn, .int gsb])), (gsw, .inl (cT 0, 24, .inl gsf)), (t, .inr (4, [.ref tw, .int tn, .int tb])), (tw, .inl (cT 0, 24, .inl tf))] sz)) 0 0 (va_A [(g, .inr (5, [.long gr, .ref gs])), (gs, .inr (4, [.ref gsw, .int gsn, .int gsb])), (gsw, .inl (cT 0, 24, .inl gsf)), (t, .inr (4, [.ref tw, .int tn, .int tb])), (tw, .inl (cT 0, 24, .inl tf))] sz) := by
  refine Met.ofW (cc := cG_takeIn) (maxL := 4) (ret := none) (by decide) rfl ?_
  intro p e s m args below meth c s₁ B hml hv
  obtain ⟨rfl, hsz, hZ, hP, hK, hD0⟩ := hv
  have hx := B.exec
  have hb := B.bytes
  have hr := B.returns
  have hts := atoms_spec (ws := WG_takeIn) B.pre
  have hT : ∀ w ∈ TB, w.before _ s = true := fun w h => hts w (List.mem_cons_of_mem _ h)
  have hown : s.vm.findClass R_G = some m.cls := findClass_of_methodNamed B.named
  have hlocks := B.notSynchronized
  subst hsz
  have hD := hD0.self (sz := s.heap.size)
  generalize hAe : va_A [(g, .inr (5, [.long gr, .ref gs])), (gs, .inr (4, [.ref gsw, .int gsn, .int gsb])), (gsw, .inl (cT 0, 24, .inl gsf)), (t, .inr (4, [.ref tw, .int tn, .int tb])), (tw, .inl (cT 0, 24, .inl tf))] s.heap.size = A at hD hZ ⊢
  have hA : ∀ q : Nat, s.heap.size ≤ q → A q := fun q h => by rw [← hAe]; exact Or.inr h
  have hS : va_S A s.heap s.heap [] := va_S.rf
  have hl := lv_entry ([.ref g, .long x, .ref t]) (n := 4) (Nat.le_of_ble_eq_true rfl)
  rw [lg_entry_eq]
  generalize (lg_sl ([.ref g, .long x, .ref t]) ++ List.replicate (4 - (lg_sl ([.ref g, .long x, .ref t])).length) Slot.unset).toArray = ls at hl ⊢
  have hl : lv_has ls 4 [(0, .ref g), (1, .long x), (3, .ref t)] := hl
  refine lv_aload_n hx hb dG_takeIn_0 rfl (lv_at hl 0 rfl) ?_
  refine lv_dup hx hb dG_takeIn_1 rfl ?_
  refine va_get (D := D) (ci := 5) (v := .long gr) (C := R_G) (T := T_G) (N := 2) hx hb hT in_G hown hK hP 0 rfl rfl 0 (by decide) (hT _ w172) (fun _ h9 => h9) rfl dG_takeIn_2 ?_
  refine lv_lload_n hx hb dG_takeIn_5 rfl (lv_at hl 1 rfl) ?_
  refine lv_lor hx hb dG_takeIn_6 ?_
  refine va_put (D := D) (ci := 5) (v := .long (gr ||| x)) (ty := .long) (C := R_G) (T := T_G) (N := 2) hx hb hT in_G ty_G ty_G_ok m_G hown hK hP hD hS 0 rfl rfl 0 (by decide) (hT _ w172) (fun _ h9 => h9) rfl (by decide +kernel) rfl rfl (Nat.le_of_ble_eq_true rfl) dG_takeIn_7 (fun H locs hP hD hS => ?_)
  have hP : va_P D vwCl [(g, .inr (5, [.long (gr ||| x), .ref gs])), (gs, .inr (4, [.ref gsw, .int gsn, .int gsb])), (gsw, .inl (cT 0, 24, .inl gsf)), (t, .inr (4, [.ref tw, .int tn, .int tb])), (tw, .inl (cT 0, 24, .inl tf))] _ := hP
  have hD : va_D A [(g, .inr (5, [.long (gr ||| x), .ref gs])), (gs, .inr (4, [.ref gsw, .int gsn, .int gsb])), (gsw, .inl (cT 0, 24, .inl gsf)), (t, .inr (4, [.ref tw, .int tn, .int tb])), (tw, .inl (cT 0, 24, .inl tf))] := hD
  refine lv_aload_n hx hb dG_takeIn_10 rfl (lv_at hl 0 rfl) ?_
  refine va_get (D := D) (ci := 5) (v := .ref gs) (C := R_G) (T := T_G) (N := 2) hx hb hT in_G hown hK hP 0 rfl rfl 1 (by decide) (hT _ w174) (fun _ h9 => h9) rfl dG_takeIn_11 ?_
  refine lv_aload_n hx hb dG_takeIn_14 rfl (lv_at hl 2 rfl) ?_
  refine lv_iconst (v := 0) hx hb dG_takeIn_15 (by decide) ?_
  refine rw_v (wc := [(gs, .inr (4, [.ref gsw, .int gsn, .int gsb])), (gsw, .inl (cT 0, 24, .inl gsf)), (t, .inr (4, [.ref tw, .int tn, .int tb])), (tw, .inl (cT 0, 24, .inl tf))]) (wr := [(g, .inr (5, [.long (gr ||| x), .ref gs]))]) hP hD hS hA [1, 2, 3, 4] [0] rfl rfl (by decide) (by decide) (va_runV (As := [.ref t, .int 0]) (rest := []) ⟨hx, hb, hml, hown, hT⟩ (k_plus0 l D cT gs gsw 24 gsn gsb gsf z t tw 24 tn tb tf z2 (by decide) hN (by decide) hN2 hfit _) ⟨callB_of 2 hT (tb_gd w461) rfl rfl rfl (hT _ w5) (hT _ w916) hW_plus ⟨Nat.le_of_ble_eq_true rfl, Nat.le_of_ble_eq_true rfl⟩, (hT _ w459), (hT _ w460)⟩ (RW.preV (ci := 4) (q0 := 0) hZ hS (va_free (wc := [(gs, .inr (4, [.ref gsw, .int gsn, .int gsb])), (gsw, .inl (cT 0, 24, .inl gsf)), (t, .inr (4, [.ref tw, .int tn, .int tb])), (tw, .inl (cT 0, 24, .inl tf))]) hD hS hA [1, 2, 3, 4] rfl) (hP.sub (ws' := [(gs, .inr (4, [.ref gsw, .int gsn, .int gsb])), (gsw, .inl (cT 0, 24, .inl gsf)), (t, .inr (4, [.ref tw, .int tn, .int tb])), (tw, .inl (cT 0, 24, .inl tf))]) [1, 2, 3, 4] rfl) hK (hD.sub (ws' := [(gs, .inr (4, [.ref gsw, .int gsn, .int gsb])), (gsw, .inl (cT 0, 24, .inl gsf)), (t, .inr (4, [.ref tw, .int tn, .int tb])), (tw, .inl (cT 0, 24, .inl tf))]) [1, 2, 3, 4] (by decide) rfl) rfl rfl) rfl rfl hl.1 rfl (lv_room (Nat.le_of_ble_eq_true rfl)) dG_takeIn_16 ⟨Nat.le_of_ble_eq_true rfl, Nat.le_of_ble_eq_true rfl⟩) (fun u9 H locs hpu1 hP hD hS => ?_)
  obtain ⟨n1u1, b1u1, f1u1⟩ := u9
  have hpu1 : WN 24 n1u1 b1u1 f1u1 (z + z2) := hpu1
  have hP : va_P D vwCl [(g, .inr (5, [.long (gr ||| x), .ref gs])), (gs, .inr (4, [.ref gsw, .int n1u1, .int b1u1])), (gsw, .inl (cT 0, 24, .inl f1u1)), (t, .inr (4, [.ref tw, .int tn, .int tb])), (tw, .inl (cT 0, 24, .inl tf))] _ := hP
  have hD : va_D A [(g, .inr (5, [.long (gr ||| x), .ref gs])), (gs, .inr (4, [.ref gsw, .int n1u1, .int b1u1])), (gsw, .inl (cT 0, 24, .inl f1u1)), (t, .inr (4, [.ref tw, .int tn, .int tb])), (tw, .inl (cT 0, 24, .inl tf))] := hD
  have hP9 := hP.sub (ws' := [(g, .inr (5, [.long (gr ||| x), .ref gs])), (gs, .inr (4, [.ref gsw, .int n1u1, .int b1u1])), (gsw, .inl (cT 0, 24, .inl f1u1)), (t, .inr (4, [.ref tw, .int tn, .int tb])), (tw, .inl (cT 0, 24, .inl tf))]) [0, 1, 2, 3, 4] rfl
  have hD9 := hD.sub (ws' := [(g, .inr (5, [.long (gr ||| x), .ref gs])), (gs, .inr (4, [.ref gsw, .int n1u1, .int b1u1])), (gsw, .inl (cT 0, 24, .inl f1u1)), (t, .inr (4, [.ref tw, .int tn, .int tb])), (tw, .inl (cT 0, 24, .inl tf))]) [0, 1, 2, 3, 4] (by decide) rfl
  refine W.widen (k := 0) (n := 0) (Nat.le_of_ble_eq_true rfl) (Nat.le_of_ble_eq_true rfl) ?_
  exact W.vret hx hb hr (fun t9 ht9 hW9 => ⟨⟨(n1u1, b1u1, f1u1), rfl, (show WN 24 n1u1 b1u1 f1u1 (z + z2) from hpu1), by rw [ht9]; exact hP9, hD9⟩, hS.F ht9⟩) hS.2.2 dG_takeIn_19
set_option maxHeartbeats 4000000 in
set_option maxRecDepth 100000 in
theorem k_gbecome (l : Launch) (D : va_G) (cT : Nat → ClassId) (g : Nat) (gr : Int64) (gs : Nat) (gsw : Nat) (gsn : Int32) (gsb : Int32) (gsf : Nat → Int32) (o : Nat) (x : Int64) (t : Nat) (tw : Nat) (tn : Int32) (tb : Int32) (tf : Nat → Int32) (z2 : Int) (hN2 : WN 24 tn tb tf (z2)) (hfit : z2.natAbs < 1000000000 ^ 24) (sz : Nat) : Met l yG_become WG_become ({ frames := 2, cells := 0, slots := 0, locals := 61 } : Room) (RW D vwCl [.ref g, .ref o] [(g, .inr (5, [.long gr, .ref gs])), (gs, .inr (4, [.ref gsw, .int gsn, .int gsb])), (gsw, .inl (cT 0, 24, .inl gsf)), (o, .inr (5, [.long x, .ref t])), (t, .inr (4, [.ref tw, .int tn, .int tb])), (tw, .inl (cT 0, 24, .inl tf))] (TY cT) sz) (va_Qv (fun u9 : (Nat → Int32) => WN 24 tn tb u9 z2) (BW D vwCl (va_A [(g, .inr (5, [.long gr, .ref gs])), (gs, .inr (4, [.ref gsw, .int gsn, .int gsb])), (gsw, .inl (cT 0, 24, .inl gsf)), (o, .inr (5, [.long x, .ref t])), (t, .inr (4, [.ref tw, .int tn, .int tb])), (tw, .inl (cT 0, 24, .inl tf))] sz) (fun u9 : (Nat → Int32) => [(g, .inr (5, [.long x, .ref gs])), (gs, .inr (4, [.ref gsw, .int tn, .int tb])), (gsw, .inl (cT 0, 24, .inl u9)), (o, .inr (5, [.long x, .ref t])), (t, .inr (4, [.ref tw, .int tn, .int tb])), (tw, .inl (cT 0, 24, .inl tf))])) (va_A [(g, .inr (5, [.long gr, .ref gs])), (gs, .inr (4, [.ref gsw, .int gsn, .int gsb])), (gsw, .inl (cT 0, 24, .inl gsf)), (o, .inr (5, [.long x, .ref t])), (t, .inr (4, [.ref tw, .int tn, .int tb])), (tw, .inl (cT 0, 24, .inl tf))] sz)) 0 0 (va_A [(g, .inr (5, [.long gr, .ref gs])), (gs, .inr (4, [.ref gsw, .int gsn, .int gsb])), (gsw, .inl (cT 0, 24, .inl gsf)), (o, .inr (5, [.long x, .ref t])), (t, .inr (4, [.ref tw, .int tn, .int tb])), (tw, .inl (cT 0, 24, .inl tf))] sz) := by
  refine Met.ofW (cc := cG_become) (maxL := 2) (ret := none) (by decide) rfl ?_
  intro p e s m args below meth c s₁ B hml hv
  obtain ⟨rfl, hsz, hZ, hP, hK, hD0⟩ := hv
  have hx := B.exec
  have hb := B.bytes
  have hr := B.returns
  have hts := atoms_spec (ws := WG_become) B.pre
  have hT : ∀ w ∈ TB, w.before _ s = true := fun w h => hts w (List.mem_cons_of_mem _ h)
  have hown : s.vm.findClass R_G = some m.cls := findClass_of_methodNamed B.named
  have hlocks := B.notSynchronized
  subst hsz
  have hD := hD0.self (sz := s.heap.size)
  generalize hAe : va_A [(g, .inr (5, [.long gr, .ref gs])), (gs, .inr (4, [.ref gsw, .int gsn, .int gsb])), (gsw, .inl (cT 0, 24, .inl gsf)), (o, .inr (5, [.long x, .ref t])), (t, .inr (4, [.ref tw, .int tn, .int tb])), (tw, .inl (cT 0, 24, .inl tf))] s.heap.size = A at hD hZ ⊢
  have hA : ∀ q : Nat, s.heap.size ≤ q → A q := fun q h => by rw [← hAe]; exact Or.inr h
  have hS : va_S A s.heap s.heap [] := va_S.rf
  have hl := lv_entry ([.ref g, .ref o]) (n := 2) (Nat.le_of_ble_eq_true rfl)
  rw [lg_entry_eq]
  generalize (lg_sl ([.ref g, .ref o]) ++ List.replicate (2 - (lg_sl ([.ref g, .ref o])).length) Slot.unset).toArray = ls at hl ⊢
  have hl : lv_has ls 2 [(0, .ref g), (1, .ref o)] := hl
  refine lv_aload_n hx hb dG_become_0 rfl (lv_at hl 0 rfl) ?_
  refine lv_aload_n hx hb dG_become_1 rfl (lv_at hl 1 rfl) ?_
  refine va_get (D := D) (ci := 5) (v := .long x) (C := R_G) (T := T_G) (N := 2) hx hb hT in_G hown hK hP 3 rfl rfl 0 (by decide) (hT _ w172) (fun _ h9 => h9) rfl dG_become_2 ?_
  refine va_put (D := D) (ci := 5) (v := .long x) (ty := .long) (C := R_G) (T := T_G) (N := 2) hx hb hT in_G ty_G ty_G_ok m_G hown hK hP hD hS 0 rfl rfl 0 (by decide) (hT _ w172) (fun _ h9 => h9) rfl (by decide +kernel) rfl rfl (Nat.le_of_ble_eq_true rfl) dG_become_5 (fun H locs hP hD hS => ?_)
  have hP : va_P D vwCl [(g, .inr (5, [.long x, .ref gs])), (gs, .inr (4, [.ref gsw, .int gsn, .int gsb])), (gsw, .inl (cT 0, 24, .inl gsf)), (o, .inr (5, [.long x, .ref t])), (t, .inr (4, [.ref tw, .int tn, .int tb])), (tw, .inl (cT 0, 24, .inl tf))] _ := hP
  have hD : va_D A [(g, .inr (5, [.long x, .ref gs])), (gs, .inr (4, [.ref gsw, .int gsn, .int gsb])), (gsw, .inl (cT 0, 24, .inl gsf)), (o, .inr (5, [.long x, .ref t])), (t, .inr (4, [.ref tw, .int tn, .int tb])), (tw, .inl (cT 0, 24, .inl tf))] := hD
  refine lv_aload_n hx hb dG_become_8 rfl (lv_at hl 0 rfl) ?_
  refine va_get (D := D) (ci := 5) (v := .ref gs) (C := R_G) (T := T_G) (N := 2) hx hb hT in_G hown hK hP 0 rfl rfl 1 (by decide) (hT _ w174) (fun _ h9 => h9) rfl dG_become_9 ?_
  refine lv_aload_n hx hb dG_become_12 rfl (lv_at hl 1 rfl) ?_
  refine va_get (D := D) (ci := 5) (v := .ref t) (C := R_G) (T := T_G) (N := 2) hx hb hT in_G hown hK hP 3 rfl rfl 1 (by decide) (hT _ w174) (fun _ h9 => h9) rfl dG_become_13 ?_
  refine rw_v (wc := [(gs, .inr (4, [.ref gsw, .int gsn, .int gsb])), (gsw, .inl (cT 0, 24, .inl gsf)), (t, .inr (4, [.ref tw, .int tn, .int tb])), (tw, .inl (cT 0, 24, .inl tf))]) (wr := [(g, .inr (5, [.long x, .ref gs])), (o, .inr (5, [.long x, .ref t]))]) hP hD hS hA [1, 2, 4, 5] [0, 3] rfl rfl (by decide) (by decide) (va_runV (As := [.ref t]) (rest := []) ⟨hx, hb, hml, hown, hT⟩ (k_setW l D cT gs gsw 24 gsn gsb gsf t tw 24 tn tb tf z2 (by decide) (by decide) hN2 hfit _) ⟨callB_of 1 hT (tb_gd w446) rfl rfl rfl (hT _ w5) (hT _ w936) hW_setb ⟨Nat.le_of_ble_eq_true rfl, Nat.le_of_ble_eq_true rfl⟩, (hT _ w444), (hT _ w445)⟩ (RW.preV (ci := 4) (q0 := 0) hZ hS (va_free (wc := [(gs, .inr (4, [.ref gsw, .int gsn, .int gsb])), (gsw, .inl (cT 0, 24, .inl gsf)), (t, .inr (4, [.ref tw, .int tn, .int tb])), (tw, .inl (cT 0, 24, .inl tf))]) hD hS hA [1, 2, 4, 5] rfl) (hP.sub (ws' := [(gs, .inr (4, [.ref gsw, .int gsn, .int gsb])), (gsw, .inl (cT 0, 24, .inl gsf)), (t, .inr (4, [.ref tw, .int tn, .int tb])), (tw, .inl (cT 0, 24, .inl tf))]) [1, 2, 4, 5] rfl) hK (hD.sub (ws' := [(gs, .inr (4, [.ref gsw, .int gsn, .int gsb])), (gsw, .inl (cT 0, 24, .inl gsf)), (t, .inr (4, [.ref tw, .int tn, .int tb])), (tw, .inl (cT 0, 24, .inl tf))]) [1, 2, 4, 5] (by decide) rfl) rfl rfl) rfl rfl hl.1 rfl (lv_room (Nat.le_of_ble_eq_true rfl)) dG_become_16 ⟨Nat.le_of_ble_eq_true rfl, Nat.le_of_ble_eq_true rfl⟩) (fun u9 H locs hpu1 hP hD hS => ?_)
  obtain ⟨f1u1, rfl⟩ : ∃ q9, q9 = u9 := ⟨_, rfl⟩
  have hpu1 : WN 24 tn tb f1u1 z2 := hpu1
  have hP : va_P D vwCl [(g, .inr (5, [.long x, .ref gs])), (o, .inr (5, [.long x, .ref t])), (gs, .inr (4, [.ref gsw, .int tn, .int tb])), (gsw, .inl (cT 0, 24, .inl f1u1)), (t, .inr (4, [.ref tw, .int tn, .int tb])), (tw, .inl (cT 0, 24, .inl tf))] _ := hP
  have hD : va_D A [(g, .inr (5, [.long x, .ref gs])), (o, .inr (5, [.long x, .ref t])), (gs, .inr (4, [.ref gsw, .int tn, .int tb])), (gsw, .inl (cT 0, 24, .inl f1u1)), (t, .inr (4, [.ref tw, .int tn, .int tb])), (tw, .inl (cT 0, 24, .inl tf))] := hD
  have hP9 := hP.sub (ws' := [(g, .inr (5, [.long x, .ref gs])), (gs, .inr (4, [.ref gsw, .int tn, .int tb])), (gsw, .inl (cT 0, 24, .inl f1u1)), (o, .inr (5, [.long x, .ref t])), (t, .inr (4, [.ref tw, .int tn, .int tb])), (tw, .inl (cT 0, 24, .inl tf))]) [0, 2, 3, 1, 4, 5] rfl
  have hD9 := hD.sub (ws' := [(g, .inr (5, [.long x, .ref gs])), (gs, .inr (4, [.ref gsw, .int tn, .int tb])), (gsw, .inl (cT 0, 24, .inl f1u1)), (o, .inr (5, [.long x, .ref t])), (t, .inr (4, [.ref tw, .int tn, .int tb])), (tw, .inl (cT 0, 24, .inl tf))]) [0, 2, 3, 1, 4, 5] (by decide) rfl
  refine W.widen (k := 0) (n := 0) (Nat.le_of_ble_eq_true rfl) (Nat.le_of_ble_eq_true rfl) ?_
  exact W.vret hx hb hr (fun t9 ht9 hW9 => ⟨⟨f1u1, rfl, (show WN 24 tn tb f1u1 z2 from hpu1), by rw [ht9]; exact hP9, hD9⟩, hS.F ht9⟩) hS.2.2 dG_become_19
set_option maxHeartbeats 4000000 in
set_option maxRecDepth 100000 in
theorem k_setSides (l : Launch) (D : va_G) (cT : Nat → ClassId) (sd : Nat) (sdw : Nat) (sdn : Int32) (sdb : Int32) (sdf : Nat → Int32) (lf : Nat) (lfw : Nat) (lfn : Int32) (lfb : Int32) (lff : Nat → Int32) (rt : Nat) (rtw : Nat) (rtn : Int32) (rtb : Int32) (rtf : Nat → Int32) (pt : Nat) (ptw : Nat) (ptn : Int32) (ptb : Int32) (ptf : Nat → Int32) (ul : Nat) (ur : Nat) (zl : Int) (zr : Int) (BB : Nat) (hNl : WN 24 lfn lfb lff (zl)) (hNr : WN 24 rtn rtb rtf (zr)) (hul : ul ≤ 68) (hur : ur ≤ 68) (hBl : zl.natAbs ≤ BB) (hBr : zr.natAbs ≤ BB) (hB : BB * BB * 68 * 2 < 1000000000 ^ 48) (sz : Nat) : Met l yR_setToSides WR_setToSides ({ frames := 3, cells := 0, slots := 0, locals := 77 } : Room) (RW D vwCl [.ref sd, .ref lf, .int (nI ul), .ref rt, .int (nI ur), .ref pt] [(sd, .inr (4, [.ref sdw, .int sdn, .int sdb])), (sdw, .inl (cT 0, 48, .inl sdf)), (lf, .inr (4, [.ref lfw, .int lfn, .int lfb])), (lfw, .inl (cT 0, 24, .inl lff)), (rt, .inr (4, [.ref rtw, .int rtn, .int rtb])), (rtw, .inl (cT 0, 24, .inl rtf)), (pt, .inr (4, [.ref ptw, .int ptn, .int ptb])), (ptw, .inl (cT 0, 48, .inl ptf))] (TY cT) sz) (va_Qv (fun u9 : Int32 × Int32 × (Nat → Int32) × Int32 × Int32 × (Nat → Int32) => WN 48 u9.1 u9.2.1 u9.2.2.1 (wZ zl zr ul ur) ∧ WN 48 u9.2.2.2.1 u9.2.2.2.2.1 u9.2.2.2.2.2 (zr * zr * (ul : Int))) (BW D vwCl (va_A [(sd, .inr (4, [.ref sdw, .int sdn, .int sdb])), (sdw, .inl (cT 0, 48, .inl sdf)), (lf, .inr (4, [.ref lfw, .int lfn, .int lfb])), (lfw, .inl (cT 0, 24, .inl lff)), (rt, .inr (4, [.ref rtw, .int rtn, .int rtb])), (rtw, .inl (cT 0, 24, .inl rtf)), (pt, .inr (4, [.ref ptw, .int ptn, .int ptb])), (ptw, .inl (cT 0, 48, .inl ptf))] sz) (fun u9 : Int32 × Int32 × (Nat → Int32) × Int32 × Int32 × (Nat → Int32) => [(sd, .inr (4, [.ref sdw, .int u9.1, .int u9.2.1])), (sdw, .inl (cT 0, 48, .inl u9.2.2.1)), (lf, .inr (4, [.ref lfw, .int lfn, .int lfb])), (lfw, .inl (cT 0, 24, .inl lff)), (rt, .inr (4, [.ref rtw, .int rtn, .int rtb])), (rtw, .inl (cT 0, 24, .inl rtf)), (pt, .inr (4, [.ref ptw, .int u9.2.2.2.1, .int u9.2.2.2.2.1])), (ptw, .inl (cT 0, 48, .inl u9.2.2.2.2.2))])) (va_A [(sd, .inr (4, [.ref sdw, .int sdn, .int sdb])), (sdw, .inl (cT 0, 48, .inl sdf)), (lf, .inr (4, [.ref lfw, .int lfn, .int lfb])), (lfw, .inl (cT 0, 24, .inl lff)), (rt, .inr (4, [.ref rtw, .int rtn, .int rtb])), (rtw, .inl (cT 0, 24, .inl rtf)), (pt, .inr (4, [.ref ptw, .int ptn, .int ptb])), (ptw, .inl (cT 0, 48, .inl ptf))] sz)) 0 0 (va_A [(sd, .inr (4, [.ref sdw, .int sdn, .int sdb])), (sdw, .inl (cT 0, 48, .inl sdf)), (lf, .inr (4, [.ref lfw, .int lfn, .int lfb])), (lfw, .inl (cT 0, 24, .inl lff)), (rt, .inr (4, [.ref rtw, .int rtn, .int rtb])), (rtw, .inl (cT 0, 24, .inl rtf)), (pt, .inr (4, [.ref ptw, .int ptn, .int ptb])), (ptw, .inl (cT 0, 48, .inl ptf))] sz) := by
  refine Met.ofW (cc := cR_setToSides) (maxL := 6) (ret := none) (by decide) rfl ?_
  intro p e s m args below meth c s₁ B hml hv
  obtain ⟨rfl, hsz, hZ, hP, hK, hD0⟩ := hv
  have hx := B.exec
  have hb := B.bytes
  have hr := B.returns
  have hts := atoms_spec (ws := WR_setToSides) B.pre
  have hT : ∀ w ∈ TB, w.before _ s = true := fun w h => hts w (List.mem_cons_of_mem _ h)
  have hown : s.vm.findClass R_R = some m.cls := findClass_of_methodNamed B.named
  have hlocks := B.notSynchronized
  subst hsz
  have hD := hD0.self (sz := s.heap.size)
  generalize hAe : va_A [(sd, .inr (4, [.ref sdw, .int sdn, .int sdb])), (sdw, .inl (cT 0, 48, .inl sdf)), (lf, .inr (4, [.ref lfw, .int lfn, .int lfb])), (lfw, .inl (cT 0, 24, .inl lff)), (rt, .inr (4, [.ref rtw, .int rtn, .int rtb])), (rtw, .inl (cT 0, 24, .inl rtf)), (pt, .inr (4, [.ref ptw, .int ptn, .int ptb])), (ptw, .inl (cT 0, 48, .inl ptf))] s.heap.size = A at hD hZ ⊢
  have hA : ∀ q : Nat, s.heap.size ≤ q → A q := fun q h => by rw [← hAe]; exact Or.inr h
  have hS : va_S A s.heap s.heap [] := va_S.rf
  have hl := lv_entry ([.ref sd, .ref lf, .int (nI ul), .ref rt, .int (nI ur), .ref pt]) (n := 6) (Nat.le_of_ble_eq_true rfl)
  rw [lg_entry_eq]
  generalize (lg_sl ([.ref sd, .ref lf, .int (nI ul), .ref rt, .int (nI ur), .ref pt]) ++ List.replicate (6 - (lg_sl ([.ref sd, .ref lf, .int (nI ul), .ref rt, .int (nI ur), .ref pt])).length) Slot.unset).toArray = ls at hl ⊢
  have hl : lv_has ls 6 [(0, .ref sd), (1, .ref lf), (2, .int (nI ul)), (3, .ref rt), (4, .int (nI ur)), (5, .ref pt)] := hl
  obtain ⟨q1, q2, q3⟩ := sd_f (u := ur) hBl hur hB
  obtain ⟨q4, q5, q6⟩ := sd_f (u := ul) hBr hul hB
  refine lv_aload_n hx hb dR_setToSides_0 rfl (lv_at hl 0 rfl) ?_
  refine lv_aload_n hx hb dR_setToSides_1 rfl (lv_at hl 1 rfl) ?_
  refine lv_aload_n hx hb dR_setToSides_2 rfl (lv_at hl 1 rfl) ?_
  refine rw_v (wc := [(sd, .inr (4, [.ref sdw, .int sdn, .int sdb])), (sdw, .inl (cT 0, 48, .inl sdf)), (lf, .inr (4, [.ref lfw, .int lfn, .int lfb])), (lfw, .inl (cT 0, 24, .inl lff))]) (wr := [(rt, .inr (4, [.ref rtw, .int rtn, .int rtb])), (rtw, .inl (cT 0, 24, .inl rtf)), (pt, .inr (4, [.ref ptw, .int ptn, .int ptb])), (ptw, .inl (cT 0, 48, .inl ptf))]) hP hD hS hA [0, 1, 2, 3] [4, 5, 6, 7] rfl rfl (by decide) (by decide) (va_runV (As := [.ref lf, .ref lf]) (rest := []) ⟨hx, hb, hml, hown, hT⟩ (k_square l D cT sd sdw 48 sdn sdb sdf lf lfw 24 lfn lfb lff zl (by decide) (by decide) hNl q1 _) ⟨callB_of 2 hT (tb_gd w474) rfl rfl rfl (hT _ w5) (hT _ w471) hW_setProduct ⟨Nat.le_of_ble_eq_true rfl, Nat.le_of_ble_eq_true rfl⟩, (hT _ w472), (hT _ w473)⟩ (RW.preV (ci := 4) (q0 := 0) hZ hS (va_free (wc := [(sd, .inr (4, [.ref sdw, .int sdn, .int sdb])), (sdw, .inl (cT 0, 48, .inl sdf)), (lf, .inr (4, [.ref lfw, .int lfn, .int lfb])), (lfw, .inl (cT 0, 24, .inl lff))]) hD hS hA [0, 1, 2, 3] rfl) (hP.sub (ws' := [(sd, .inr (4, [.ref sdw, .int sdn, .int sdb])), (sdw, .inl (cT 0, 48, .inl sdf)), (lf, .inr (4, [.ref lfw, .int lfn, .int lfb])), (lfw, .inl (cT 0, 24, .inl lff))]) [0, 1, 2, 3] rfl) hK (hD.sub (ws' := [(sd, .inr (4, [.ref sdw, .int sdn, .int sdb])), (sdw, .inl (cT 0, 48, .inl sdf)), (lf, .inr (4, [.ref lfw, .int lfn, .int lfb])), (lfw, .inl (cT 0, 24, .inl lff))]) [0, 1, 2, 3] (by decide) rfl) rfl rfl) rfl rfl hl.1 rfl (lv_room (Nat.le_of_ble_eq_true rfl)) dR_setToSides_3 ⟨Nat.le_of_ble_eq_true rfl, Nat.le_of_ble_eq_true rfl⟩) (fun u9 H locs hpu1 hP hD hS => ?_)
  obtain ⟨n1u1, b1u1, f1u1⟩ := u9
  have hpu1 : WN 48 n1u1 b1u1 f1u1 (zl * zl) := hpu1
  have hP : va_P D vwCl [(rt, .inr (4, [.ref rtw, .int rtn, .int rtb])), (rtw, .inl (cT 0, 24, .inl rtf)), (pt, .inr (4, [.ref ptw, .int ptn, .int ptb])), (ptw, .inl (cT 0, 48, .inl ptf)), (sd, .inr (4, [.ref sdw, .int n1u1, .int b1u1])), (sdw, .inl (cT 0, 48, .inl f1u1)), (lf, .inr (4, [.ref lfw, .int lfn, .int lfb])), (lfw, .inl (cT 0, 24, .inl lff))] _ := hP
  have hD : va_D A [(rt, .inr (4, [.ref rtw, .int rtn, .int rtb])), (rtw, .inl (cT 0, 24, .inl rtf)), (pt, .inr (4, [.ref ptw, .int ptn, .int ptb])), (ptw, .inl (cT 0, 48, .inl ptf)), (sd, .inr (4, [.ref sdw, .int n1u1, .int b1u1])), (sdw, .inl (cT 0, 48, .inl f1u1)), (lf, .inr (4, [.ref lfw, .int lfn, .int lfb])), (lfw, .inl (cT 0, 24, .inl lff))] := hD
  have s1N := hpu1
  refine lv_aload_n hx hb dR_setToSides_6 rfl (lv_at hl 0 rfl) ?_
  refine lv_iload hx hb dR_setToSides_7 (lv_at hl 4 rfl) ?_
  refine lv_i2l hx hb dR_setToSides_9 rfl ?_
  refine lv_topl (fun y9 e9 => ?_)
  cases (show y9 = lN ur from e9.trans (nI_l (n := ur) (by omega)))
  refine rw_v (wc := [(sd, .inr (4, [.ref sdw, .int n1u1, .int b1u1])), (sdw, .inl (cT 0, 48, .inl f1u1))]) (wr := [(rt, .inr (4, [.ref rtw, .int rtn, .int rtb])), (rtw, .inl (cT 0, 24, .inl rtf)), (pt, .inr (4, [.ref ptw, .int ptn, .int ptb])), (ptw, .inl (cT 0, 48, .inl ptf)), (lf, .inr (4, [.ref lfw, .int lfn, .int lfb])), (lfw, .inl (cT 0, 24, .inl lff))]) hP hD hS hA [4, 5] [0, 1, 2, 3, 6, 7] rfl rfl (by decide) (by decide) (va_runV (As := [.long (lN ur)]) (rest := []) ⟨hx, hb, hml, hown, hT⟩ (k_times l D cT sd sdw 48 n1u1 b1u1 f1u1 (zl * zl) ur (by decide) s1N (by omega) q2 _) ⟨callB_of 1 hT (tb_gd w420) rfl rfl rfl (hT _ w5) (hT _ w417) hW_times ⟨Nat.le_of_ble_eq_true rfl, Nat.le_of_ble_eq_true rfl⟩, (hT _ w418), (hT _ w419)⟩ (RW.preV (ci := 4) (q0 := 0) hZ hS (va_free (wc := [(sd, .inr (4, [.ref sdw, .int n1u1, .int b1u1])), (sdw, .inl (cT 0, 48, .inl f1u1))]) hD hS hA [4, 5] rfl) (hP.sub (ws' := [(sd, .inr (4, [.ref sdw, .int n1u1, .int b1u1])), (sdw, .inl (cT 0, 48, .inl f1u1))]) [4, 5] rfl) hK (hD.sub (ws' := [(sd, .inr (4, [.ref sdw, .int n1u1, .int b1u1])), (sdw, .inl (cT 0, 48, .inl f1u1))]) [4, 5] (by decide) rfl) rfl rfl) rfl rfl hl.1 rfl (lv_room (Nat.le_of_ble_eq_true rfl)) dR_setToSides_10 ⟨Nat.le_of_ble_eq_true rfl, Nat.le_of_ble_eq_true rfl⟩) (fun u9 H locs hpu2 hP hD hS => ?_)
  obtain ⟨n1u2, f1u2⟩ := u9
  have hpu2 : WN 48 n1u2 b1u1 f1u2 ((zl * zl) * ur) := hpu2
  have hP : va_P D vwCl [(rt, .inr (4, [.ref rtw, .int rtn, .int rtb])), (rtw, .inl (cT 0, 24, .inl rtf)), (pt, .inr (4, [.ref ptw, .int ptn, .int ptb])), (ptw, .inl (cT 0, 48, .inl ptf)), (lf, .inr (4, [.ref lfw, .int lfn, .int lfb])), (lfw, .inl (cT 0, 24, .inl lff)), (sd, .inr (4, [.ref sdw, .int n1u2, .int b1u1])), (sdw, .inl (cT 0, 48, .inl f1u2))] _ := hP
  have hD : va_D A [(rt, .inr (4, [.ref rtw, .int rtn, .int rtb])), (rtw, .inl (cT 0, 24, .inl rtf)), (pt, .inr (4, [.ref ptw, .int ptn, .int ptb])), (ptw, .inl (cT 0, 48, .inl ptf)), (lf, .inr (4, [.ref lfw, .int lfn, .int lfb])), (lfw, .inl (cT 0, 24, .inl lff)), (sd, .inr (4, [.ref sdw, .int n1u2, .int b1u1])), (sdw, .inl (cT 0, 48, .inl f1u2))] := hD
  have s2N := hpu2
  refine lv_aload hx hb dR_setToSides_13 (lv_at hl 5 rfl) ?_
  refine lv_aload_n hx hb dR_setToSides_15 rfl (lv_at hl 3 rfl) ?_
  refine lv_aload_n hx hb dR_setToSides_16 rfl (lv_at hl 3 rfl) ?_
  refine rw_v (wc := [(pt, .inr (4, [.ref ptw, .int ptn, .int ptb])), (ptw, .inl (cT 0, 48, .inl ptf)), (rt, .inr (4, [.ref rtw, .int rtn, .int rtb])), (rtw, .inl (cT 0, 24, .inl rtf))]) (wr := [(lf, .inr (4, [.ref lfw, .int lfn, .int lfb])), (lfw, .inl (cT 0, 24, .inl lff)), (sd, .inr (4, [.ref sdw, .int n1u2, .int b1u1])), (sdw, .inl (cT 0, 48, .inl f1u2))]) hP hD hS hA [2, 3, 0, 1] [4, 5, 6, 7] rfl rfl (by decide) (by decide) (va_runV (As := [.ref rt, .ref rt]) (rest := []) ⟨hx, hb, hml, hown, hT⟩ (k_square l D cT pt ptw 48 ptn ptb ptf rt rtw 24 rtn rtb rtf zr (by decide) (by decide) hNr q4 _) ⟨callB_of 2 hT (tb_gd w474) rfl rfl rfl (hT _ w5) (hT _ w471) hW_setProduct ⟨Nat.le_of_ble_eq_true rfl, Nat.le_of_ble_eq_true rfl⟩, (hT _ w472), (hT _ w473)⟩ (RW.preV (ci := 4) (q0 := 0) hZ hS (va_free (wc := [(pt, .inr (4, [.ref ptw, .int ptn, .int ptb])), (ptw, .inl (cT 0, 48, .inl ptf)), (rt, .inr (4, [.ref rtw, .int rtn, .int rtb])), (rtw, .inl (cT 0, 24, .inl rtf))]) hD hS hA [2, 3, 0, 1] rfl) (hP.sub (ws' := [(pt, .inr (4, [.ref ptw, .int ptn, .int ptb])), (ptw, .inl (cT 0, 48, .inl ptf)), (rt, .inr (4, [.ref rtw, .int rtn, .int rtb])), (rtw, .inl (cT 0, 24, .inl rtf))]) [2, 3, 0, 1] rfl) hK (hD.sub (ws' := [(pt, .inr (4, [.ref ptw, .int ptn, .int ptb])), (ptw, .inl (cT 0, 48, .inl ptf)), (rt, .inr (4, [.ref rtw, .int rtn, .int rtb])), (rtw, .inl (cT 0, 24, .inl rtf))]) [2, 3, 0, 1] (by decide) rfl) rfl rfl) rfl rfl hl.1 rfl (lv_room (Nat.le_of_ble_eq_true rfl)) dR_setToSides_17 ⟨Nat.le_of_ble_eq_true rfl, Nat.le_of_ble_eq_true rfl⟩) (fun u9 H locs hpu3 hP hD hS => ?_)
  obtain ⟨n1u3, b1u3, f1u3⟩ := u9
  have hpu3 : WN 48 n1u3 b1u3 f1u3 (zr * zr) := hpu3
  have hP : va_P D vwCl [(lf, .inr (4, [.ref lfw, .int lfn, .int lfb])), (lfw, .inl (cT 0, 24, .inl lff)), (sd, .inr (4, [.ref sdw, .int n1u2, .int b1u1])), (sdw, .inl (cT 0, 48, .inl f1u2)), (pt, .inr (4, [.ref ptw, .int n1u3, .int b1u3])), (ptw, .inl (cT 0, 48, .inl f1u3)), (rt, .inr (4, [.ref rtw, .int rtn, .int rtb])), (rtw, .inl (cT 0, 24, .inl rtf))] _ := hP
  have hD : va_D A [(lf, .inr (4, [.ref lfw, .int lfn, .int lfb])), (lfw, .inl (cT 0, 24, .inl lff)), (sd, .inr (4, [.ref sdw, .int n1u2, .int b1u1])), (sdw, .inl (cT 0, 48, .inl f1u2)), (pt, .inr (4, [.ref ptw, .int n1u3, .int b1u3])), (ptw, .inl (cT 0, 48, .inl f1u3)), (rt, .inr (4, [.ref rtw, .int rtn, .int rtb])), (rtw, .inl (cT 0, 24, .inl rtf))] := hD
  have s3N := hpu3
  refine lv_aload hx hb dR_setToSides_20 (lv_at hl 5 rfl) ?_
  refine lv_iload_n hx hb dR_setToSides_22 rfl (lv_at hl 2 rfl) ?_
  refine lv_i2l hx hb dR_setToSides_23 rfl ?_
  refine lv_topl (fun y9 e9 => ?_)
  cases (show y9 = lN ul from e9.trans (nI_l (n := ul) (by omega)))
  refine rw_v (wc := [(pt, .inr (4, [.ref ptw, .int n1u3, .int b1u3])), (ptw, .inl (cT 0, 48, .inl f1u3))]) (wr := [(lf, .inr (4, [.ref lfw, .int lfn, .int lfb])), (lfw, .inl (cT 0, 24, .inl lff)), (sd, .inr (4, [.ref sdw, .int n1u2, .int b1u1])), (sdw, .inl (cT 0, 48, .inl f1u2)), (rt, .inr (4, [.ref rtw, .int rtn, .int rtb])), (rtw, .inl (cT 0, 24, .inl rtf))]) hP hD hS hA [4, 5] [0, 1, 2, 3, 6, 7] rfl rfl (by decide) (by decide) (va_runV (As := [.long (lN ul)]) (rest := []) ⟨hx, hb, hml, hown, hT⟩ (k_times l D cT pt ptw 48 n1u3 b1u3 f1u3 (zr * zr) ul (by decide) s3N (by omega) q5 _) ⟨callB_of 1 hT (tb_gd w420) rfl rfl rfl (hT _ w5) (hT _ w417) hW_times ⟨Nat.le_of_ble_eq_true rfl, Nat.le_of_ble_eq_true rfl⟩, (hT _ w418), (hT _ w419)⟩ (RW.preV (ci := 4) (q0 := 0) hZ hS (va_free (wc := [(pt, .inr (4, [.ref ptw, .int n1u3, .int b1u3])), (ptw, .inl (cT 0, 48, .inl f1u3))]) hD hS hA [4, 5] rfl) (hP.sub (ws' := [(pt, .inr (4, [.ref ptw, .int n1u3, .int b1u3])), (ptw, .inl (cT 0, 48, .inl f1u3))]) [4, 5] rfl) hK (hD.sub (ws' := [(pt, .inr (4, [.ref ptw, .int n1u3, .int b1u3])), (ptw, .inl (cT 0, 48, .inl f1u3))]) [4, 5] (by decide) rfl) rfl rfl) rfl rfl hl.1 rfl (lv_room (Nat.le_of_ble_eq_true rfl)) dR_setToSides_24 ⟨Nat.le_of_ble_eq_true rfl, Nat.le_of_ble_eq_true rfl⟩) (fun u9 H locs hpu4 hP hD hS => ?_)
  obtain ⟨n1u4, f1u4⟩ := u9
  have hpu4 : WN 48 n1u4 b1u3 f1u4 ((zr * zr) * ul) := hpu4
  have hP : va_P D vwCl [(lf, .inr (4, [.ref lfw, .int lfn, .int lfb])), (lfw, .inl (cT 0, 24, .inl lff)), (sd, .inr (4, [.ref sdw, .int n1u2, .int b1u1])), (sdw, .inl (cT 0, 48, .inl f1u2)), (rt, .inr (4, [.ref rtw, .int rtn, .int rtb])), (rtw, .inl (cT 0, 24, .inl rtf)), (pt, .inr (4, [.ref ptw, .int n1u4, .int b1u3])), (ptw, .inl (cT 0, 48, .inl f1u4))] _ := hP
  have hD : va_D A [(lf, .inr (4, [.ref lfw, .int lfn, .int lfb])), (lfw, .inl (cT 0, 24, .inl lff)), (sd, .inr (4, [.ref sdw, .int n1u2, .int b1u1])), (sdw, .inl (cT 0, 48, .inl f1u2)), (rt, .inr (4, [.ref rtw, .int rtn, .int rtb])), (rtw, .inl (cT 0, 24, .inl rtf)), (pt, .inr (4, [.ref ptw, .int n1u4, .int b1u3])), (ptw, .inl (cT 0, 48, .inl f1u4))] := hD
  have s4N := hpu4
  refine lv_aload_n hx hb dR_setToSides_27 rfl (lv_at hl 0 rfl) ?_
  refine lv_aload hx hb dR_setToSides_28 (lv_at hl 5 rfl) ?_
  refine lv_iconst (v := 0) hx hb dR_setToSides_30 (by decide) ?_
  refine rw_v (wc := [(sd, .inr (4, [.ref sdw, .int n1u2, .int b1u1])), (sdw, .inl (cT 0, 48, .inl f1u2)), (pt, .inr (4, [.ref ptw, .int n1u4, .int b1u3])), (ptw, .inl (cT 0, 48, .inl f1u4))]) (wr := [(lf, .inr (4, [.ref lfw, .int lfn, .int lfb])), (lfw, .inl (cT 0, 24, .inl lff)), (rt, .inr (4, [.ref rtw, .int rtn, .int rtb])), (rtw, .inl (cT 0, 24, .inl rtf))]) hP hD hS hA [2, 3, 6, 7] [0, 1, 4, 5] rfl rfl (by decide) (by decide) (va_runV (As := [.ref pt, .int 0]) (rest := []) ⟨hx, hb, hml, hown, hT⟩ (k_plus0 l D cT sd sdw 48 n1u2 b1u1 f1u2 (zl * zl * (ur : Int)) pt ptw 48 n1u4 b1u3 f1u4 (zr * zr * (ul : Int)) (by decide) s2N (by decide) s4N (by omega) _) ⟨callB_of 2 hT (tb_gd w461) rfl rfl rfl (hT _ w5) (hT _ w458) hW_plus ⟨Nat.le_of_ble_eq_true rfl, Nat.le_of_ble_eq_true rfl⟩, (hT _ w459), (hT _ w460)⟩ (RW.preV (ci := 4) (q0 := 0) hZ hS (va_free (wc := [(sd, .inr (4, [.ref sdw, .int n1u2, .int b1u1])), (sdw, .inl (cT 0, 48, .inl f1u2)), (pt, .inr (4, [.ref ptw, .int n1u4, .int b1u3])), (ptw, .inl (cT 0, 48, .inl f1u4))]) hD hS hA [2, 3, 6, 7] rfl) (hP.sub (ws' := [(sd, .inr (4, [.ref sdw, .int n1u2, .int b1u1])), (sdw, .inl (cT 0, 48, .inl f1u2)), (pt, .inr (4, [.ref ptw, .int n1u4, .int b1u3])), (ptw, .inl (cT 0, 48, .inl f1u4))]) [2, 3, 6, 7] rfl) hK (hD.sub (ws' := [(sd, .inr (4, [.ref sdw, .int n1u2, .int b1u1])), (sdw, .inl (cT 0, 48, .inl f1u2)), (pt, .inr (4, [.ref ptw, .int n1u4, .int b1u3])), (ptw, .inl (cT 0, 48, .inl f1u4))]) [2, 3, 6, 7] (by decide) rfl) rfl rfl) rfl rfl hl.1 rfl (lv_room (Nat.le_of_ble_eq_true rfl)) dR_setToSides_31 ⟨Nat.le_of_ble_eq_true rfl, Nat.le_of_ble_eq_true rfl⟩) (fun u9 H locs hpu5 hP hD hS => ?_)
  obtain ⟨n1u5, b1u5, f1u5⟩ := u9
  have hpu5 : WN 48 n1u5 b1u5 f1u5 ((zl * zl * (ur : Int)) + (zr * zr * (ul : Int))) := hpu5
  have hP : va_P D vwCl [(lf, .inr (4, [.ref lfw, .int lfn, .int lfb])), (lfw, .inl (cT 0, 24, .inl lff)), (rt, .inr (4, [.ref rtw, .int rtn, .int rtb])), (rtw, .inl (cT 0, 24, .inl rtf)), (sd, .inr (4, [.ref sdw, .int n1u5, .int b1u5])), (sdw, .inl (cT 0, 48, .inl f1u5)), (pt, .inr (4, [.ref ptw, .int n1u4, .int b1u3])), (ptw, .inl (cT 0, 48, .inl f1u4))] _ := hP
  have hD : va_D A [(lf, .inr (4, [.ref lfw, .int lfn, .int lfb])), (lfw, .inl (cT 0, 24, .inl lff)), (rt, .inr (4, [.ref rtw, .int rtn, .int rtb])), (rtw, .inl (cT 0, 24, .inl rtf)), (sd, .inr (4, [.ref sdw, .int n1u5, .int b1u5])), (sdw, .inl (cT 0, 48, .inl f1u5)), (pt, .inr (4, [.ref ptw, .int n1u4, .int b1u3])), (ptw, .inl (cT 0, 48, .inl f1u4))] := hD
  have hP9 := hP.sub (ws' := [(sd, .inr (4, [.ref sdw, .int n1u5, .int b1u5])), (sdw, .inl (cT 0, 48, .inl f1u5)), (lf, .inr (4, [.ref lfw, .int lfn, .int lfb])), (lfw, .inl (cT 0, 24, .inl lff)), (rt, .inr (4, [.ref rtw, .int rtn, .int rtb])), (rtw, .inl (cT 0, 24, .inl rtf)), (pt, .inr (4, [.ref ptw, .int n1u4, .int b1u3])), (ptw, .inl (cT 0, 48, .inl f1u4))]) [4, 5, 0, 1, 2, 3, 6, 7] rfl
  have hD9 := hD.sub (ws' := [(sd, .inr (4, [.ref sdw, .int n1u5, .int b1u5])), (sdw, .inl (cT 0, 48, .inl f1u5)), (lf, .inr (4, [.ref lfw, .int lfn, .int lfb])), (lfw, .inl (cT 0, 24, .inl lff)), (rt, .inr (4, [.ref rtw, .int rtn, .int rtb])), (rtw, .inl (cT 0, 24, .inl rtf)), (pt, .inr (4, [.ref ptw, .int n1u4, .int b1u3])), (ptw, .inl (cT 0, 48, .inl f1u4))]) [4, 5, 0, 1, 2, 3, 6, 7] (by decide) rfl
  refine W.widen (k := 0) (n := 0) (Nat.le_of_ble_eq_true rfl) (Nat.le_of_ble_eq_true rfl) ?_
  exact W.vret hx hb hr (fun t9 ht9 hW9 => ⟨⟨(n1u5, b1u5, f1u5, n1u4, b1u3, f1u4), rfl, (show WN 48 n1u5 b1u5 f1u5 (wZ zl zr ul ur) ∧ WN 48 n1u4 b1u3 f1u4 (zr * zr * (ul : Int)) from ⟨hpu5, s4N⟩), by rw [ht9]; exact hP9, hD9⟩, hS.F ht9⟩) hS.2.2 dR_setToSides_34
