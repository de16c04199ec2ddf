set_option maxHeartbeats 4000000 in
set_option maxRecDepth 100000 in
theorem k_rangeCheck (l : Launch) (D : va_G) (cT : Nat → ClassId) (n0 : Nat) (k : Nat) (hk : k ≤ n0) (hn : n0 < 2 ^ 31) : Met l yAr_rangeCheck WAr_rangeCheck ({ frames := 0, cells := 0, slots := 0, locals := 0 } : Room) (RO D vwCl [.int (nI n0), .int 0, .int (nI k)] [] (TY cT)) (QcReadV) 0 0 (fun _ => False) := by
  refine Met.ofW (cc := cAr_rangeCheck) (maxL := 3) (ret := none) (by decide) rfl ?_
  intro p e s m args below meth c s₁ B hml hv
  obtain ⟨rfl, hZ, hP, hK⟩ := hv
  have hx := B.exec
  have hb := B.bytes
  have hr := B.returns
  have hts := atoms_spec (ws := WAr_rangeCheck) B.pre
  have hT : ∀ w ∈ TB, w.before _ s = true := fun w h => hts w (List.mem_cons_of_mem _ h)
  have hown : s.vm.findClass R_Ar = some m.cls := findClass_of_methodNamed B.named
  have hlocks := B.notSynchronized
  have hS : va_S (fun _ => False) s.heap s.heap [] := va_S.rf
  have hl := lv_entry ([.int (nI n0), .int 0, .int (nI k)]) (n := 3) (Nat.le_of_ble_eq_true rfl)
  rw [lg_entry_eq]
  generalize (lg_sl ([.int (nI n0), .int 0, .int (nI k)]) ++ List.replicate (3 - (lg_sl ([.int (nI n0), .int 0, .int (nI k)])).length) Slot.unset).toArray = ls at hl ⊢
  have hl : lv_has ls 3 [(0, .int (nI n0)), (1, .int 0), (2, .int (nI k))] := hl
  refine lv_iload_n hx hb dAr_rangeCheck_0 rfl (lv_at hl 1 rfl) ?_
  refine lv_iload_n hx hb dAr_rangeCheck_1 rfl (lv_at hl 2 rfl) ?_
  refine lv_icmp_le (tgt := 46) hx hb dAr_rangeCheck_2 rfl (fun _ => ?_) (fun h1 => absurd (nI_pos' (by omega)) h1)
  refine lv_iload_n hx hb dAr_rangeCheck_46 rfl (lv_at hl 1 rfl) ?_
  refine lv_if_ge (tgt := 59) hx hb dAr_rangeCheck_47 rfl (fun _ => ?_) (fun h2 => absurd (by decide) h2)
  refine lv_iload_n hx hb dAr_rangeCheck_59 rfl (lv_at hl 2 rfl) ?_
  refine lv_iload_n hx hb dAr_rangeCheck_60 rfl (lv_at hl 0 rfl) ?_
  refine lv_icmp_le (tgt := 73) hx hb dAr_rangeCheck_61 rfl (fun _ => ?_) (fun h3 => absurd (nI_le hk (by omega)) h3)
  exact W.vret hx hb hr (fun t9 ht9 hW9 => ⟨rfl, ht9⟩) (fun q h => nomatch h) dAr_rangeCheck_73
set_option maxHeartbeats 4000000 in
set_option maxRecDepth 100000 in
theorem k_fill (l : Launch) (D : va_G) (cT : Nat → ClassId) (a : Nat) (R : Nat) (f : Nat → Int32) (k : Nat) (hk : k ≤ R) (hR : R ≤ 48) (sz : Nat) : Met l yAr_fill WAr_fill ({ frames := 1, cells := 0, slots := 0, locals := 22 } : Room) (RW D vwCl [.ref a, .int 0, .int (nI k), .int 0] [(a, .inl (cT 0, R, .inl f))] (TY cT) sz) (va_Qv (fun u9 : (Nat → Int32) => (∀ q8, q8 < k → u9 q8 = 0) ∧ (∀ q8, k ≤ q8 → u9 q8 = f q8)) (BW D vwCl (va_A [(a, .inl (cT 0, R, .inl f))] sz) (fun u9 : (Nat → Int32) => [(a, .inl (cT 0, R, .inl u9))])) (va_A [(a, .inl (cT 0, R, .inl f))] sz)) 0 0 (va_A [(a, .inl (cT 0, R, .inl f))] sz) := by
  refine Met.ofW (cc := cAr_fill) (maxL := 5) (ret := none) (by decide) rfl ?_
  intro p e s m args below meth c s₁ B hml hv
  obtain ⟨rfl, hsz, hZ, hP, hK, hD0⟩ := hv
  have hx := B.exec
  have hb := B.bytes
  have hr := B.returns
  have hts := atoms_spec (ws := WAr_fill) B.pre
  have hT : ∀ w ∈ TB, w.before _ s = true := fun w h => hts w (List.mem_cons_of_mem _ h)
  have hown : s.vm.findClass R_Ar = some m.cls := findClass_of_methodNamed B.named
  have hlocks := B.notSynchronized
  subst hsz
  have hD := hD0.self (sz := s.heap.size)
  generalize hAe : va_A [(a, .inl (cT 0, R, .inl f))] s.heap.size = A at hD hZ ⊢
  have hA : ∀ q : Nat, s.heap.size ≤ q → A q := fun q h => by rw [← hAe]; exact Or.inr h
  have hS : va_S A s.heap s.heap [] := va_S.rf
  have hl := lv_entry ([.ref a, .int 0, .int (nI k), .int 0]) (n := 5) (Nat.le_of_ble_eq_true rfl)
  rw [lg_entry_eq]
  generalize (lg_sl ([.ref a, .int 0, .int (nI k), .int 0]) ++ List.replicate (5 - (lg_sl ([.ref a, .int 0, .int (nI k), .int 0])).length) Slot.unset).toArray = ls at hl ⊢
  have hl : lv_has ls 5 [(0, .ref a), (1, .int 0), (2, .int (nI k)), (3, .int 0)] := hl
  refine lv_aload_n hx hb dAr_fill_0 rfl (lv_at hl 0 rfl) ?_
  refine va_alen (v := nI R) hx hb hK hP 0 0 rfl rfl rfl dAr_fill_1 ?_
  refine lv_iload_n hx hb dAr_fill_2 rfl (lv_at hl 1 rfl) ?_
  refine lv_iload_n hx hb dAr_fill_3 rfl (lv_at hl 2 rfl) ?_
  refine ro_v (va_Run.run (va_runS (As := [.int (nI R), .int 0, .int (nI k)]) (rest := []) ⟨hx, hb, hml, hown, hT⟩ (k_rangeCheck l D cT R k hk (by omega)) ⟨callB_of 3 hT (tb_gd w480) rfl rfl rfl (hT _ w26) (hT _ w478) hAr_rangeCheck ⟨Nat.le_of_ble_eq_true rfl, Nat.le_of_ble_eq_true rfl⟩, (hT _ w479)⟩ (RO.preS hZ hS ((show va_P D vwCl [] _ from fun _ _ h => nomatch h)) hK) rfl rfl hl.1 rfl (lv_room (Nat.le_of_ble_eq_true rfl)) dAr_fill_4 ⟨Nat.le_of_ble_eq_true rfl, Nat.le_of_ble_eq_true rfl⟩)) ?_
  refine lv_iload_n hx hb dAr_fill_7 rfl (lv_at hl 1 rfl) ?_
  refine lv_istore hx hb dAr_fill_8 hl (by decide) rfl (fun ls hl => ?_)
  have hl : lv_has ls 5 [(4, .int 0), (0, .ref a), (1, .int 0), (2, .int (nI k)), (3, .int 0)] := hl
  refine lp_w (α := Nat × (Nat → Int32)) (fun a9 => a9.1 ≤ k ∧ (∀ q, q < a9.1 → a9.2 q = 0) ∧ (∀ q, a9.1 ≤ q → a9.2 q = f q)) (fun a9 => k - a9.1) (fun a9 => [(0, .ref a), (2, .int (nI k)), (3, .int 0), (4, .int (nI a9.1))]) (fun a9 => [(a, .inl (cT 0, R, .inl a9.2))]) 10 ?_ (0, f) (show 0 ≤ k ∧ (∀ q, q < 0 → f q = 0) ∧ (∀ q, 0 ≤ q → f q = f q) from ⟨by omega, fun q h => absurd h (by omega), fun _ _ => rfl⟩) (lv_sub hl [1, 3, 4, 0] rfl) hP hD hS
  intro a9 hI10 ih10 ls H locs hl hP hD hS
  obtain ⟨j, g⟩ := a9
  have hI10 : j ≤ k ∧ (∀ q, q < j → g q = 0) ∧ (∀ q, j ≤ q → g q = f q) := hI10
  obtain ⟨ij, iz, ig⟩ := hI10
  have hl : lv_has ls 5 [(0, .ref a), (2, .int (nI k)), (3, .int 0), (4, .int (nI j))] := hl
  have hP : va_P D vwCl [(a, .inl (cT 0, R, .inl g))] _ := hP
  have hD : va_D A [(a, .inl (cT 0, R, .inl g))] := hD
  refine lv_iload hx hb dAr_fill_10 (lv_at hl 3 rfl) ?_
  refine lv_iload_n hx hb dAr_fill_12 rfl (lv_at hl 1 rfl) ?_
  refine lv_icmp_ge (tgt := 27) hx hb dAr_fill_13 rfl (fun h1 => ?_) (fun h1 => ?_)
  · have gh1 : k ≤ j := (nI_leI (a := k) (b := j) (by omega) (by omega)).mp h1
    have hP9 := hP.sub (ws' := [(a, .inl (cT 0, R, .inl g))]) [0] rfl
    have hD9 := hD.sub (ws' := [(a, .inl (cT 0, R, .inl g))]) [0] (by decide) rfl
    refine W.widen (k := 0) (n := 0) (Nat.le_of_ble_eq_true rfl) (Nat.le_of_ble_eq_true rfl) ?_
    exact W.vret hx hb hr (fun t9 ht9 hW9 => ⟨⟨g, rfl, (show (∀ q8, q8 < k → g q8 = 0) ∧ (∀ q8, k ≤ q8 → g q8 = f q8) from ⟨fun q h => iz q (by omega), fun q h => ig q (by omega)⟩), by rw [ht9]; exact hP9, hD9⟩, hS.F ht9⟩) hS.2.2 dAr_fill_27
  · have gh1 : j < k := Nat.not_le.mp (fun q => h1 ((nI_leI (a := k) (b := j) (by omega) (by omega)).mpr q))
    refine lv_aload_n hx hb dAr_fill_16 rfl (lv_at hl 0 rfl) ?_
    refine lv_iload hx hb dAr_fill_17 (lv_at hl 3 rfl) ?_
    refine lv_iload_n hx hb dAr_fill_19 rfl (lv_at hl 2 rfl) ?_
    refine lq_iast (j := j) hx hb hK hP hD hS 0 0 rfl rfl rfl (by omega) (by omega) dAr_fill_20 (fun H locs hP hD hS => ?_)
    have hP : va_P D vwCl [(a, .inl (cT 0, R, .inl (upd g j 0)))] _ := hP
    have hD : va_D A [(a, .inl (cT 0, R, .inl (upd g j 0)))] := hD
    refine lv_iinc (k := 3) (v := nI (j + 1)) hx hb dAr_fill_21 hl rfl (nI_1 j) (by decide) rfl (fun ls hl => ?_)
    have hl : lv_has ls 5 [(4, .int (nI (j + 1))), (0, .ref a), (2, .int (nI k)), (3, .int 0)] := hl
    refine lv_goto (tgt := 10) hx hb dAr_fill_24 rfl ?_
    exact ih10 (j + 1, upd g j 0) (show (j + 1) ≤ k ∧ (∀ q, q < (j + 1) → (upd g j 0) q = 0) ∧ (∀ q, (j + 1) ≤ q → (upd g j 0) q = f q) from ⟨by omega, fun q h => (by by_cases r : q = j; (subst r; exact pk_us); (exact (pk_un r).trans (iz q (by omega)))), fun q h => (pk_un (by omega)).trans (ig q (by omega))⟩) (show k - (j + 1) < k - j from (by omega)) ls H locs (lv_sub hl [1, 2, 3, 0] rfl) hP hD hS
set_option maxHeartbeats 4000000 in
set_option maxRecDepth 100000 in
theorem k_square (l : Launch) (D : va_G) (cT : Nat → ClassId) (h : Nat) (w : Nat) (R : Nat) (n : Int32) (b : Int32) (f : Nat → Int32) (x2 : Nat) (w2 : Nat) (R2 : Nat) (n2 : Int32) (b2 : Int32) (f2 : Nat → Int32) (z2 : Int) (hR : R ≤ 48) (hR2 : R2 ≤ 48) (hN2 : WN R2 n2 b2 f2 z2) (hfit : z2.natAbs * z2.natAbs < 1000000000 ^ R) (sz : Nat) : Met l yW_setProduct WW_setProduct ({ frames := 2, cells := 0, slots := 0, locals := 46 } : Room) (RW D vwCl [.ref h, .ref x2, .ref x2] [(h, .inr (4, [.ref w, .int n, .int b])), (w, .inl (cT 0, R, .inl f)), (x2, .inr (4, [.ref w2, .int n2, .int b2])), (w2, .inl (cT 0, R2, .inl f2))] (TY cT) sz) (va_Qv (fun u9 : Int32 × Int32 × (Nat → Int32) => WN R u9.1 u9.2.1 u9.2.2 (z2 * z2)) (BW D vwCl (va_A [(h, .inr (4, [.ref w, .int n, .int b])), (w, .inl (cT 0, R, .inl f)), (x2, .inr (4, [.ref w2, .int n2, .int b2])), (w2, .inl (cT 0, R2, .inl f2))] sz) (fun u9 : Int32 × Int32 × (Nat → Int32) => [(h, .inr (4, [.ref w, .int u9.1, .int u9.2.1])), (w, .inl (cT 0, R, .inl u9.2.2)), (x2, .inr (4, [.ref w2, .int n2, .int b2])), (w2, .inl (cT 0, R2, .inl f2))])) (va_A [(h, .inr (4, [.ref w, .int n, .int b])), (w, .inl (cT 0, R, .inl f)), (x2, .inr (4, [.ref w2, .int n2, .int b2])), (w2, .inl (cT 0, R2, .inl f2))] sz)) 0 0 (va_A [(h, .inr (4, [.ref w, .int n, .int b])), (w, .inl (cT 0, R, .inl f)), (x2, .inr (4, [.ref w2, .int n2, .int b2])), (w2, .inl (cT 0, R2, .inl f2))] sz) := by
  refine Met.ofW (cc := cW_setProduct) (maxL := 12) (ret := none) (by decide) rfl ?_
  intro p e s m args below meth c s₁ B hml hv
  obtain ⟨rfl, hsz, hZ, hP, hK, hD0⟩ := hv
  have hx := B.exec
  have hb := B.bytes
  have hr := B.returns
  have hts := atoms_spec (ws := WW_setProduct) B.pre
  have hT : ∀ w ∈ TB, w.before _ s = true := fun w h => hts w (List.mem_cons_of_mem _ h)
  have hown : s.vm.findClass R_W = some m.cls := findClass_of_methodNamed B.named
  have hlocks := B.notSynchronized
  subst hsz
  have hD := hD0.self (sz := s.heap.size)
  generalize hAe : va_A [(h, .inr (4, [.ref w, .int n, .int b])), (w, .inl (cT 0, R, .inl f)), (x2, .inr (4, [.ref w2, .int n2, .int b2])), (w2, .inl (cT 0, R2, .inl f2))] s.heap.size = A at hD hZ ⊢
  have hA : ∀ q : Nat, s.heap.size ≤ q → A q := fun q h => by rw [← hAe]; exact Or.inr h
  have hS : va_S A s.heap s.heap [] := va_S.rf
  have hl := lv_entry ([.ref h, .ref x2, .ref x2]) (n := 12) (Nat.le_of_ble_eq_true rfl)
  rw [lg_entry_eq]
  generalize (lg_sl ([.ref h, .ref x2, .ref x2]) ++ List.replicate (12 - (lg_sl ([.ref h, .ref x2, .ref x2])).length) Slot.unset).toArray = ls at hl ⊢
  have hl : lv_has ls 12 [(0, .ref h), (1, .ref x2), (2, .ref x2)] := hl
  obtain ⟨K, rfl, hk, hd, htop, hb01, hz⟩ := hN2
  have hP : va_P D vwCl [(h, .inr (4, [.ref w, .int n, .int b])), (w, .inl (cT 0, R, .inl f)), (x2, .inr (4, [.ref w2, .int (nI K), .int b2])), (w2, .inl (cT 0, R2, .inl f2))] _ := hP
  have hD : va_D A [(h, .inr (4, [.ref w, .int n, .int b])), (w, .inl (cT 0, R, .inl f)), (x2, .inr (4, [.ref w2, .int (nI K), .int b2])), (w2, .inl (cT 0, R2, .inl f2))] := hD
  rw [hz, wz_abs] at hfit
  have h2K := sq_len htop hfit
  refine lv_aload_n hx hb dW_setProduct_0 rfl (lv_at hl 1 rfl) ?_
  refine va_get (D := D) (ci := 4) (v := .int (nI K)) (C := R_W) (T := T_W) (N := 3) hx hb hT in_W hown hK hP 2 rfl rfl 1 (by decide) (hT _ w148) (fun _ h9 => h9) rfl dW_setProduct_1 ?_
  refine lv_aload_n hx hb dW_setProduct_4 rfl (lv_at hl 2 rfl) ?_
  refine va_get (D := D) (ci := 4) (v := .int (nI K)) (C := R_W) (T := T_W) (N := 3) hx hb hT in_W hown hK hP 2 rfl rfl 1 (by decide) (hT _ w148) (fun _ h9 => h9) rfl dW_setProduct_5 ?_
  refine lv_iadd hx hb dW_setProduct_8 ?_
  refine lv_topi (fun y9 e9 => ?_)
  cases (show y9 = nI (K + K) from e9.trans (nI_add K K))
  refine lv_aload_n hx hb dW_setProduct_9 rfl (lv_at hl 0 rfl) ?_
  refine va_get (D := D) (ci := 4) (v := .ref w) (C := R_W) (T := T_W) (N := 3) hx hb hT in_W hown hK hP 0 rfl rfl 0 (by decide) (hT _ w145) (fun _ h9 => h9) rfl dW_setProduct_10 ?_
  refine va_alen (v := nI R) hx hb hK hP 1 0 rfl rfl rfl dW_setProduct_13 ?_
  refine va_mmin hx hb (hml.trans hl.1.symm) hown (hT _ w447) (hT _ w448) (hT _ w22) (hT _ w449) (Nat.le_of_ble_eq_true rfl) (Nat.le_of_ble_eq_true rfl) (Nat.le_of_ble_eq_true rfl) (Nat.le_of_ble_eq_true rfl) dW_setProduct_14 ?_
  refine lv_topi (fun y9 e9 => ?_)
  cases (show y9 = nI (min (K + K) R) from e9.trans (mmin_nI (a := K + K) (b := R) (by omega) (by omega)))
  obtain ⟨mo, hmo⟩ : ∃ q9 : Nat, q9 = min (K + K) R := ⟨_, rfl⟩
  refine lv_topi (fun y9 e9 => ?_)
  cases (show y9 = nI mo from e9.trans (congrArg nI hmo.symm))
  have hmo1 : mo ≤ R ∧ mo ≤ K + K ∧ K + K ≤ mo + 1 := by omega
  refine lv_istore_n hx hb dW_setProduct_17 rfl hl (by decide) rfl (fun ls hl => ?_)
  have hl : lv_has ls 12 [(3, .int (nI mo)), (0, .ref h), (1, .ref x2), (2, .ref x2)] := hl
  refine lv_aload_n hx hb dW_setProduct_18 rfl (lv_at hl 1 rfl) ?_
  refine va_get (D := D) (ci := 4) (v := .ref w) (C := R_W) (T := T_W) (N := 3) hx hb hT in_W hown hK hP 0 rfl rfl 0 (by decide) (hT _ w145) (fun _ h9 => h9) rfl dW_setProduct_19 ?_
  refine lv_iconst (v := 0) hx hb dW_setProduct_22 (by decide) ?_
  refine lv_iload_n hx hb dW_setProduct_23 rfl (lv_at hl 0 rfl) ?_
  refine lv_iconst (v := 0) hx hb dW_setProduct_24 (by decide) ?_
  refine rw_v (wc := [(w, .inl (cT 0, R, .inl f))]) (wr := [(h, .inr (4, [.ref w, .int n, .int b])), (x2, .inr (4, [.ref w2, .int (nI K), .int b2])), (w2, .inl (cT 0, R2, .inl f2))]) hP hD hS hA [1] [0, 2, 3] rfl rfl (by decide) (by decide) (va_runS (As := [.ref w, .int 0, .int (nI mo), .int 0]) (rest := []) ⟨hx, hb, hml, hown, hT⟩ (k_fill l D cT w R f mo hmo1.1 hR _) ⟨callB_of 4 hT (tb_gd w477) rfl rfl rfl (hT _ w26) (hT _ w475) hAr_fill ⟨Nat.le_of_ble_eq_true rfl, Nat.le_of_ble_eq_true rfl⟩, (hT _ w476)⟩ (RW.preS hZ hS (va_free (wc := [(w, .inl (cT 0, R, .inl f))]) hD hS hA [1] rfl) (hP.sub (ws' := [(w, .inl (cT 0, R, .inl f))]) [1] rfl) hK (hD.sub (ws' := [(w, .inl (cT 0, R, .inl f))]) [1] (by decide) rfl)) rfl rfl hl.1 rfl (lv_room (Nat.le_of_ble_eq_true rfl)) dW_setProduct_25 ⟨Nat.le_of_ble_eq_true rfl, Nat.le_of_ble_eq_true rfl⟩) (fun u9 H locs hpu1 hP hD hS => ?_)
  obtain ⟨f1u1, rfl⟩ : ∃ q9, q9 = u9 := ⟨_, rfl⟩
  have hpu1 : (∀ q8, q8 < mo → f1u1 q8 = 0) ∧ (∀ q8, mo ≤ q8 → f1u1 q8 = f q8) := hpu1
  have hP : va_P D vwCl [(h, .inr (4, [.ref w, .int n, .int b])), (x2, .inr (4, [.ref w2, .int (nI K), .int b2])), (w2, .inl (cT 0, R2, .inl f2)), (w, .inl (cT 0, R, .inl f1u1))] _ := hP
  have hD : va_D A [(h, .inr (4, [.ref w, .int n, .int b])), (x2, .inr (4, [.ref w2, .int (nI K), .int b2])), (w2, .inl (cT 0, R2, .inl f2)), (w, .inl (cT 0, R, .inl f1u1))] := hD
  refine lv_iconst (v := 0) hx hb dW_setProduct_28 (by decide) ?_
  refine lv_istore hx hb dW_setProduct_29 hl (by decide) rfl (fun ls hl => ?_)
  have hl : lv_has ls 12 [(4, .int 0), (3, .int (nI mo)), (0, .ref h), (1, .ref x2), (2, .ref x2)] := hl
  refine lp_w (α := Nat × (Nat → Int32)) (fun a9 => a9.1 ≤ K ∧ dok 1000000000 a9.2 mo ∧ (∀ q, a9.1 + K ≤ q → q < mo → dg a9.2 q = 0) ∧ hv 1000000000 (dg a9.2) 0 mo = hv 1000000000 (dg f2) 0 a9.1 * vW f2 K) (fun a9 => K - a9.1) (fun a9 => [(0, .ref h), (1, .ref x2), (2, .ref x2), (3, .int (nI mo)), (4, .int (nI a9.1))]) (fun a9 => [(h, .inr (4, [.ref w, .int n, .int b])), (x2, .inr (4, [.ref w2, .int (nI K), .int b2])), (w2, .inl (cT 0, R2, .inl f2)), (w, .inl (cT 0, R, .inl a9.2))]) 31 ?_ (0, f1u1) (show 0 ≤ K ∧ dok 1000000000 f1u1 mo ∧ (∀ q, 0 + K ≤ q → q < mo → dg f1u1 q = 0) ∧ hv 1000000000 (dg f1u1) 0 mo = hv 1000000000 (dg f2) 0 0 * vW f2 K from ⟨by omega, fun q h => (by rw [dg_eq0 (hpu1.1 q h), hpu1.1 q h]; exact ⟨rfl, by decide⟩), fun q _ h => dg_eq0 (hpu1.1 q h), by rw [hv_0, Nat.zero_mul]; exact hv_zero (fun q _ h => dg_eq0 (hpu1.1 q (by omega)))⟩) (lv_sub hl [2, 3, 4, 1, 0] rfl) hP hD hS
  intro a9 hI31 ih31 ls H locs hl hP hD hS
  obtain ⟨i, g⟩ := a9
  have hI31 : i ≤ K ∧ dok 1000000000 g mo ∧ (∀ q, i + K ≤ q → q < mo → dg g q = 0) ∧ hv 1000000000 (dg g) 0 mo = hv 1000000000 (dg f2) 0 i * vW f2 K := hI31
  obtain ⟨ii, ig, iz, iv⟩ := hI31
  have hl : lv_has ls 12 [(0, .ref h), (1, .ref x2), (2, .ref x2), (3, .int (nI mo)), (4, .int (nI i))] := hl
  have hP : va_P D vwCl [(h, .inr (4, [.ref w, .int n, .int b])), (x2, .inr (4, [.ref w2, .int (nI K), .int b2])), (w2, .inl (cT 0, R2, .inl f2)), (w, .inl (cT 0, R, .inl g))] _ := hP
  have hD : va_D A [(h, .inr (4, [.ref w, .int n, .int b])), (x2, .inr (4, [.ref w2, .int (nI K), .int b2])), (w2, .inl (cT 0, R2, .inl f2)), (w, .inl (cT 0, R, .inl g))] := hD
  refine lv_iload hx hb dW_setProduct_31 (lv_at hl 4 rfl) ?_
  refine lv_aload_n hx hb dW_setProduct_33 rfl (lv_at hl 1 rfl) ?_
  refine va_get (D := D) (ci := 4) (v := .int (nI K)) (C := R_W) (T := T_W) (N := 3) hx hb hT in_W hown hK hP 1 rfl rfl 1 (by decide) (hT _ w148) (fun _ h9 => h9) rfl dW_setProduct_34 ?_
  refine lv_icmp_ge (tgt := 168) hx hb dW_setProduct_37 rfl (fun h2 => ?_) (fun h2 => ?_)
  · have gh2 : K ≤ i := (nI_leI (a := K) (b := i) (by omega) (by omega)).mp h2
    have ei : i = K := by omega
    rw [ei] at iv
    refine lv_aload_n hx hb dW_setProduct_168 rfl (lv_at hl 0 rfl) ?_
    refine lv_aload_n hx hb dW_setProduct_169 rfl (lv_at hl 1 rfl) ?_
    refine va_get (D := D) (ci := 4) (v := .int b2) (C := R_W) (T := T_W) (N := 3) hx hb hT in_W hown hK hP 1 rfl rfl 2 (by decide) (hT _ w149) (fun _ h9 => h9) rfl dW_setProduct_170 ?_
    refine lv_aload_n hx hb dW_setProduct_173 rfl (lv_at hl 2 rfl) ?_
    refine va_get (D := D) (ci := 4) (v := .int b2) (C := R_W) (T := T_W) (N := 3) hx hb hT in_W hown hK hP 1 rfl rfl 2 (by decide) (hT _ w149) (fun _ h9 => h9) rfl dW_setProduct_174 ?_
    refine lv_icmp_eq (tgt := 184) hx hb dW_setProduct_177 rfl (fun _ => ?_) (fun h3 => absurd rfl h3)
    refine lv_iconst (v := 0) hx hb dW_setProduct_184 (by decide) ?_
    refine va_put (D := D) (ci := 4) (v := .int 0) (ty := .boolean) (C := R_W) (T := T_W) (N := 3) hx hb hT in_W ty_W ty_W_ok m_W hown hK hP hD hS 0 rfl rfl 2 (by decide) (hT _ w149) (fun _ h9 => h9) rfl (by decide +kernel) rfl rfl (Nat.le_of_ble_eq_true rfl) dW_setProduct_185 (fun H locs hP hD hS => ?_)
    have hP : va_P D vwCl [(h, .inr (4, [.ref w, .int n, .int 0])), (x2, .inr (4, [.ref w2, .int (nI K), .int b2])), (w2, .inl (cT 0, R2, .inl f2)), (w, .inl (cT 0, R, .inl g))] _ := hP
    have hD : va_D A [(h, .inr (4, [.ref w, .int n, .int 0])), (x2, .inr (4, [.ref w2, .int (nI K), .int b2])), (w2, .inl (cT 0, R2, .inl f2)), (w, .inl (cT 0, R, .inl g))] := hD
    refine lv_aload_n hx hb dW_setProduct_188 rfl (lv_at hl 0 rfl) ?_
    refine lv_iload_n hx hb dW_setProduct_189 rfl (lv_at hl 3 rfl) ?_
    refine rw_v (wc := [(h, .inr (4, [.ref w, .int n, .int 0])), (w, .inl (cT 0, R, .inl g))]) (wr := [(x2, .inr (4, [.ref w2, .int (nI K), .int b2])), (w2, .inl (cT 0, R2, .inl f2))]) hP hD hS hA [0, 3] [1, 2] rfl rfl (by decide) (by decide) (va_runV (As := [.int (nI mo)]) (rest := []) ⟨hx, hb, hml, hown, hT⟩ (k_trim l D cT h w R n 0 g mo hR hmo1.1 ig _) ⟨callB_of 1 hT (tb_gd w397) rfl rfl rfl (hT _ w5) (hT _ w394) hW_trim ⟨Nat.le_of_ble_eq_true rfl, Nat.le_of_ble_eq_true rfl⟩, (hT _ w396), (hT _ wp3)⟩ (RW.preV (ci := 4) (q0 := 0) hZ hS (va_free (wc := [(h, .inr (4, [.ref w, .int n, .int 0])), (w, .inl (cT 0, R, .inl g))]) hD hS hA [0, 3] rfl) (hP.sub (ws' := [(h, .inr (4, [.ref w, .int n, .int 0])), (w, .inl (cT 0, R, .inl g))]) [0, 3] rfl) hK (hD.sub (ws' := [(h, .inr (4, [.ref w, .int n, .int 0])), (w, .inl (cT 0, R, .inl g))]) [0, 3] (by decide) rfl) rfl rfl) rfl rfl hl.1 rfl (lv_room (Nat.le_of_ble_eq_true rfl)) dW_setProduct_190 ⟨Nat.le_of_ble_eq_true rfl, Nat.le_of_ble_eq_true rfl⟩) (fun u9 H locs hpu4 hP hD hS => ?_)
    obtain ⟨ku4, rfl⟩ : ∃ q9, q9 = u9 := ⟨_, rfl⟩
    have hpu4 : ku4 ≤ mo ∧ top0 g ku4 ∧ vW g ku4 = vW g mo := hpu4
    have hP : va_P D vwCl [(x2, .inr (4, [.ref w2, .int (nI K), .int b2])), (w2, .inl (cT 0, R2, .inl f2)), (h, .inr (4, [.ref w, .int (nI ku4), .int 0])), (w, .inl (cT 0, R, .inl g))] _ := hP
    have hD : va_D A [(x2, .inr (4, [.ref w2, .int (nI K), .int b2])), (w2, .inl (cT 0, R2, .inl f2)), (h, .inr (4, [.ref w, .int (nI ku4), .int 0])), (w, .inl (cT 0, R, .inl g))] := hD
    have hP9 := hP.sub (ws' := [(h, .inr (4, [.ref w, .int (nI ku4), .int 0])), (w, .inl (cT 0, R, .inl g)), (x2, .inr (4, [.ref w2, .int (nI K), .int b2])), (w2, .inl (cT 0, R2, .inl f2))]) [2, 3, 0, 1] rfl
    have hD9 := hD.sub (ws' := [(h, .inr (4, [.ref w, .int (nI ku4), .int 0])), (w, .inl (cT 0, R, .inl g)), (x2, .inr (4, [.ref w2, .int (nI K), .int b2])), (w2, .inl (cT 0, R2, .inl f2))]) [2, 3, 0, 1] (by decide) rfl
    refine W.widen (k := 0) (n := 0) (Nat.le_of_ble_eq_true rfl) (Nat.le_of_ble_eq_true rfl) ?_
    exact W.vret hx hb hr (fun t9 ht9 hW9 => ⟨⟨(nI ku4, 0, g), rfl, (show WN R (nI ku4) 0 g (z2 * z2) from by have q0 := wn_trim (R := R) (b := 0) hmo1.1 ig (Or.inl rfl) hpu4; rw [show vW g mo = vW f2 K * vW f2 K from iv, wz_0] at q0; rw [hz, wz_sq]; exact q0), by rw [ht9]; exact hP9, hD9⟩, hS.F ht9⟩) hS.2.2 dW_setProduct_193
  · have gh2 : i < K := Nat.not_le.mp (fun q => h2 ((nI_leI (a := K) (b := i) (by omega) (by omega)).mpr q))
    have hw := hd i (by omega)
    obtain ⟨ai, hai⟩ : ∃ q9 : Nat, q9 = dg f2 i := ⟨_, rfl⟩
    have haib : ai < 1000000000 := by rw [hai]; exact hw.2
    rw [← hai] at hw
    refine lv_aload_n hx hb dW_setProduct_40 rfl (lv_at hl 1 rfl) ?_
    refine va_get (D := D) (ci := 4) (v := .ref w2) (C := R_W) (T := T_W) (N := 3) hx hb hT in_W hown hK hP 1 rfl rfl 0 (by decide) (hT _ w145) (fun _ h9 => h9) rfl dW_setProduct_41 ?_
    refine lv_iload hx hb dW_setProduct_44 (lv_at hl 4 rfl) ?_
    refine lq_iald (j := i) hx hb hK hP 2 0 rfl rfl rfl (by omega) (by omega) dW_setProduct_46 ?_
    refine lv_topi (fun y9 e9 => ?_)
    cases (show y9 = nI ai from e9.trans hw.1)
    refine lv_i2l hx hb dW_setProduct_47 rfl ?_
    refine lv_topl (fun y9 e9 => ?_)
    cases (show y9 = lN ai from e9.trans (nI_l (n := ai) (by omega)))
    refine lv_lstore hx hb dW_setProduct_48 hl (by decide) rfl (fun ls hl => ?_)
    have hl : lv_has ls 12 [(5, .long (lN ai)), (0, .ref h), (1, .ref x2), (2, .ref x2), (3, .int (nI mo)), (4, .int (nI i))] := hl
    refine lv_lconst (v := 0) hx hb dW_setProduct_50 (by decide) ?_
    refine lv_lstore hx hb dW_setProduct_51 hl (by decide) rfl (fun ls hl => ?_)
    have hl : lv_has ls 12 [(7, .long 0), (5, .long (lN ai)), (0, .ref h), (1, .ref x2), (2, .ref x2), (3, .int (nI mo)), (4, .int (nI i))] := hl
    refine lv_iconst (v := 0) hx hb dW_setProduct_53 (by decide) ?_
    refine lv_istore hx hb dW_setProduct_54 hl (by decide) rfl (fun ls hl => ?_)
    have hl : lv_has ls 12 [(9, .int 0), (7, .long 0), (5, .long (lN ai)), (0, .ref h), (1, .ref x2), (2, .ref x2), (3, .int (nI mo)), (4, .int (nI i))] := hl
    refine lp_w (α := Nat × Nat × (Nat → Int32)) (fun a9 => a9.1 ≤ K ∧ a9.2.1 < 1000000000 ∧ dok 1000000000 a9.2.2 mo ∧ (∀ q, i + K ≤ q → q < mo → dg a9.2.2 q = 0) ∧ hv 1000000000 (dg a9.2.2) 0 mo + 1000000000 ^ i * 1000000000 ^ a9.1 * a9.2.1 = hv 1000000000 (dg f2) 0 i * vW f2 K + 1000000000 ^ i * ai * hv 1000000000 (dg f2) 0 a9.1) (fun a9 => K - a9.1) (fun a9 => [(0, .ref h), (1, .ref x2), (2, .ref x2), (3, .int (nI mo)), (4, .int (nI i)), (5, .long (lN ai)), (7, .long (lN a9.2.1)), (9, .int (nI a9.1))]) (fun a9 => [(h, .inr (4, [.ref w, .int n, .int b])), (x2, .inr (4, [.ref w2, .int (nI K), .int b2])), (w2, .inl (cT 0, R2, .inl f2)), (w, .inl (cT 0, R, .inl a9.2.2))]) 56 ?_ (0, 0, g) (show 0 ≤ K ∧ 0 < 1000000000 ∧ dok 1000000000 g mo ∧ (∀ q, i + K ≤ q → q < mo → dg g q = 0) ∧ hv 1000000000 (dg g) 0 mo + 1000000000 ^ i * 1000000000 ^ 0 * 0 = hv 1000000000 (dg f2) 0 i * vW f2 K + 1000000000 ^ i * ai * hv 1000000000 (dg f2) 0 0 from ⟨by omega, by decide, ig, iz, by rw [hv_0, Nat.mul_zero, Nat.mul_zero, Nat.add_zero, Nat.add_zero]; exact iv⟩) (lv_sub hl [3, 4, 5, 6, 7, 2, 1, 0] rfl) hP hD hS
    intro a9 hI56 ih56 ls H locs hl hP hD hS
    obtain ⟨k, ca, g1⟩ := a9
    have hI56 : k ≤ K ∧ ca < 1000000000 ∧ dok 1000000000 g1 mo ∧ (∀ q, i + K ≤ q → q < mo → dg g1 q = 0) ∧ hv 1000000000 (dg g1) 0 mo + 1000000000 ^ i * 1000000000 ^ k * ca = hv 1000000000 (dg f2) 0 i * vW f2 K + 1000000000 ^ i * ai * hv 1000000000 (dg f2) 0 k := hI56
    obtain ⟨jk, jc, jg, jz, jv⟩ := hI56
    have hl : lv_has ls 12 [(0, .ref h), (1, .ref x2), (2, .ref x2), (3, .int (nI mo)), (4, .int (nI i)), (5, .long (lN ai)), (7, .long (lN ca)), (9, .int (nI k))] := hl
    have hP : va_P D vwCl [(h, .inr (4, [.ref w, .int n, .int b])), (x2, .inr (4, [.ref w2, .int (nI K), .int b2])), (w2, .inl (cT 0, R2, .inl f2)), (w, .inl (cT 0, R, .inl g1))] _ := hP
    have hD : va_D A [(h, .inr (4, [.ref w, .int n, .int b])), (x2, .inr (4, [.ref w2, .int (nI K), .int b2])), (w2, .inl (cT 0, R2, .inl f2)), (w, .inl (cT 0, R, .inl g1))] := hD
    refine lv_iload hx hb dW_setProduct_56 (lv_at hl 7 rfl) ?_
    refine lv_aload_n hx hb dW_setProduct_58 rfl (lv_at hl 2 rfl) ?_
    refine va_get (D := D) (ci := 4) (v := .int (nI K)) (C := R_W) (T := T_W) (N := 3) hx hb hT in_W hown hK hP 1 rfl rfl 1 (by decide) (hT _ w148) (fun _ h9 => h9) rfl dW_setProduct_59 ?_
    refine lv_icmp_ge (tgt := 136) hx hb dW_setProduct_62 rfl (fun h5 => ?_) (fun h5 => ?_)
    · have gh5 : K ≤ k := (nI_leI (a := K) (b := k) (by omega) (by omega)).mp h5
      have ek : k = K := by omega
      rw [ek] at jv
      have jv : hv 1000000000 (dg g1) 0 mo + 1000000000 ^ (i + K) * ca = hv 1000000000 (dg f2) 0 (i + 1) * vW f2 K := by rw [hv_snoc, Nat.zero_add, ← hai, Nat.add_mul, Nat.pow_add]; exact jv
      refine lv_iload hx hb dW_setProduct_136 (lv_at hl 4 rfl) ?_
      refine lv_aload_n hx hb dW_setProduct_138 rfl (lv_at hl 2 rfl) ?_
      refine va_get (D := D) (ci := 4) (v := .int (nI K)) (C := R_W) (T := T_W) (N := 3) hx hb hT in_W hown hK hP 1 rfl rfl 1 (by decide) (hT _ w148) (fun _ h9 => h9) rfl dW_setProduct_139 ?_
      refine lv_iadd hx hb dW_setProduct_142 ?_
      refine lv_topi (fun y9 e9 => ?_)
      cases (show y9 = nI (i + K) from e9.trans (nI_add i K))
      refine lv_iload_n hx hb dW_setProduct_143 rfl (lv_at hl 3 rfl) ?_
      refine lv_icmp_ge (tgt := 162) hx hb dW_setProduct_144 rfl (fun h6 => ?_) (fun h6 => ?_)
      · have gh6 : mo ≤ i + K := (nI_leI (a := mo) (b := i + K) (by omega) (by omega)).mp h6
        refine lv_iinc (k := 4) (v := nI (i + 1)) hx hb dW_setProduct_162 hl rfl (nI_1 i) (by decide) rfl (fun ls hl => ?_)
        have hl : lv_has ls 12 [(4, .int (nI (i + 1))), (0, .ref h), (1, .ref x2), (2, .ref x2), (3, .int (nI mo)), (5, .long (lN ai)), (7, .long (lN ca)), (9, .int (nI k))] := hl
        refine lv_goto (tgt := 31) hx hb dW_setProduct_165 rfl ?_
        exact ih31 (i + 1, g1) (show (i + 1) ≤ K ∧ dok 1000000000 g1 mo ∧ (∀ q, (i + 1) + K ≤ q → q < mo → dg g1 q = 0) ∧ hv 1000000000 (dg g1) 0 mo = hv 1000000000 (dg f2) 0 (i + 1) * vW f2 K from ⟨by omega, jg, fun q h1 h2 => jz q (by omega) h2, (by have e4 : i + K = R := (by omega); have hle := sq_le (i := i + 1) (K := K) (f := f2) (by omega); rw [← jv, e4] at hle; rcases Nat.eq_zero_or_pos ca with r | r; (rw [r, Nat.mul_zero, Nat.add_zero] at jv; exact jv); (have := Nat.mul_le_mul_left (1000000000 ^ R) (show 1 ≤ ca from r); omega))⟩) (show K - (i + 1) < K - i from (by omega)) ls H locs (lv_sub hl [1, 2, 3, 4, 0] rfl) hP hD hS
      · have gh6 : i + K < mo := Nat.not_le.mp (fun q => h6 ((nI_leI (a := mo) (b := i + K) (by omega) (by omega)).mpr q))
        refine lv_aload_n hx hb dW_setProduct_147 rfl (lv_at hl 0 rfl) ?_
        refine va_get (D := D) (ci := 4) (v := .ref w) (C := R_W) (T := T_W) (N := 3) hx hb hT in_W hown hK hP 0 rfl rfl 0 (by decide) (hT _ w145) (fun _ h9 => h9) rfl dW_setProduct_148 ?_
        refine lv_iload hx hb dW_setProduct_151 (lv_at hl 4 rfl) ?_
        refine lv_aload_n hx hb dW_setProduct_153 rfl (lv_at hl 2 rfl) ?_
        refine va_get (D := D) (ci := 4) (v := .int (nI K)) (C := R_W) (T := T_W) (N := 3) hx hb hT in_W hown hK hP 1 rfl rfl 1 (by decide) (hT _ w148) (fun _ h9 => h9) rfl dW_setProduct_154 ?_
        refine lv_iadd hx hb dW_setProduct_157 ?_
        refine lv_topi (fun y9 e9 => ?_)
        cases (show y9 = nI (i + K) from e9.trans (nI_add i K))
        refine lv_lload hx hb dW_setProduct_158 (lv_at hl 6 rfl) ?_
        refine lv_l2i hx hb dW_setProduct_160 rfl ?_
        refine lv_topi (fun y9 e9 => ?_)
        cases (show y9 = nI ca from e9.trans (lN_i ca))
        refine lq_iast (j := i + K) hx hb hK hP hD hS 3 0 rfl rfl rfl (by omega) (by omega) dW_setProduct_161 (fun H locs hP hD hS => ?_)
        have hP : va_P D vwCl [(h, .inr (4, [.ref w, .int n, .int b])), (x2, .inr (4, [.ref w2, .int (nI K), .int b2])), (w2, .inl (cT 0, R2, .inl f2)), (w, .inl (cT 0, R, .inl (upd g1 (i + K) (nI ca))))] _ := hP
        have hD : va_D A [(h, .inr (4, [.ref w, .int n, .int b])), (x2, .inr (4, [.ref w2, .int (nI K), .int b2])), (w2, .inl (cT 0, R2, .inl f2)), (w, .inl (cT 0, R, .inl (upd g1 (i + K) (nI ca))))] := hD
        refine lv_iinc (k := 4) (v := nI (i + 1)) hx hb dW_setProduct_162 hl rfl (nI_1 i) (by decide) rfl (fun ls hl => ?_)
        have hl : lv_has ls 12 [(4, .int (nI (i + 1))), (0, .ref h), (1, .ref x2), (2, .ref x2), (3, .int (nI mo)), (5, .long (lN ai)), (7, .long (lN ca)), (9, .int (nI k))] := hl
        refine lv_goto (tgt := 31) hx hb dW_setProduct_165 rfl ?_
        exact ih31 (i + 1, upd g1 (i + K) (nI ca)) (show (i + 1) ≤ K ∧ dok 1000000000 (upd g1 (i + K) (nI ca)) mo ∧ (∀ q, (i + 1) + K ≤ q → q < mo → dg (upd g1 (i + K) (nI ca)) q = 0) ∧ hv 1000000000 (dg (upd g1 (i + K) (nI ca))) 0 mo = hv 1000000000 (dg f2) 0 (i + 1) * vW f2 K from ⟨by omega, dok_u jg jc (by decide), fun q h1 h2 => (dg_un (by omega)).trans (jz q (by omega) h2), (by have q0 := hv_upd (B := 1000000000) (p := i + K) (n := mo) (v := ca) (g := g1) (by omega) (by omega); rw [jz (i + K) (Nat.le_refl _) (by omega), Nat.mul_zero, Nat.add_zero] at q0; rw [q0]; exact jv)⟩) (show K - (i + 1) < K - i from (by omega)) ls H locs (lv_sub hl [1, 2, 3, 4, 0] rfl) hP hD hS
    · have gh5 : k < K := Nat.not_le.mp (fun q => h5 ((nI_leI (a := K) (b := k) (by omega) (by omega)).mpr q))
      refine lv_iload hx hb dW_setProduct_65 (lv_at hl 4 rfl) ?_
      refine lv_iload hx hb dW_setProduct_67 (lv_at hl 7 rfl) ?_
      refine lv_iadd hx hb dW_setProduct_69 ?_
      refine lv_topi (fun y9 e9 => ?_)
      cases (show y9 = nI (i + k) from e9.trans (nI_add i k))
      refine lv_iload_n hx hb dW_setProduct_70 rfl (lv_at hl 3 rfl) ?_
      refine lv_icmp_ge (tgt := 136) hx hb dW_setProduct_71 rfl (fun h7 => absurd h7 (nI_ge (by omega) (by omega))) (fun _ => ?_)
      have hu := hd k (by omega)
      obtain ⟨bk, hbk⟩ : ∃ q9 : Nat, q9 = dg f2 k := ⟨_, rfl⟩
      have hbkb : bk < 1000000000 := by rw [hbk]; exact hu.2
      rw [← hbk] at hu
      have hy := jg (i + k) (by omega)
      obtain ⟨wk, hwk⟩ : ∃ q9 : Nat, q9 = dg g1 (i + k) := ⟨_, rfl⟩
      have hwkb : wk < 1000000000 := by rw [hwk]; exact hy.2
      rw [← hwk] at hy
      have hab := mulb haib hbkb
      refine lv_lload hx hb dW_setProduct_74 (lv_at hl 5 rfl) ?_
      refine lv_aload_n hx hb dW_setProduct_76 rfl (lv_at hl 2 rfl) ?_
      refine va_get (D := D) (ci := 4) (v := .ref w2) (C := R_W) (T := T_W) (N := 3) hx hb hT in_W hown hK hP 1 rfl rfl 0 (by decide) (hT _ w145) (fun _ h9 => h9) rfl dW_setProduct_77 ?_
      refine lv_iload hx hb dW_setProduct_80 (lv_at hl 7 rfl) ?_
      refine lq_iald (j := k) hx hb hK hP 2 0 rfl rfl rfl (by omega) (by omega) dW_setProduct_82 ?_
      refine lv_topi (fun y9 e9 => ?_)
      cases (show y9 = nI bk from e9.trans hu.1)
      refine lv_i2l hx hb dW_setProduct_83 rfl ?_
      refine lv_topl (fun y9 e9 => ?_)
      cases (show y9 = lN bk from e9.trans (nI_l (n := bk) (by omega)))
      refine lv_lmul hx hb dW_setProduct_84 ?_
      refine lv_topl (fun y9 e9 => ?_)
      cases (show y9 = lN (ai * bk) from e9.trans (lN_mul ai bk))
      refine lv_aload_n hx hb dW_setProduct_85 rfl (lv_at hl 0 rfl) ?_
      refine va_get (D := D) (ci := 4) (v := .ref w) (C := R_W) (T := T_W) (N := 3) hx hb hT in_W hown hK hP 0 rfl rfl 0 (by decide) (hT _ w145) (fun _ h9 => h9) rfl dW_setProduct_86 ?_
      refine lv_iload hx hb dW_setProduct_89 (lv_at hl 4 rfl) ?_
      refine lv_iload hx hb dW_setProduct_91 (lv_at hl 7 rfl) ?_
      refine lv_iadd hx hb dW_setProduct_93 ?_
      refine lv_topi (fun y9 e9 => ?_)
      cases (show y9 = nI (i + k) from e9.trans (nI_add i k))
      refine lq_iald (j := i + k) hx hb hK hP 3 0 rfl rfl rfl (by omega) (by omega) dW_setProduct_94 ?_
      refine lv_topi (fun y9 e9 => ?_)
      cases (show y9 = nI wk from e9.trans hy.1)
      refine lv_i2l hx hb dW_setProduct_95 rfl ?_
      refine lv_topl (fun y9 e9 => ?_)
      cases (show y9 = lN wk from e9.trans (nI_l (n := wk) (by omega)))
      refine lv_ladd hx hb dW_setProduct_96 ?_
      refine lv_topl (fun y9 e9 => ?_)
      cases (show y9 = lN ((ai * bk) + wk) from e9.trans (lN_add (ai * bk) wk))
      refine lv_lload hx hb dW_setProduct_97 (lv_at hl 6 rfl) ?_
      refine lv_ladd hx hb dW_setProduct_99 ?_
      refine lv_topl (fun y9 e9 => ?_)
      cases (show y9 = lN (((ai * bk) + wk) + ca) from e9.trans (lN_add ((ai * bk) + wk) ca))
      obtain ⟨sm, hsm⟩ : ∃ q9 : Nat, q9 = ((ai * bk) + wk) + ca := ⟨_, rfl⟩
      refine lv_topl (fun y9 e9 => ?_)
      cases (show y9 = lN sm from e9.trans (congrArg lN hsm.symm))
      refine lv_lstore hx hb dW_setProduct_100 hl (by decide) rfl (fun ls hl => ?_)
      have hl : lv_has ls 12 [(10, .long (lN sm)), (0, .ref h), (1, .ref x2), (2, .ref x2), (3, .int (nI mo)), (4, .int (nI i)), (5, .long (lN ai)), (7, .long (lN ca)), (9, .int (nI k))] := hl
      refine lv_lload hx hb dW_setProduct_102 (lv_at hl 0 rfl) ?_
      refine lv_ldc2 (v := 1000000000) hx hb hown (hT _ w421) dW_setProduct_104 ?_
      refine lv_ldiv hx hb dW_setProduct_107 (by decide) ?_
      refine lv_topl (fun y9 e9 => ?_)
      cases (show y9 = lN (sm / 1000000000) from e9.trans (pk_lDiv (a := sm) (b := 1000000000) (by omega) (by omega) (by decide)))
      obtain ⟨c1, hc1⟩ : ∃ q9 : Nat, q9 = sm / 1000000000 := ⟨_, rfl⟩
      refine lv_topl (fun y9 e9 => ?_)
      cases (show y9 = lN c1 from e9.trans (congrArg lN hc1.symm))
      refine lv_lstore hx hb dW_setProduct_108 hl (by decide) rfl (fun ls hl => ?_)
      have hl : lv_has ls 12 [(7, .long (lN c1)), (10, .long (lN sm)), (0, .ref h), (1, .ref x2), (2, .ref x2), (3, .int (nI mo)), (4, .int (nI i)), (5, .long (lN ai)), (9, .int (nI k))] := hl
      refine lv_aload_n hx hb dW_setProduct_110 rfl (lv_at hl 2 rfl) ?_
      refine va_get (D := D) (ci := 4) (v := .ref w) (C := R_W) (T := T_W) (N := 3) hx hb hT in_W hown hK hP 0 rfl rfl 0 (by decide) (hT _ w145) (fun _ h9 => h9) rfl dW_setProduct_111 ?_
      refine lv_iload hx hb dW_setProduct_114 (lv_at hl 6 rfl) ?_
      refine lv_iload hx hb dW_setProduct_116 (lv_at hl 8 rfl) ?_
      refine lv_iadd hx hb dW_setProduct_118 ?_
      refine lv_topi (fun y9 e9 => ?_)
      cases (show y9 = nI (i + k) from e9.trans (nI_add i k))
      refine lv_lload hx hb dW_setProduct_119 (lv_at hl 1 rfl) ?_
      refine lv_lload hx hb dW_setProduct_121 (lv_at hl 0 rfl) ?_
      refine lv_ldc2 (v := 1000000000) hx hb hown (hT _ w421) dW_setProduct_123 ?_
      refine lv_lmul hx hb dW_setProduct_126 ?_
      refine lv_topl (fun y9 e9 => ?_)
      cases (show y9 = lN (c1 * 1000000000) from e9.trans (lN_mul c1 1000000000))
      refine lv_lsub hx hb dW_setProduct_127 ?_
      refine lv_topl (fun y9 e9 => ?_)
      cases (show y9 = lN (sm - (c1 * 1000000000)) from e9.trans (lN_sub (a := sm) (b := c1 * 1000000000) (by omega)))
      obtain ⟨v1, hv1⟩ : ∃ q9 : Nat, q9 = sm % 1000000000 := ⟨_, rfl⟩
      have hv1b : v1 < 1000000000 := by omega
      refine lv_topl (fun y9 e9 => ?_)
      cases (show y9 = lN v1 from e9.trans (congrArg lN (show sm - (c1 * 1000000000) = v1 by omega)))
      refine lv_l2i hx hb dW_setProduct_128 rfl ?_
      refine lv_topi (fun y9 e9 => ?_)
      cases (show y9 = nI v1 from e9.trans (lN_i v1))
      refine lq_iast (j := i + k) hx hb hK hP hD hS 3 0 rfl rfl rfl (by omega) (by omega) dW_setProduct_129 (fun H locs hP hD hS => ?_)
      have hP : va_P D vwCl [(h, .inr (4, [.ref w, .int n, .int b])), (x2, .inr (4, [.ref w2, .int (nI K), .int b2])), (w2, .inl (cT 0, R2, .inl f2)), (w, .inl (cT 0, R, .inl (upd g1 (i + k) (nI v1))))] _ := hP
      have hD : va_D A [(h, .inr (4, [.ref w, .int n, .int b])), (x2, .inr (4, [.ref w2, .int (nI K), .int b2])), (w2, .inl (cT 0, R2, .inl f2)), (w, .inl (cT 0, R, .inl (upd g1 (i + k) (nI v1))))] := hD
      refine lv_iinc (k := 8) (v := nI (k + 1)) hx hb dW_setProduct_130 hl rfl (nI_1 k) (by decide) rfl (fun ls hl => ?_)
      have hl : lv_has ls 12 [(9, .int (nI (k + 1))), (7, .long (lN c1)), (10, .long (lN sm)), (0, .ref h), (1, .ref x2), (2, .ref x2), (3, .int (nI mo)), (4, .int (nI i)), (5, .long (lN ai))] := hl
      refine lv_goto (tgt := 56) hx hb dW_setProduct_133 rfl ?_
      exact ih56 (k + 1, c1, upd g1 (i + k) (nI v1)) (show (k + 1) ≤ K ∧ c1 < 1000000000 ∧ dok 1000000000 (upd g1 (i + k) (nI v1)) mo ∧ (∀ q, i + K ≤ q → q < mo → dg (upd g1 (i + k) (nI v1)) q = 0) ∧ hv 1000000000 (dg (upd g1 (i + k) (nI v1))) 0 mo + 1000000000 ^ i * 1000000000 ^ (k + 1) * c1 = hv 1000000000 (dg f2) 0 i * vW f2 K + 1000000000 ^ i * ai * hv 1000000000 (dg f2) 0 (k + 1) from ⟨by omega, by rw [hc1]; exact sq_b haib hbkb hwkb jc hsm, dok_u jg (by omega) (by decide), fun q h1 h2 => (dg_un (by omega)).trans (jz q h1 h2), by rw [hv_snoc, Nat.zero_add, ← hbk, hc1, Nat.pow_succ, ← Nat.mul_assoc]; exact sq_s jv hsm (by have q0 := hv_upd (B := 1000000000) (p := i + k) (n := mo) (v := v1) (g := g1) (by omega) (by omega); rw [Nat.pow_add, ← hwk] at q0; rw [← hv1]; exact q0)⟩) (show K - (k + 1) < K - k from (by omega)) ls H locs (lv_sub hl [3, 4, 5, 6, 7, 8, 1, 0] rfl) hP hD hS
set_option maxHeartbeats 4000000 in
set_option maxRecDepth 100000 in
theorem k_halveAway (l : Launch) (D : va_G) (cT : Nat → ClassId) (h : Nat) (w : Nat) (R : Nat) (n : Int32) (b : Int32) (f : Nat → Int32) (z : Int) (hR : R ≤ 48) (hN : WN R n b f z) (sz : Nat) : Met l yW_halveAway WW_halveAway ({ frames := 2, cells := 0, slots := 0, locals := 47 } : Room) (RW D vwCl [.ref h] [(h, .inr (4, [.ref w, .int n, .int b])), (w, .inl (cT 0, R, .inl f))] (TY cT) sz) (va_Qi (fun (r9 : Int32) (u9 : Int32 × (Nat → Int32)) => r9 = nI (bl z.natAbs) ∧ WN R u9.1 b u9.2 0) (BW D vwCl (va_A [(h, .inr (4, [.ref w, .int n, .int b])), (w, .inl (cT 0, R, .inl f))] sz) (fun u9 : Int32 × (Nat → Int32) => [(h, .inr (4, [.ref w, .int u9.1, .int b])), (w, .inl (cT 0, R, .inl u9.2))])) (va_A [(h, .inr (4, [.ref w, .int n, .int b])), (w, .inl (cT 0, R, .inl f))] sz)) 0 0 (va_A [(h, .inr (4, [.ref w, .int n, .int b])), (w, .inl (cT 0, R, .inl f))] sz) := by
  refine Met.ofW (cc := cW_halveAway) (maxL := 2) (ret := (some .int)) (by decide) rfl ?_
  intro p e s m args below meth c s₁ B hml hv
  obtain ⟨rfl, hsz, hZ, hP, hK, hD0⟩ := hv
  have hx := B.exec
  have hb := B.bytes
  have hr := B.returns
  have hts := atoms_spec (ws := WW_halveAway) B.pre
  have hT : ∀ w ∈ TB, w.before _ s = true := fun w h => hts w (List.mem_cons_of_mem _ h)
  have hown : s.vm.findClass R_W = some m.cls := findClass_of_methodNamed B.named
  have hlocks := B.notSynchronized
  subst hsz
  have hD := hD0.self (sz := s.heap.size)
  generalize hAe : va_A [(h, .inr (4, [.ref w, .int n, .int b])), (w, .inl (cT 0, R, .inl f))] s.heap.size = A at hD hZ ⊢
  have hA : ∀ q : Nat, s.heap.size ≤ q → A q := fun q h => by rw [← hAe]; exact Or.inr h
  have hS : va_S A s.heap s.heap [] := va_S.rf
  have hl := lv_entry ([.ref h]) (n := 2) (Nat.le_of_ble_eq_true rfl)
  rw [lg_entry_eq]
  generalize (lg_sl ([.ref h]) ++ List.replicate (2 - (lg_sl ([.ref h])).length) Slot.unset).toArray = ls at hl ⊢
  have hl : lv_has ls 2 [(0, .ref h)] := hl
  refine lv_iconst (v := 0) hx hb dW_halveAway_0 (by decide) ?_
  refine lv_istore_n hx hb dW_halveAway_1 rfl hl (by decide) rfl (fun ls hl => ?_)
  have hl : lv_has ls 2 [(1, .int 0), (0, .ref h)] := hl
  refine lp_w (α := Nat × Int × Int32 × (Nat → Int32)) (fun a9 => WN R a9.2.2.1 b a9.2.2.2 a9.2.1 ∧ bl z.natAbs = a9.1 + bl a9.2.1.natAbs ∧ a9.1 ≤ R * 30) (fun a9 => a9.2.1.natAbs) (fun a9 => [(0, .ref h), (1, .int (nI a9.1))]) (fun a9 => [(h, .inr (4, [.ref w, .int a9.2.2.1, .int b])), (w, .inl (cT 0, R, .inl a9.2.2.2))]) 2 ?_ (0, z, n, f) (show WN R n b f z ∧ bl z.natAbs = 0 + bl z.natAbs ∧ 0 ≤ R * 30 from ⟨hN, (Nat.zero_add _).symm, by omega⟩) (lv_sub hl [1, 0] rfl) hP hD hS
  intro a9 hI2 ih2 ls H locs hl hP hD hS
  obtain ⟨j, zz, n1, f1⟩ := a9
  have hI2 : WN R n1 b f1 zz ∧ bl z.natAbs = j + bl zz.natAbs ∧ j ≤ R * 30 := hI2
  obtain ⟨iN, ib, ij⟩ := hI2
  have hl : lv_has ls 2 [(0, .ref h), (1, .int (nI j))] := hl
  have hP : va_P D vwCl [(h, .inr (4, [.ref w, .int n1, .int b])), (w, .inl (cT 0, R, .inl f1))] _ := hP
  have hD : va_D A [(h, .inr (4, [.ref w, .int n1, .int b])), (w, .inl (cT 0, R, .inl f1))] := hD
  have hN1 := iN
  obtain ⟨K, rfl, hk, hd, htop, hb01, hz⟩ := iN
  have hP : va_P D vwCl [(h, .inr (4, [.ref w, .int (nI K), .int b])), (w, .inl (cT 0, R, .inl f1))] _ := hP
  have hD : va_D A [(h, .inr (4, [.ref w, .int (nI K), .int b])), (w, .inl (cT 0, R, .inl f1))] := hD
  refine lv_iload_n hx hb dW_halveAway_2 rfl (lv_at hl 1 rfl) ?_
  refine lv_aload_n hx hb dW_halveAway_3 rfl (lv_at hl 0 rfl) ?_
  refine ro_i (va_Run.run (va_runV (As := []) (rest := [.int (nI j)]) ⟨hx, hb, hml, hown, hT⟩ (k_mostBits l D cT h w R (nI K) b f1) ⟨callB_of 0 hT (tb_gd w975) rfl rfl rfl (hT _ w5) (hT _ w985) hW_mostBits ⟨Nat.le_of_ble_eq_true rfl, Nat.le_of_ble_eq_true rfl⟩, (hT _ w973), (hT _ w974)⟩ (RO.preV (ci := 4) (q0 := 0) hZ hS (hP.sub (ws' := [(h, .inr (4, [.ref w, .int (nI K), .int b])), (w, .inl (cT 0, R, .inl f1))]) [0, 1] rfl) hK rfl rfl) rfl rfl hl.1 rfl (lv_room (Nat.le_of_ble_eq_true rfl)) dW_halveAway_4 ⟨Nat.le_of_ble_eq_true rfl, Nat.le_of_ble_eq_true rfl⟩)) ?_
  refine lv_icmp_ge (tgt := 28) hx hb dW_halveAway_7 rfl (fun h1 => ?_) (fun h1 => ?_)
  · have gh1 : R * 30 ≤ j := (nI_leI (a := R * 30) (b := j) (by omega) (by omega)).mp h1
    have hz0 : zz.natAbs = 0 := by
      obtain ⟨K0, rfl, qhk, qhd, -, -, qhz⟩ := hN
      have := bl_R qhd qhk
      rw [qhz, wz_abs] at ib
      exact bl_0.mp (by omega)
    rw [hz0, show bl 0 = 0 from rfl, Nat.add_zero] at ib
    refine lv_iload_n hx hb dW_halveAway_28 rfl (lv_at hl 1 rfl) ?_
    have hP9 := hP.sub (ws' := [(h, .inr (4, [.ref w, .int (nI K), .int b])), (w, .inl (cT 0, R, .inl f1))]) [0, 1] rfl
    have hD9 := hD.sub (ws' := [(h, .inr (4, [.ref w, .int (nI K), .int b])), (w, .inl (cT 0, R, .inl f1))]) [0, 1] (by decide) rfl
    refine W.widen (k := 0) (n := 0) (Nat.le_of_ble_eq_true rfl) (Nat.le_of_ble_eq_true rfl) ?_
    exact W.iret (v := nI j) hx hb hr (fun t9 ht9 hW9 => ⟨⟨nI j, (nI K, f1), rfl, (show (nI j) = nI (bl z.natAbs) ∧ WN R (nI K) b f1 0 from ⟨by rw [ib], by rw [← Int.natAbs_eq_zero.mp hz0]; exact hN1⟩), by rw [ht9]; exact hP9, hD9⟩, hS.F ht9⟩) hS.2.2 dW_halveAway_29
  · have gh1 : j < R * 30 := Nat.not_le.mp (fun q => h1 ((nI_leI (a := R * 30) (b := j) (by omega) (by omega)).mpr q))
    refine lv_aload_n hx hb dW_halveAway_10 rfl (lv_at hl 0 rfl) ?_
    refine va_get (D := D) (ci := 4) (v := .int (nI K)) (C := R_W) (T := T_W) (N := 3) hx hb hT in_W hown hK hP 0 rfl rfl 1 (by decide) (hT _ w148) (fun _ h9 => h9) rfl dW_halveAway_11 ?_
    refine lv_if_le (tgt := 28) hx hb dW_halveAway_14 rfl (fun h2 => ?_) (fun h2 => ?_)
    · have gh2 : K ≤ 0 := (nI_leI (a := K) (b := 0) (by omega) (by omega)).mp h2
      have hz0 : zz.natAbs = 0 := by rw [hz, wz_abs, show K = 0 by omega]; rfl
      rw [hz0, show bl 0 = 0 from rfl, Nat.add_zero] at ib
      refine lv_iload_n hx hb dW_halveAway_28 rfl (lv_at hl 1 rfl) ?_
      have hP9 := hP.sub (ws' := [(h, .inr (4, [.ref w, .int (nI K), .int b])), (w, .inl (cT 0, R, .inl f1))]) [0, 1] rfl
      have hD9 := hD.sub (ws' := [(h, .inr (4, [.ref w, .int (nI K), .int b])), (w, .inl (cT 0, R, .inl f1))]) [0, 1] (by decide) rfl
      refine W.widen (k := 0) (n := 0) (Nat.le_of_ble_eq_true rfl) (Nat.le_of_ble_eq_true rfl) ?_
      exact W.iret (v := nI j) hx hb hr (fun t9 ht9 hW9 => ⟨⟨nI j, (nI K, f1), rfl, (show (nI j) = nI (bl z.natAbs) ∧ WN R (nI K) b f1 0 from ⟨by rw [ib], by rw [← Int.natAbs_eq_zero.mp hz0]; exact hN1⟩), by rw [ht9]; exact hP9, hD9⟩, hS.F ht9⟩) hS.2.2 dW_halveAway_29
    · have gh2 : 0 < K := Nat.not_le.mp (fun q => h2 ((nI_leI (a := K) (b := 0) (by omega) (by omega)).mpr q))
      have hzp : 0 < zz.natAbs := by rw [hz, wz_abs]; exact vW_pos htop (by omega)
      refine lv_aload_n hx hb dW_halveAway_17 rfl (lv_at hl 0 rfl) ?_
      refine lv_iconst (v := 2) hx hb dW_halveAway_18 (by decide) ?_
      refine rw_v (wc := [(h, .inr (4, [.ref w, .int (nI K), .int b])), (w, .inl (cT 0, R, .inl f1))]) (wr := []) hP hD hS hA [0, 1] [] rfl rfl (by decide) (by decide) (va_runV (As := [.int 2]) (rest := []) ⟨hx, hb, hml, hown, hT⟩ (k_divide l D cT h w R (nI K) b f1 zz 2 hR hN1 (by decide) (by decide) _) ⟨callB_of 1 hT (tb_gd w457) rfl rfl rfl (hT _ w5) (hT _ w986) hW_divide ⟨Nat.le_of_ble_eq_true rfl, Nat.le_of_ble_eq_true rfl⟩, (hT _ w455), (hT _ w456)⟩ (RW.preV (ci := 4) (q0 := 0) hZ hS (va_free (wc := [(h, .inr (4, [.ref w, .int (nI K), .int b])), (w, .inl (cT 0, R, .inl f1))]) hD hS hA [0, 1] rfl) (hP.sub (ws' := [(h, .inr (4, [.ref w, .int (nI K), .int b])), (w, .inl (cT 0, R, .inl f1))]) [0, 1] rfl) hK (hD.sub (ws' := [(h, .inr (4, [.ref w, .int (nI K), .int b])), (w, .inl (cT 0, R, .inl f1))]) [0, 1] (by decide) rfl) rfl rfl) rfl rfl hl.1 rfl (lv_room (Nat.le_of_ble_eq_true rfl)) dW_halveAway_19 ⟨Nat.le_of_ble_eq_true rfl, Nat.le_of_ble_eq_true rfl⟩) (fun u9 H locs hpu3 hP hD hS => ?_)
      obtain ⟨n1u3, f1u3⟩ := u9
      have hpu3 : WN R n1u3 b f1u3 (zz.tdiv 2) := hpu3
      have hP : va_P D vwCl [(h, .inr (4, [.ref w, .int n1u3, .int b])), (w, .inl (cT 0, R, .inl f1u3))] _ := hP
      have hD : va_D A [(h, .inr (4, [.ref w, .int n1u3, .int b])), (w, .inl (cT 0, R, .inl f1u3))] := hD
      refine lv_iinc (k := 1) (v := nI (j + 1)) hx hb dW_halveAway_22 hl rfl (nI_1 j) (by decide) rfl (fun ls hl => ?_)
      have hl : lv_has ls 2 [(1, .int (nI (j + 1))), (0, .ref h)] := hl
      refine lv_goto (tgt := 2) hx hb dW_halveAway_25 rfl ?_
      exact ih2 (j + 1, zz.tdiv (2 : Nat), n1u3, f1u3) (show WN R n1u3 b f1u3 (zz.tdiv (2 : Nat)) ∧ bl z.natAbs = (j + 1) + bl (zz.tdiv (2 : Nat)).natAbs ∧ (j + 1) ≤ R * 30 from ⟨hpu3, by rw [Int.natAbs_tdiv]; show _ = j + 1 + bl (zz.natAbs / 2); have := bl_half hzp; omega, by omega⟩) (show (zz.tdiv (2 : Nat)).natAbs < zz.natAbs from (by rw [Int.natAbs_tdiv]; show zz.natAbs / 2 < _; omega)) ls H locs (lv_sub hl [1, 0] rfl) hP hD hS
