set_option maxHeartbeats 4000000 in
set_option maxRecDepth 100000 in
theorem l_begin (l : Launch) (D : va_G) (cT : Nat → ClassId) (cds : List Nat) (ad : Nat → Nat) (gg : Nat → Option va_E) (tc : Int32) (wd9 : Int32) (rw9 : Int32) (pd : Int32) (pl9 : Int32) (pw : Int32) (pu : Int32) (pq9 : Int32) (psb : Int64) (pcb : Int32) (L0 : Nat) (fo : Nat → Int32) (k : Int32) (hcd : CD cds) (hob : gg 0 = some (eOB ad tc)) (htb : gg 1 = some (eTB ad wd9 rw9)) (hCa : CAp cT ad gg) (hCc : ∀ j, j < 6 → ∃ (fv fe : Nat → Int32) (ec ok : Int32), COLe cT ad gg j ec ok fv fe ∧ (ok = 0 ∨ ok = 1)) (hpl : gg 4 = some (ePL pd pl9 pw pu pq9 psb pcb)) (hOut : gg 41 = some (.inr (8, [.ref (ad 42), .int (nI L0), .ref (ad 43), .ref (ad 46)])) ∧ True) (hk6 : 1 ≤ k ∧ k ≤ 6) (sz : Nat) : Met l yL_begin WL_begin ({ frames := 4, cells := 0, slots := 0, locals := 89 } : Room) (RW D vwCl [.ref (ad 0), .int k] ([] ++ pg cds ad gg) (TY cT) sz) (va_Qi (fun (r9 : Int32) (u9 : (Nat → Option va_E)) => r9 = 0 ∧ (∀ z8, z8 ≠ 0 → z8 ≠ 1 → z8 ≠ 4 → z8 ≠ 41 → (z8 < 10 ∨ 26 ≤ z8) → u9 z8 = gg z8) ∧ u9 0 = some (eOB ad (nI 0)) ∧ u9 1 = some (eTB ad k (nI 0)) ∧ u9 4 = some (ePL 2 1 0 1 2 (-1) (-1)) ∧ (∀ j8, j8 < 6 → ∃ fv fe : Nat → Int32, COLe cT ad u9 j8 0 0 fv fe ∧ (∀ r8, r8 < 0 → fv r8 = 0) ∧ fv 48 = (-2147483648) ∧ ∀ q8, q8 < 0 → fe q8 = 0) ∧ u9 41 = some (.inr (8, [.ref (ad 42), .int (nI 0), .ref (ad 43), .ref (ad 46)]))) (BW D vwCl (va_A ([] ++ pg cds ad gg) sz) (fun u9 : (Nat → Option va_E) => ([] ++ pg cds ad u9))) (va_A ([] ++ pg cds ad gg) sz)) 0 0 (va_A ([] ++ pg cds ad gg) sz) := by
  refine va_MetW (hh := [(0, 5, 8, 13)]) (cc := cL_begin) (maxL := 3) (ret := (some .int)) (by decide) rfl ?_
  intro p e s m args below meth c s₁ B hml hv
  obtain ⟨rfl, hsz, hZ, hP, hK, hD0⟩ := hv
  have hx := B.exec
  have hb := B.bytes
  have hr := B.returns
  have hts := atoms_spec (ws := WL_begin) B.pre
  have hT : ∀ w ∈ TB, w.before _ s = true := fun w h => hts w (List.mem_cons_of_mem _ h)
  have hown : s.vm.findClass R_L = some m.cls := findClass_of_methodNamed B.named
  have htab := tx_table B (bytes := cL_begin) (maxL := 3) (ret := (some .int)) (hh := [(0, 5, 8, 13)]) (hts _ List.mem_cons_self)
  subst hsz
  have hD := hD0.self (sz := s.heap.size)
  generalize hAe : va_A ([] ++ pg cds ad gg) s.heap.size = A at hD hZ ⊢
  have hA : ∀ q : Nat, s.heap.size ≤ q → A q := fun q h => by rw [← hAe]; exact Or.inr h
  have hS : va_S A s.heap s.heap [] := va_S.rf
  have hl := lv_entry ([.ref (ad 0), .int k]) (n := 3) (Nat.le_of_ble_eq_true rfl)
  rw [lg_entry_eq]
  generalize (lg_sl ([.ref (ad 0), .int k]) ++ List.replicate (3 - (lg_sl ([.ref (ad 0), .int k])).length) Slot.unset).toArray = ls at hl ⊢
  have hl : lv_has ls 3 [(0, .ref (ad 0)), (1, .int k)] := hl
  refine lv_aload_n hx hb dL_begin_0 rfl (lv_at hl 0 rfl) ?_
  refine lv_iload_n hx hb dL_begin_1 rfl (lv_at hl 1 rfl) ?_
  refine hy_vP (X := []) (pl := pg cds ad gg) (cx := []) (wr := []) hP hD hS hA [] [] rfl rfl (by decide) (by decide) (va_runV (As := [.int k]) (rest := []) ⟨hx, hb, hml, hown, hT⟩ (k_begin l D cT cds ad gg tc wd9 rw9 pd pl9 pw pu pq9 psb pcb L0 fo k hcd hob htb hCa hCc hpl hOut hk6 _) ⟨callB_of 1 hT (tb_gd w507) rfl rfl rfl (hT _ w1) (hT _ w504) hR_begin ⟨Nat.le_of_ble_eq_true rfl, Nat.le_of_ble_eq_true rfl⟩, (hT _ w505), (hT _ w506)⟩ (RW.preW (ci := 0) (q0 := 0) hZ hS (va_freeP (cx := []) hD hS hA [] rfl) (hP.part (cx := []) [] rfl) hK (hD.part (cx := []) [] (by decide) rfl) (pg_1 (x := 0) hcd hP (by decide) hob) rfl rfl) rfl rfl hl.1 rfl (lv_room (Nat.le_of_ble_eq_true rfl)) dL_begin_2 ⟨Nat.le_of_ble_eq_true rfl, Nat.le_of_ble_eq_true rfl⟩) (fun u9 H locs hpu1 hP hD hS => ?_)
  obtain ⟨gg7u1, rfl⟩ : ∃ q9, q9 = u9 := ⟨_, rfl⟩
  have hpu1 : (∀ z8, z8 ≠ 0 → z8 ≠ 1 → z8 ≠ 4 → z8 ≠ 41 → (z8 < 10 ∨ 26 ≤ z8) → gg7u1 z8 = gg z8) ∧ gg7u1 0 = some (eOB ad (nI 0)) ∧ gg7u1 1 = some (eTB ad k (nI 0)) ∧ gg7u1 4 = some (ePL 2 1 0 1 2 (-1) (-1)) ∧ (∀ j8, j8 < 6 → ∃ fv fe : Nat → Int32, COLe cT ad gg7u1 j8 0 0 fv fe ∧ (∀ r8, r8 < 0 → fv r8 = 0) ∧ fv 48 = (-2147483648) ∧ ∀ q8, q8 < 0 → fe q8 = 0) ∧ gg7u1 41 = some (.inr (8, [.ref (ad 42), .int (nI 0), .ref (ad 43), .ref (ad 46)])) := hpu1
  have hP : va_P D vwCl ([] ++ pg cds ad gg7u1) _ := hP
  have hD : va_D A ([] ++ pg cds ad gg7u1) := hD
  refine lv_goto (tgt := 11) hx hb dL_begin_5 rfl ?_
  refine lv_iconst (v := 0) hx hb dL_begin_11 (by decide) ?_
  have hP9 : va_P D vwCl ([] ++ pg cds ad gg7u1) _ := hP.part (cx := []) [] rfl
  have hD9 : va_D A ([] ++ pg cds ad gg7u1) := hD.part (cx := []) [] (by decide) rfl
  refine W.widen (k := 0) (n := 0) (Nat.le_of_ble_eq_true rfl) (Nat.le_of_ble_eq_true rfl) ?_
  exact W.iret (v := 0) hx hb hr (fun t9 ht9 hW9 => ⟨⟨0, gg7u1, rfl, (show 0 = 0 ∧ (∀ z8, z8 ≠ 0 → z8 ≠ 1 → z8 ≠ 4 → z8 ≠ 41 → (z8 < 10 ∨ 26 ≤ z8) → gg7u1 z8 = gg z8) ∧ gg7u1 0 = some (eOB ad (nI 0)) ∧ gg7u1 1 = some (eTB ad k (nI 0)) ∧ gg7u1 4 = some (ePL 2 1 0 1 2 (-1) (-1)) ∧ (∀ j8, j8 < 6 → ∃ fv fe : Nat → Int32, COLe cT ad gg7u1 j8 0 0 fv fe ∧ (∀ r8, r8 < 0 → fv r8 = 0) ∧ fv 48 = (-2147483648) ∧ ∀ q8, q8 < 0 → fe q8 = 0) ∧ gg7u1 41 = some (.inr (8, [.ref (ad 42), .int (nI 0), .ref (ad 43), .ref (ad 46)])) from ⟨rfl, hpu1⟩), by rw [ht9]; exact hP9, hD9⟩, hS.F ht9⟩) hS.2.2 dL_begin_12
set_option maxHeartbeats 4000000 in
set_option maxRecDepth 100000 in
theorem l_begin_no (l : Launch) (D : va_G) (cT : Nat → ClassId) (cds : List Nat) (ad : Nat → Nat) (gg : Nat → Option va_E) (k : Int32) (tc : Int32) (hlt : l.stackTraces = false) (hcd : CD cds) (hob : gg 0 = some (eOB ad tc)) (hq : ¬ (1 ≤ k ∧ k ≤ 6)) (sz : Nat) : Met l yL_begin WL_begin ({ frames := 8, cells := 1, slots := 6, locals := 132 } : Room) (RW D vwCl [.ref (ad 0), .int k] ([] ++ pg cds ad gg) (TY cT) sz) (va_Qi (fun (r9 : Int32) (u9 : Unit) => r9 = 1) (BW D vwCl (va_A ([] ++ pg cds ad gg) sz) (fun u9 : Unit => ([] ++ pg cds ad gg))) (va_A ([] ++ pg cds ad gg) sz)) 1 6 (va_A ([] ++ pg cds ad gg) sz) := by
  refine va_MetW (hh := [(0, 5, 8, 13)]) (cc := cL_begin) (maxL := 3) (ret := (some .int)) (by decide) rfl ?_
  intro p e s m args below meth c s₁ B hml hv
  obtain ⟨rfl, hsz, hZ, hP, hK, hD0⟩ := hv
  have hx := B.exec
  have hb := B.bytes
  have hr := B.returns
  have hts := atoms_spec (ws := WL_begin) B.pre
  have hT : ∀ w ∈ TB, w.before _ s = true := fun w h => hts w (List.mem_cons_of_mem _ h)
  have hown : s.vm.findClass R_L = some m.cls := findClass_of_methodNamed B.named
  have htab := tx_table B (bytes := cL_begin) (maxL := 3) (ret := (some .int)) (hh := [(0, 5, 8, 13)]) (hts _ List.mem_cons_self)
  subst hsz
  have hD := hD0.self (sz := s.heap.size)
  generalize hAe : va_A ([] ++ pg cds ad gg) s.heap.size = A at hD hZ ⊢
  have hA : ∀ q : Nat, s.heap.size ≤ q → A q := fun q h => by rw [← hAe]; exact Or.inr h
  have hS : va_S A s.heap s.heap [] := va_S.rf
  have hl := lv_entry ([.ref (ad 0), .int k]) (n := 3) (Nat.le_of_ble_eq_true rfl)
  rw [lg_entry_eq]
  generalize (lg_sl ([.ref (ad 0), .int k]) ++ List.replicate (3 - (lg_sl ([.ref (ad 0), .int k])).length) Slot.unset).toArray = ls at hl ⊢
  have hl : lv_has ls 3 [(0, .ref (ad 0)), (1, .int k)] := hl
  refine lv_aload_n hx hb dL_begin_0 rfl (lv_at hl 0 rfl) ?_
  refine lv_iload_n hx hb dL_begin_1 rfl (lv_at hl 1 rfl) ?_
  refine tx_catch1 (name := "java/lang/IllegalArgumentException") (tx_goV (As := [.int k]) (rest := []) ⟨hx, hb, hml, hown, hT⟩ (k_begin_no l D cT cds ad gg k hlt hq) ⟨callB_of 1 hT (tb_gd w507) rfl rfl rfl (hT _ w1) (hT _ w504) hR_begin ⟨Nat.le_of_ble_eq_true rfl, Nat.le_of_ble_eq_true rfl⟩, (hT _ w505), (hT _ w506)⟩ (RO.preW (ci := 0) (q0 := 0) hZ hS ((show va_P D vwCl ([] ++ pg cds ad gg) _ from (pv_p hP))) hK (pg_1 (x := 0) hcd hP (by decide) hob) rfl rfl) rfl hl.1 rfl (Nat.le_of_ble_eq_true rfl) dL_begin_2 ⟨Nat.le_of_ble_eq_true rfl, Nat.le_of_ble_eq_true rfl⟩) hown htab rfl (by decide) (hT _ w503) (tc_c rfl (hZ.1.1 ("java/lang/IllegalArgumentException", "java/lang/IllegalArgumentException") (List.mem_of_getElem? (i := 0) rfl))) (fun q9 H hsz9 hag9 => ?_)
  have hP := tc_P hP hag9
  have hS := tc_S hS hsz9 hag9
  refine W.eq (g2 := F0 m 8 ls [.ref q9]) rfl ?_
  refine lv_astore_n hx hb dL_begin_8 rfl hl (by decide) rfl (fun ls hl => ?_)
  have hl : lv_has ls 3 [(2, .ref q9), (0, .ref (ad 0)), (1, .int k)] := hl
  refine lv_iconst (v := 1) hx hb dL_begin_9 (by decide) ?_
  have hP9 : va_P D vwCl ([] ++ pg cds ad gg) _ := hP.part (cx := []) [] rfl
  have hD9 : va_D A ([] ++ pg cds ad gg) := hD.part (cx := []) [] (by decide) rfl
  refine W.widen (k := 1) (n := 6) (Nat.le_of_ble_eq_true rfl) (Nat.le_of_ble_eq_true rfl) ?_
  exact W.iret (v := 1) hx hb hr (fun t9 ht9 hW9 => ⟨⟨1, (), rfl, (show 1 = 1 from rfl), by rw [ht9]; exact hP9, hD9⟩, hS.F ht9⟩) hS.2.2 dL_begin_10
set_option maxHeartbeats 4000000 in
set_option maxRecDepth 100000 in
theorem l_add (l : Launch) (D : va_G) (cT : Nat → ClassId) (cds : List Nat) (ad : Nat → Nat) (gg : Nat → Option va_E) (tc : Int32) (wd9 : Int32) (n : Nat) (vv : Nat → Int32) (vq : Nat → Int32) (eg : Nat → Int32) (ik : Nat → Int32) (ne : Nat → Nat) (tg : Nat → Int32) (v7 : Nat → Int32) (v : Int32) (zo : Nat) (zw : Nat → Int64) (hcd : CD cds) (hob : gg 0 = some (eOB ad tc)) (htb : gg 1 = some (eTB ad wd9 (nI n))) (hCa : CAp cT ad gg) (hCf : COLF cT ad gg n vv vq eg ik ne) (hTg : TGp cT gg n tg) (hn48 : n < 48) (hv71 : ∀ q, q < 6 → v7 (6 * n + q) = (-2147483648)) (hv72 : ∀ q, q < 6 * n → v7 q = vv q) (hv9 : (-1000) ≤ v ∧ v ≤ 1000) (sz : Nat) : Met l yL_add WL_add ({ frames := 3, cells := 0, slots := 0, locals := 63 } : Room) (RW D vwCl [.ref (ad 0), .int v, .ref zo] ([(zo, .inl (cT 1, 1, .inr (.inl zw)))] ++ pg cds ad gg) (TY cT) sz) (va_Qi (fun (r9 : Int32) (u9 : (Nat → Option va_E) × Int32) => r9 = 0 ∧ u9.2 = nI n ∧ (∀ z8, z8 ≠ 1 → z8 ≠ 3 → (z8 < 20 ∨ 26 ≤ z8) → u9.1 z8 = gg z8) ∧ u9.1 1 = some (eTB ad wd9 (nI (n + 1))) ∧ TGp cT u9.1 (n + 1) (upd tg n v) ∧ COLF cT ad u9.1 (n + 1) v7 vq eg ik ne) (BW D vwCl (va_A ([(zo, .inl (cT 1, 1, .inr (.inl zw)))] ++ pg cds ad gg) sz) (fun u9 : (Nat → Option va_E) × Int32 => ([(zo, .inl (cT 1, 1, .inr (.inl (vp_updL zw 0 (Int32.toInt64 u9.2)))))] ++ pg cds ad u9.1))) (va_A ([(zo, .inl (cT 1, 1, .inr (.inl zw)))] ++ pg cds ad gg) sz)) 0 0 (va_A ([(zo, .inl (cT 1, 1, .inr (.inl zw)))] ++ pg cds ad gg) sz) := by
  refine va_MetW (hh := [(0, 9, 12, 13), (0, 9, 15, 19)]) (cc := cL_add) (maxL := 4) (ret := (some .int)) (by decide) rfl ?_
  intro p e s m args below meth c s₁ B hml hv
  obtain ⟨rfl, hsz, hZ, hP, hK, hD0⟩ := hv
  have hx := B.exec
  have hb := B.bytes
  have hr := B.returns
  have hts := atoms_spec (ws := WL_add) B.pre
  have hT : ∀ w ∈ TB, w.before _ s = true := fun w h => hts w (List.mem_cons_of_mem _ h)
  have hown : s.vm.findClass R_L = some m.cls := findClass_of_methodNamed B.named
  have htab := tx_table B (bytes := cL_add) (maxL := 4) (ret := (some .int)) (hh := [(0, 9, 12, 13), (0, 9, 15, 19)]) (hts _ List.mem_cons_self)
  subst hsz
  have hD := hD0.self (sz := s.heap.size)
  generalize hAe : va_A ([(zo, .inl (cT 1, 1, .inr (.inl zw)))] ++ pg cds ad gg) s.heap.size = A at hD hZ ⊢
  have hA : ∀ q : Nat, s.heap.size ≤ q → A q := fun q h => by rw [← hAe]; exact Or.inr h
  have hS : va_S A s.heap s.heap [] := va_S.rf
  have hl := lv_entry ([.ref (ad 0), .int v, .ref zo]) (n := 4) (Nat.le_of_ble_eq_true rfl)
  rw [lg_entry_eq]
  generalize (lg_sl ([.ref (ad 0), .int v, .ref zo]) ++ List.replicate (4 - (lg_sl ([.ref (ad 0), .int v, .ref zo])).length) Slot.unset).toArray = ls at hl ⊢
  have hl : lv_has ls 4 [(0, .ref (ad 0)), (1, .int v), (2, .ref zo)] := hl
  refine lv_aload_n hx hb dL_add_0 rfl (lv_at hl 2 rfl) ?_
  refine lv_iconst (v := 0) hx hb dL_add_1 (by decide) ?_
  refine lv_aload_n hx hb dL_add_2 rfl (lv_at hl 0 rfl) ?_
  refine lv_iload_n hx hb dL_add_3 rfl (lv_at hl 1 rfl) ?_
  refine hy_iP (X := [(zo, .inl (cT 1, 1, .inr (.inl zw)))]) (pl := pg cds ad gg) (cx := []) (wr := [(zo, .inl (cT 1, 1, .inr (.inl zw)))]) hP hD hS hA [] [0] rfl rfl (by decide) (by decide) (va_runV (As := [.int v]) (rest := [.int 0, .ref zo]) ⟨hx, hb, hml, hown, hT⟩ (k_add l D cT cds ad gg tc wd9 n vv vq eg ik ne tg v7 v hcd hob htb hCa hCf hTg hn48 hv71 hv72 hv9 _) ⟨callB_of 1 hT (tb_gd w580) rfl rfl rfl (hT _ w1) (hT _ w577) hR_add ⟨Nat.le_of_ble_eq_true rfl, Nat.le_of_ble_eq_true rfl⟩, (hT _ w578), (hT _ w579)⟩ (RW.preW (ci := 0) (q0 := 0) hZ hS (va_freeP (cx := []) hD hS hA [] rfl) (hP.part (cx := []) [] rfl) hK (hD.part (cx := []) [] (by decide) rfl) (pg_1 (x := 0) hcd hP (by decide) hob) rfl rfl) rfl rfl hl.1 rfl (lv_room (Nat.le_of_ble_eq_true rfl)) dL_add_4 ⟨Nat.le_of_ble_eq_true rfl, Nat.le_of_ble_eq_true rfl⟩) (fun ru1 u9 H locs hpu1 hP hD hS => ?_)
  obtain ⟨gg7u1, rfl⟩ : ∃ q9, q9 = u9 := ⟨_, rfl⟩
  have hpu1 : ru1 = nI n ∧ (∀ z8, z8 ≠ 1 → z8 ≠ 3 → (z8 < 20 ∨ 26 ≤ z8) → gg7u1 z8 = gg z8) ∧ gg7u1 1 = some (eTB ad wd9 (nI (n + 1))) ∧ TGp cT gg7u1 (n + 1) (upd tg n v) ∧ COLF cT ad gg7u1 (n + 1) v7 vq eg ik ne := hpu1
  have hP : va_P D vwCl ([(zo, .inl (cT 1, 1, .inr (.inl zw)))] ++ pg cds ad gg7u1) _ := hP
  have hD : va_D A ([(zo, .inl (cT 1, 1, .inr (.inl zw)))] ++ pg cds ad gg7u1) := hD
  refine lv_i2l hx hb dL_add_7 rfl ?_
  refine va_last hx hb hK hP hD hS 0 1 rfl rfl (by unfold vp_in; decide) dL_add_8 (fun H locs hP hD hS => ?_)
  have hP : va_P D vwCl ([(zo, .inl (cT 1, 1, .inr (.inl (vp_updL zw 0 ((ru1 : Int32).toInt64)))))] ++ pg cds ad gg7u1) _ := hP
  have hD : va_D A ([(zo, .inl (cT 1, 1, .inr (.inl (vp_updL zw 0 ((ru1 : Int32).toInt64)))))] ++ pg cds ad gg7u1) := hD
  refine lv_goto (tgt := 18) hx hb dL_add_9 rfl ?_
  refine lv_iconst (v := 0) hx hb dL_add_18 (by decide) ?_
  have hP9 : va_P D vwCl ([(zo, .inl (cT 1, 1, .inr (.inl (vp_updL zw 0 (Int32.toInt64 ru1)))))] ++ pg cds ad gg7u1) _ := hP.part (cx := [(zo, .inl (cT 1, 1, .inr (.inl (vp_updL zw 0 (Int32.toInt64 ru1)))))]) [0] rfl
  have hD9 : va_D A ([(zo, .inl (cT 1, 1, .inr (.inl (vp_updL zw 0 (Int32.toInt64 ru1)))))] ++ pg cds ad gg7u1) := hD.part (cx := [(zo, .inl (cT 1, 1, .inr (.inl (vp_updL zw 0 (Int32.toInt64 ru1)))))]) [0] (by decide) rfl
  refine W.widen (k := 0) (n := 0) (Nat.le_of_ble_eq_true rfl) (Nat.le_of_ble_eq_true rfl) ?_
  exact W.iret (v := 0) hx hb hr (fun t9 ht9 hW9 => ⟨⟨0, (gg7u1, ru1), rfl, (show 0 = 0 ∧ ru1 = nI n ∧ (∀ z8, z8 ≠ 1 → z8 ≠ 3 → (z8 < 20 ∨ 26 ≤ z8) → gg7u1 z8 = gg z8) ∧ gg7u1 1 = some (eTB ad wd9 (nI (n + 1))) ∧ TGp cT gg7u1 (n + 1) (upd tg n v) ∧ COLF cT ad gg7u1 (n + 1) v7 vq eg ik ne from ⟨rfl, hpu1⟩), by rw [ht9]; exact hP9, hD9⟩, hS.F ht9⟩) hS.2.2 dL_add_19
set_option maxHeartbeats 4000000 in
set_option maxRecDepth 100000 in
theorem l_add_no1 (l : Launch) (D : va_G) (cT : Nat → ClassId) (cds : List Nat) (ad : Nat → Nat) (gg : Nat → Option va_E) (v : Int32) (tc : Int32) (zo : Nat) (zw : Nat → Int64) (hlt : l.stackTraces = false) (hcd : CD cds) (hob : gg 0 = some (eOB ad tc)) (hq : ¬ ((-1000) ≤ v ∧ v ≤ 1000)) (sz : Nat) : Met l yL_add WL_add ({ frames := 8, cells := 1, slots := 6, locals := 132 } : Room) (RW D vwCl [.ref (ad 0), .int v, .ref zo] ([(zo, .inl (cT 1, 1, .inr (.inl zw)))] ++ pg cds ad gg) (TY cT) sz) (va_Qi (fun (r9 : Int32) (u9 : Unit) => r9 = 1) (BW D vwCl (va_A ([(zo, .inl (cT 1, 1, .inr (.inl zw)))] ++ pg cds ad gg) sz) (fun u9 : Unit => ([(zo, .inl (cT 1, 1, .inr (.inl zw)))] ++ pg cds ad gg))) (va_A ([(zo, .inl (cT 1, 1, .inr (.inl zw)))] ++ pg cds ad gg) sz)) 1 6 (va_A ([(zo, .inl (cT 1, 1, .inr (.inl zw)))] ++ pg cds ad gg) sz) := by
  refine va_MetW (hh := [(0, 9, 12, 13), (0, 9, 15, 19)]) (cc := cL_add) (maxL := 4) (ret := (some .int)) (by decide) rfl ?_
  intro p e s m args below meth c s₁ B hml hv
  obtain ⟨rfl, hsz, hZ, hP, hK, hD0⟩ := hv
  have hx := B.exec
  have hb := B.bytes
  have hr := B.returns
  have hts := atoms_spec (ws := WL_add) B.pre
  have hT : ∀ w ∈ TB, w.before _ s = true := fun w h => hts w (List.mem_cons_of_mem _ h)
  have hown : s.vm.findClass R_L = some m.cls := findClass_of_methodNamed B.named
  have htab := tx_table B (bytes := cL_add) (maxL := 4) (ret := (some .int)) (hh := [(0, 9, 12, 13), (0, 9, 15, 19)]) (hts _ List.mem_cons_self)
  subst hsz
  have hD := hD0.self (sz := s.heap.size)
  generalize hAe : va_A ([(zo, .inl (cT 1, 1, .inr (.inl zw)))] ++ pg cds ad gg) s.heap.size = A at hD hZ ⊢
  have hA : ∀ q : Nat, s.heap.size ≤ q → A q := fun q h => by rw [← hAe]; exact Or.inr h
  have hS : va_S A s.heap s.heap [] := va_S.rf
  have hl := lv_entry ([.ref (ad 0), .int v, .ref zo]) (n := 4) (Nat.le_of_ble_eq_true rfl)
  rw [lg_entry_eq]
  generalize (lg_sl ([.ref (ad 0), .int v, .ref zo]) ++ List.replicate (4 - (lg_sl ([.ref (ad 0), .int v, .ref zo])).length) Slot.unset).toArray = ls at hl ⊢
  have hl : lv_has ls 4 [(0, .ref (ad 0)), (1, .int v), (2, .ref zo)] := hl
  refine lv_aload_n hx hb dL_add_0 rfl (lv_at hl 2 rfl) ?_
  refine lv_iconst (v := 0) hx hb dL_add_1 (by decide) ?_
  refine lv_aload_n hx hb dL_add_2 rfl (lv_at hl 0 rfl) ?_
  refine lv_iload_n hx hb dL_add_3 rfl (lv_at hl 1 rfl) ?_
  refine tx_catch1 (name := "java/lang/IllegalArgumentException") (tx_goV (As := [.int v]) (rest := [.int 0, .ref zo]) ⟨hx, hb, hml, hown, hT⟩ (k_add_no1 l D cT cds ad gg v hlt hq) ⟨callB_of 1 hT (tb_gd w580) rfl rfl rfl (hT _ w1) (hT _ w577) hR_add ⟨Nat.le_of_ble_eq_true rfl, Nat.le_of_ble_eq_true rfl⟩, (hT _ w578), (hT _ w579)⟩ (RO.preW (ci := 0) (q0 := 0) hZ hS ((show va_P D vwCl ([] ++ pg cds ad gg) _ from (pv_p hP))) hK (pg_1 (x := 0) hcd hP (by decide) hob) rfl rfl) rfl hl.1 rfl (Nat.le_of_ble_eq_true rfl) dL_add_4 ⟨Nat.le_of_ble_eq_true rfl, Nat.le_of_ble_eq_true rfl⟩) hown htab rfl (by decide) (hT _ w503) (tc_c rfl (hZ.1.1 ("java/lang/IllegalArgumentException", "java/lang/IllegalArgumentException") (List.mem_of_getElem? (i := 0) rfl))) (fun q9 H hsz9 hag9 => ?_)
  have hP := tc_P hP hag9
  have hS := tc_S hS hsz9 hag9
  refine W.eq (g2 := F0 m 12 ls [.ref q9]) rfl ?_
  refine lv_astore_n hx hb dL_add_12 rfl hl (by decide) rfl (fun ls hl => ?_)
  have hl : lv_has ls 4 [(3, .ref q9), (0, .ref (ad 0)), (1, .int v), (2, .ref zo)] := hl
  refine lv_iconst (v := 1) hx hb dL_add_13 (by decide) ?_
  have hP9 : va_P D vwCl ([(zo, .inl (cT 1, 1, .inr (.inl zw)))] ++ pg cds ad gg) _ := hP.part (cx := [(zo, .inl (cT 1, 1, .inr (.inl zw)))]) [0] rfl
  have hD9 : va_D A ([(zo, .inl (cT 1, 1, .inr (.inl zw)))] ++ pg cds ad gg) := hD.part (cx := [(zo, .inl (cT 1, 1, .inr (.inl zw)))]) [0] (by decide) rfl
  refine W.widen (k := 1) (n := 6) (Nat.le_of_ble_eq_true rfl) (Nat.le_of_ble_eq_true rfl) ?_
  exact W.iret (v := 1) hx hb hr (fun t9 ht9 hW9 => ⟨⟨1, (), rfl, (show 1 = 1 from rfl), by rw [ht9]; exact hP9, hD9⟩, hS.F ht9⟩) hS.2.2 dL_add_14
set_option maxHeartbeats 4000000 in
set_option maxRecDepth 100000 in
theorem l_add_no2 (l : Launch) (D : va_G) (cT : Nat → ClassId) (cds : List Nat) (ad : Nat → Nat) (gg : Nat → Option va_E) (tc : Int32) (wd9 : Int32) (v : Int32) (zo : Nat) (zw : Nat → Int64) (hlt : l.stackTraces = false) (hcd : CD cds) (hob : gg 0 = some (eOB ad tc)) (htb : gg 1 = some (eTB ad wd9 (nI 48))) (hv9 : (-1000) ≤ v ∧ v ≤ 1000) (sz : Nat) : Met l yL_add WL_add ({ frames := 8, cells := 1, slots := 6, locals := 132 } : Room) (RW D vwCl [.ref (ad 0), .int v, .ref zo] ([(zo, .inl (cT 1, 1, .inr (.inl zw)))] ++ pg cds ad gg) (TY cT) sz) (va_Qi (fun (r9 : Int32) (u9 : Unit) => r9 = 2) (BW D vwCl (va_A ([(zo, .inl (cT 1, 1, .inr (.inl zw)))] ++ pg cds ad gg) sz) (fun u9 : Unit => ([(zo, .inl (cT 1, 1, .inr (.inl zw)))] ++ pg cds ad gg))) (va_A ([(zo, .inl (cT 1, 1, .inr (.inl zw)))] ++ pg cds ad gg) sz)) 1 6 (va_A ([(zo, .inl (cT 1, 1, .inr (.inl zw)))] ++ pg cds ad gg) sz) := by
  refine va_MetW (hh := [(0, 9, 12, 13), (0, 9, 15, 19)]) (cc := cL_add) (maxL := 4) (ret := (some .int)) (by decide) rfl ?_
  intro p e s m args below meth c s₁ B hml hv
  obtain ⟨rfl, hsz, hZ, hP, hK, hD0⟩ := hv
  have hx := B.exec
  have hb := B.bytes
  have hr := B.returns
  have hts := atoms_spec (ws := WL_add) B.pre
  have hT : ∀ w ∈ TB, w.before _ s = true := fun w h => hts w (List.mem_cons_of_mem _ h)
  have hown : s.vm.findClass R_L = some m.cls := findClass_of_methodNamed B.named
  have htab := tx_table B (bytes := cL_add) (maxL := 4) (ret := (some .int)) (hh := [(0, 9, 12, 13), (0, 9, 15, 19)]) (hts _ List.mem_cons_self)
  subst hsz
  have hD := hD0.self (sz := s.heap.size)
  generalize hAe : va_A ([(zo, .inl (cT 1, 1, .inr (.inl zw)))] ++ pg cds ad gg) s.heap.size = A at hD hZ ⊢
  have hA : ∀ q : Nat, s.heap.size ≤ q → A q := fun q h => by rw [← hAe]; exact Or.inr h
  have hS : va_S A s.heap s.heap [] := va_S.rf
  have hl := lv_entry ([.ref (ad 0), .int v, .ref zo]) (n := 4) (Nat.le_of_ble_eq_true rfl)
  rw [lg_entry_eq]
  generalize (lg_sl ([.ref (ad 0), .int v, .ref zo]) ++ List.replicate (4 - (lg_sl ([.ref (ad 0), .int v, .ref zo])).length) Slot.unset).toArray = ls at hl ⊢
  have hl : lv_has ls 4 [(0, .ref (ad 0)), (1, .int v), (2, .ref zo)] := hl
  refine lv_aload_n hx hb dL_add_0 rfl (lv_at hl 2 rfl) ?_
  refine lv_iconst (v := 0) hx hb dL_add_1 (by decide) ?_
  refine lv_aload_n hx hb dL_add_2 rfl (lv_at hl 0 rfl) ?_
  refine lv_iload_n hx hb dL_add_3 rfl (lv_at hl 1 rfl) ?_
  refine tx_catch2 (name0 := "java/lang/IllegalArgumentException") (name := "java/lang/IllegalStateException") (tx_goV (As := [.int v]) (rest := [.int 0, .ref zo]) ⟨hx, hb, hml, hown, hT⟩ (k_add_no2 l D cT cds ad gg tc wd9 v hlt hcd hob htb hv9) ⟨callB_of 1 hT (tb_gd w580) rfl rfl rfl (hT _ w1) (hT _ w577) hR_add ⟨Nat.le_of_ble_eq_true rfl, Nat.le_of_ble_eq_true rfl⟩, (hT _ w578), (hT _ w579)⟩ (RO.preW (ci := 0) (q0 := 0) hZ hS ((show va_P D vwCl ([] ++ pg cds ad gg) _ from (pv_p hP))) hK (pg_1 (x := 0) hcd hP (by decide) hob) rfl rfl) rfl hl.1 rfl (Nat.le_of_ble_eq_true rfl) dL_add_4 ⟨Nat.le_of_ble_eq_true rfl, Nat.le_of_ble_eq_true rfl⟩) hown htab rfl (by decide) (hT _ w503) hZ.1.2.2.2.2 rfl (by decide) (hT _ w576) (tc_c rfl (hZ.1.1 ("java/lang/IllegalStateException", "java/lang/IllegalStateException") (List.mem_of_getElem? (i := 1) rfl))) (fun q9 H hsz9 hag9 => ?_)
  have hP := tc_P hP hag9
  have hS := tc_S hS hsz9 hag9
  refine W.eq (g2 := F0 m 15 ls [.ref q9]) rfl ?_
  refine lv_astore_n hx hb dL_add_15 rfl hl (by decide) rfl (fun ls hl => ?_)
  have hl : lv_has ls 4 [(3, .ref q9), (0, .ref (ad 0)), (1, .int v), (2, .ref zo)] := hl
  refine lv_iconst (v := 2) hx hb dL_add_16 (by decide) ?_
  have hP9 : va_P D vwCl ([(zo, .inl (cT 1, 1, .inr (.inl zw)))] ++ pg cds ad gg) _ := hP.part (cx := [(zo, .inl (cT 1, 1, .inr (.inl zw)))]) [0] rfl
  have hD9 : va_D A ([(zo, .inl (cT 1, 1, .inr (.inl zw)))] ++ pg cds ad gg) := hD.part (cx := [(zo, .inl (cT 1, 1, .inr (.inl zw)))]) [0] (by decide) rfl
  refine W.widen (k := 1) (n := 6) (Nat.le_of_ble_eq_true rfl) (Nat.le_of_ble_eq_true rfl) ?_
  exact W.iret (v := 2) hx hb hr (fun t9 ht9 hW9 => ⟨⟨2, (), rfl, (show 2 = 2 from rfl), by rw [ht9]; exact hP9, hD9⟩, hS.F ht9⟩) hS.2.2 dL_add_17
set_option maxHeartbeats 4000000 in
set_option maxRecDepth 100000 in
theorem l_put (l : Launch) (D : va_G) (cT : Nat → ClassId) (cds : List Nat) (ad : Nat → Nat) (gg : Nat → Option va_E) (tc : Int32) (wd9 : Int32) (rw9 : Int32) (n : Nat) (vv : Nat → Int32) (vq : Nat → Int32) (eg : Nat → Int32) (ik : Nat → Int32) (ne : Nat → Nat) (r : Nat) (c0 : Nat) (v : Int32) (zo : Nat) (zw : Nat → Int64) (hcd : CD cds) (hob : gg 0 = some (eOB ad tc)) (htb : gg 1 = some (eTB ad wd9 rw9)) (hCa : CAp cT ad gg) (hCf : COLF cT ad gg n vv vq eg ik ne) (hne : ∀ c, c < 6 → ne c ≤ 11) (hn48 : n ≤ 48) (hr0 : 0 ≤ nI r ∧ nI r ≤ rw9 - 1) (hrn : r < n) (hc0 : 0 ≤ nI c0 ∧ nI c0 ≤ wd9 - 1) (hc6 : c0 < 6) (hv9 : takB (ik c0) v = true) (sz : Nat) : Met l yL_put WL_put ({ frames := 4, cells := 0, slots := 0, locals := 86 } : Room) (RW D vwCl [.ref (ad 0), .int (nI r), .int (nI c0), .int v, .ref zo] ([(zo, .inl (cT 1, 1, .inr (.inl zw)))] ++ pg cds ad gg) (TY cT) sz) (va_Qi (fun (r9 : Int32) (u9 : (Nat → Option va_E) × Int32) => r9 = 0 ∧ u9.2 = vv (6 * r + c0) ∧ (∀ z8, (z8 < 10 ∨ 40 ≤ z8) → u9.1 z8 = gg z8) ∧ COLF cT ad u9.1 n (upd vv (6 * r + c0) v) vq eg ik ne) (BW D vwCl (va_A ([(zo, .inl (cT 1, 1, .inr (.inl zw)))] ++ pg cds ad gg) sz) (fun u9 : (Nat → Option va_E) × Int32 => ([(zo, .inl (cT 1, 1, .inr (.inl (vp_updL zw 0 (Int32.toInt64 u9.2)))))] ++ pg cds ad u9.1))) (va_A ([(zo, .inl (cT 1, 1, .inr (.inl zw)))] ++ pg cds ad gg) sz)) 0 0 (va_A ([(zo, .inl (cT 1, 1, .inr (.inl zw)))] ++ pg cds ad gg) sz) := by
  refine va_MetW (hh := [(0, 12, 15, 13)]) (cc := cL_put) (maxL := 6) (ret := (some .int)) (by decide) rfl ?_
  intro p e s m args below meth c s₁ B hml hv
  obtain ⟨rfl, hsz, hZ, hP, hK, hD0⟩ := hv
  have hx := B.exec
  have hb := B.bytes
  have hr := B.returns
  have hts := atoms_spec (ws := WL_put) B.pre
  have hT : ∀ w ∈ TB, w.before _ s = true := fun w h => hts w (List.mem_cons_of_mem _ h)
  have hown : s.vm.findClass R_L = some m.cls := findClass_of_methodNamed B.named
  have htab := tx_table B (bytes := cL_put) (maxL := 6) (ret := (some .int)) (hh := [(0, 12, 15, 13)]) (hts _ List.mem_cons_self)
  subst hsz
  have hD := hD0.self (sz := s.heap.size)
  generalize hAe : va_A ([(zo, .inl (cT 1, 1, .inr (.inl zw)))] ++ pg cds ad gg) s.heap.size = A at hD hZ ⊢
  have hA : ∀ q : Nat, s.heap.size ≤ q → A q := fun q h => by rw [← hAe]; exact Or.inr h
  have hS : va_S A s.heap s.heap [] := va_S.rf
  have hl := lv_entry ([.ref (ad 0), .int (nI r), .int (nI c0), .int v, .ref zo]) (n := 6) (Nat.le_of_ble_eq_true rfl)
  rw [lg_entry_eq]
  generalize (lg_sl ([.ref (ad 0), .int (nI r), .int (nI c0), .int v, .ref zo]) ++ List.replicate (6 - (lg_sl ([.ref (ad 0), .int (nI r), .int (nI c0), .int v, .ref zo])).length) Slot.unset).toArray = ls at hl ⊢
  have hl : lv_has ls 6 [(0, .ref (ad 0)), (1, .int (nI r)), (2, .int (nI c0)), (3, .int v), (4, .ref zo)] := hl
  refine lv_aload hx hb dL_put_0 (lv_at hl 4 rfl) ?_
  refine lv_iconst (v := 0) hx hb dL_put_2 (by decide) ?_
  refine lv_aload_n hx hb dL_put_3 rfl (lv_at hl 0 rfl) ?_
  refine lv_iload_n hx hb dL_put_4 rfl (lv_at hl 1 rfl) ?_
  refine lv_iload_n hx hb dL_put_5 rfl (lv_at hl 2 rfl) ?_
  refine lv_iload_n hx hb dL_put_6 rfl (lv_at hl 3 rfl) ?_
  refine hy_iP (X := [(zo, .inl (cT 1, 1, .inr (.inl zw)))]) (pl := pg cds ad gg) (cx := []) (wr := [(zo, .inl (cT 1, 1, .inr (.inl zw)))]) hP hD hS hA [] [0] rfl rfl (by decide) (by decide) (va_runV (As := [.int (nI r), .int (nI c0), .int v]) (rest := [.int 0, .ref zo]) ⟨hx, hb, hml, hown, hT⟩ (k_put l D cT cds ad gg tc wd9 rw9 n vv vq eg ik ne r c0 v hcd hob htb hCa hCf hne hn48 hr0 hrn hc0 hc6 hv9 _) ⟨callB_of 3 hT (tb_gd w612) rfl rfl rfl (hT _ w1) (hT _ w609) hR_put ⟨Nat.le_of_ble_eq_true rfl, Nat.le_of_ble_eq_true rfl⟩, (hT _ w610), (hT _ w611)⟩ (RW.preW (ci := 0) (q0 := 0) hZ hS (va_freeP (cx := []) hD hS hA [] rfl) (hP.part (cx := []) [] rfl) hK (hD.part (cx := []) [] (by decide) rfl) (pg_1 (x := 0) hcd hP (by decide) hob) rfl rfl) rfl rfl hl.1 rfl (lv_room (Nat.le_of_ble_eq_true rfl)) dL_put_7 ⟨Nat.le_of_ble_eq_true rfl, Nat.le_of_ble_eq_true rfl⟩) (fun ru1 u9 H locs hpu1 hP hD hS => ?_)
  obtain ⟨gg7u1, rfl⟩ : ∃ q9, q9 = u9 := ⟨_, rfl⟩
  have hpu1 : ru1 = vv (6 * r + c0) ∧ (∀ z8, (z8 < 10 ∨ 40 ≤ z8) → gg7u1 z8 = gg z8) ∧ COLF cT ad gg7u1 n (upd vv (6 * r + c0) v) vq eg ik ne := hpu1
  have hP : va_P D vwCl ([(zo, .inl (cT 1, 1, .inr (.inl zw)))] ++ pg cds ad gg7u1) _ := hP
  have hD : va_D A ([(zo, .inl (cT 1, 1, .inr (.inl zw)))] ++ pg cds ad gg7u1) := hD
  refine lv_i2l hx hb dL_put_10 rfl ?_
  refine va_last hx hb hK hP hD hS 0 1 rfl rfl (by unfold vp_in; decide) dL_put_11 (fun H locs hP hD hS => ?_)
  have hP : va_P D vwCl ([(zo, .inl (cT 1, 1, .inr (.inl (vp_updL zw 0 ((ru1 : Int32).toInt64)))))] ++ pg cds ad gg7u1) _ := hP
  have hD : va_D A ([(zo, .inl (cT 1, 1, .inr (.inl (vp_updL zw 0 ((ru1 : Int32).toInt64)))))] ++ pg cds ad gg7u1) := hD
  refine lv_goto (tgt := 19) hx hb dL_put_12 rfl ?_
  refine lv_iconst (v := 0) hx hb dL_put_19 (by decide) ?_
  have hP9 : va_P D vwCl ([(zo, .inl (cT 1, 1, .inr (.inl (vp_updL zw 0 (Int32.toInt64 ru1)))))] ++ pg cds ad gg7u1) _ := hP.part (cx := [(zo, .inl (cT 1, 1, .inr (.inl (vp_updL zw 0 (Int32.toInt64 ru1)))))]) [0] rfl
  have hD9 : va_D A ([(zo, .inl (cT 1, 1, .inr (.inl (vp_updL zw 0 (Int32.toInt64 ru1)))))] ++ pg cds ad gg7u1) := hD.part (cx := [(zo, .inl (cT 1, 1, .inr (.inl (vp_updL zw 0 (Int32.toInt64 ru1)))))]) [0] (by decide) rfl
  refine W.widen (k := 0) (n := 0) (Nat.le_of_ble_eq_true rfl) (Nat.le_of_ble_eq_true rfl) ?_
  exact W.iret (v := 0) hx hb hr (fun t9 ht9 hW9 => ⟨⟨0, (gg7u1, ru1), rfl, (show 0 = 0 ∧ ru1 = vv (6 * r + c0) ∧ (∀ z8, (z8 < 10 ∨ 40 ≤ z8) → gg7u1 z8 = gg z8) ∧ COLF cT ad gg7u1 n (upd vv (6 * r + c0) v) vq eg ik ne from ⟨rfl, hpu1⟩), by rw [ht9]; exact hP9, hD9⟩, hS.F ht9⟩) hS.2.2 dL_put_20
set_option maxHeartbeats 4000000 in
set_option maxRecDepth 100000 in
theorem l_put_no (l : Launch) (D : va_G) (cT : Nat → ClassId) (cds : List Nat) (ad : Nat → Nat) (gg : Nat → Option va_E) (tc : Int32) (wd9 : Int32) (rw9 : Int32) (a1 : Int32) (a2 : Int32) (a3 : Int32) (zo : Nat) (zw : Nat → Int64) (hlt : l.stackTraces = false) (hcd : CD cds) (hob : gg 0 = some (eOB ad tc)) (htb : gg 1 = some (eTB ad wd9 rw9)) (hq : ¬ ((0 ≤ a1 ∧ a1 ≤ rw9 - 1) ∧ (0 ≤ a2 ∧ a2 ≤ wd9 - 1))) (sz : Nat) : Met l yL_put WL_put ({ frames := 8, cells := 1, slots := 6, locals := 134 } : Room) (RW D vwCl [.ref (ad 0), .int a1, .int a2, .int a3, .ref zo] ([(zo, .inl (cT 1, 1, .inr (.inl zw)))] ++ pg cds ad gg) (TY cT) sz) (va_Qi (fun (r9 : Int32) (u9 : Unit) => r9 = 1) (BW D vwCl (va_A ([(zo, .inl (cT 1, 1, .inr (.inl zw)))] ++ pg cds ad gg) sz) (fun u9 : Unit => ([(zo, .inl (cT 1, 1, .inr (.inl zw)))] ++ pg cds ad gg))) (va_A ([(zo, .inl (cT 1, 1, .inr (.inl zw)))] ++ pg cds ad gg) sz)) 1 6 (va_A ([(zo, .inl (cT 1, 1, .inr (.inl zw)))] ++ pg cds ad gg) sz) := by
  refine va_MetW (hh := [(0, 12, 15, 13)]) (cc := cL_put) (maxL := 6) (ret := (some .int)) (by decide) rfl ?_
  intro p e s m args below meth c s₁ B hml hv
  obtain ⟨rfl, hsz, hZ, hP, hK, hD0⟩ := hv
  have hx := B.exec
  have hb := B.bytes
  have hr := B.returns
  have hts := atoms_spec (ws := WL_put) B.pre
  have hT : ∀ w ∈ TB, w.before _ s = true := fun w h => hts w (List.mem_cons_of_mem _ h)
  have hown : s.vm.findClass R_L = some m.cls := findClass_of_methodNamed B.named
  have htab := tx_table B (bytes := cL_put) (maxL := 6) (ret := (some .int)) (hh := [(0, 12, 15, 13)]) (hts _ List.mem_cons_self)
  subst hsz
  have hD := hD0.self (sz := s.heap.size)
  generalize hAe : va_A ([(zo, .inl (cT 1, 1, .inr (.inl zw)))] ++ pg cds ad gg) s.heap.size = A at hD hZ ⊢
  have hA : ∀ q : Nat, s.heap.size ≤ q → A q := fun q h => by rw [← hAe]; exact Or.inr h
  have hS : va_S A s.heap s.heap [] := va_S.rf
  have hl := lv_entry ([.ref (ad 0), .int a1, .int a2, .int a3, .ref zo]) (n := 6) (Nat.le_of_ble_eq_true rfl)
  rw [lg_entry_eq]
  generalize (lg_sl ([.ref (ad 0), .int a1, .int a2, .int a3, .ref zo]) ++ List.replicate (6 - (lg_sl ([.ref (ad 0), .int a1, .int a2, .int a3, .ref zo])).length) Slot.unset).toArray = ls at hl ⊢
  have hl : lv_has ls 6 [(0, .ref (ad 0)), (1, .int a1), (2, .int a2), (3, .int a3), (4, .ref zo)] := hl
  refine lv_aload hx hb dL_put_0 (lv_at hl 4 rfl) ?_
  refine lv_iconst (v := 0) hx hb dL_put_2 (by decide) ?_
  refine lv_aload_n hx hb dL_put_3 rfl (lv_at hl 0 rfl) ?_
  refine lv_iload_n hx hb dL_put_4 rfl (lv_at hl 1 rfl) ?_
  refine lv_iload_n hx hb dL_put_5 rfl (lv_at hl 2 rfl) ?_
  refine lv_iload_n hx hb dL_put_6 rfl (lv_at hl 3 rfl) ?_
  refine tx_catch1 (name := "java/lang/IllegalArgumentException") (tx_goV (As := [.int a1, .int a2, .int a3]) (rest := [.int 0, .ref zo]) ⟨hx, hb, hml, hown, hT⟩ (k_put_no l D cT cds ad gg tc wd9 rw9 a1 a2 a3 hlt hcd hob htb hq) ⟨callB_of 3 hT (tb_gd w612) rfl rfl rfl (hT _ w1) (hT _ w609) hR_put ⟨Nat.le_of_ble_eq_true rfl, Nat.le_of_ble_eq_true rfl⟩, (hT _ w610), (hT _ w611)⟩ (RO.preW (ci := 0) (q0 := 0) hZ hS ((show va_P D vwCl ([] ++ pg cds ad gg) _ from (pv_p hP))) hK (pg_1 (x := 0) hcd hP (by decide) hob) rfl rfl) rfl hl.1 rfl (Nat.le_of_ble_eq_true rfl) dL_put_7 ⟨Nat.le_of_ble_eq_true rfl, Nat.le_of_ble_eq_true rfl⟩) hown htab rfl (by decide) (hT _ w503) (tc_c rfl (hZ.1.1 ("java/lang/IllegalArgumentException", "java/lang/IllegalArgumentException") (List.mem_of_getElem? (i := 0) rfl))) (fun q9 H hsz9 hag9 => ?_)
  have hP := tc_P hP hag9
  have hS := tc_S hS hsz9 hag9
  refine W.eq (g2 := F0 m 15 ls [.ref q9]) rfl ?_
  refine lv_astore hx hb dL_put_15 hl (by decide) rfl (fun ls hl => ?_)
  have hl : lv_has ls 6 [(5, .ref q9), (0, .ref (ad 0)), (1, .int a1), (2, .int a2), (3, .int a3), (4, .ref zo)] := hl
  refine lv_iconst (v := 1) hx hb dL_put_17 (by decide) ?_
  have hP9 : va_P D vwCl ([(zo, .inl (cT 1, 1, .inr (.inl zw)))] ++ pg cds ad gg) _ := hP.part (cx := [(zo, .inl (cT 1, 1, .inr (.inl zw)))]) [0] rfl
  have hD9 : va_D A ([(zo, .inl (cT 1, 1, .inr (.inl zw)))] ++ pg cds ad gg) := hD.part (cx := [(zo, .inl (cT 1, 1, .inr (.inl zw)))]) [0] (by decide) rfl
  refine W.widen (k := 1) (n := 6) (Nat.le_of_ble_eq_true rfl) (Nat.le_of_ble_eq_true rfl) ?_
  exact W.iret (v := 1) hx hb hr (fun t9 ht9 hW9 => ⟨⟨1, (), rfl, (show 1 = 1 from rfl), by rw [ht9]; exact hP9, hD9⟩, hS.F ht9⟩) hS.2.2 dL_put_18
set_option maxHeartbeats 4000000 in
set_option maxRecDepth 100000 in
theorem l_put_nov (l : Launch) (D : va_G) (cT : Nat → ClassId) (cds : List Nat) (ad : Nat → Nat) (gg : Nat → Option va_E) (tc : Int32) (wd9 : Int32) (rw9 : Int32) (n : Nat) (vv : Nat → Int32) (vq : Nat → Int32) (eg : Nat → Int32) (ik : Nat → Int32) (ne : Nat → Nat) (a1 : Int32) (c0 : Nat) (v : Int32) (zo : Nat) (zw : Nat → Int64) (hlt : l.stackTraces = false) (hcd : CD cds) (hob : gg 0 = some (eOB ad tc)) (htb : gg 1 = some (eTB ad wd9 rw9)) (hCa : CAp cT ad gg) (hCf : COLF cT ad gg n vv vq eg ik ne) (hr0 : 0 ≤ a1 ∧ a1 ≤ rw9 - 1) (hc0 : 0 ≤ nI c0 ∧ nI c0 ≤ wd9 - 1) (hc6 : c0 < 6) (hv9 : takB (ik c0) v = false) (sz : Nat) : Met l yL_put WL_put ({ frames := 8, cells := 1, slots := 6, locals := 134 } : Room) (RW D vwCl [.ref (ad 0), .int a1, .int (nI c0), .int v, .ref zo] ([(zo, .inl (cT 1, 1, .inr (.inl zw)))] ++ pg cds ad gg) (TY cT) sz) (va_Qi (fun (r9 : Int32) (u9 : Unit) => r9 = 1) (BW D vwCl (va_A ([(zo, .inl (cT 1, 1, .inr (.inl zw)))] ++ pg cds ad gg) sz) (fun u9 : Unit => ([(zo, .inl (cT 1, 1, .inr (.inl zw)))] ++ pg cds ad gg))) (va_A ([(zo, .inl (cT 1, 1, .inr (.inl zw)))] ++ pg cds ad gg) sz)) 1 6 (va_A ([(zo, .inl (cT 1, 1, .inr (.inl zw)))] ++ pg cds ad gg) sz) := by
  refine va_MetW (hh := [(0, 12, 15, 13)]) (cc := cL_put) (maxL := 6) (ret := (some .int)) (by decide) rfl ?_
  intro p e s m args below meth c s₁ B hml hv
  obtain ⟨rfl, hsz, hZ, hP, hK, hD0⟩ := hv
  have hx := B.exec
  have hb := B.bytes
  have hr := B.returns
  have hts := atoms_spec (ws := WL_put) B.pre
  have hT : ∀ w ∈ TB, w.before _ s = true := fun w h => hts w (List.mem_cons_of_mem _ h)
  have hown : s.vm.findClass R_L = some m.cls := findClass_of_methodNamed B.named
  have htab := tx_table B (bytes := cL_put) (maxL := 6) (ret := (some .int)) (hh := [(0, 12, 15, 13)]) (hts _ List.mem_cons_self)
  subst hsz
  have hD := hD0.self (sz := s.heap.size)
  generalize hAe : va_A ([(zo, .inl (cT 1, 1, .inr (.inl zw)))] ++ pg cds ad gg) s.heap.size = A at hD hZ ⊢
  have hA : ∀ q : Nat, s.heap.size ≤ q → A q := fun q h => by rw [← hAe]; exact Or.inr h
  have hS : va_S A s.heap s.heap [] := va_S.rf
  have hl := lv_entry ([.ref (ad 0), .int a1, .int (nI c0), .int v, .ref zo]) (n := 6) (Nat.le_of_ble_eq_true rfl)
  rw [lg_entry_eq]
  generalize (lg_sl ([.ref (ad 0), .int a1, .int (nI c0), .int v, .ref zo]) ++ List.replicate (6 - (lg_sl ([.ref (ad 0), .int a1, .int (nI c0), .int v, .ref zo])).length) Slot.unset).toArray = ls at hl ⊢
  have hl : lv_has ls 6 [(0, .ref (ad 0)), (1, .int a1), (2, .int (nI c0)), (3, .int v), (4, .ref zo)] := hl
  refine lv_aload hx hb dL_put_0 (lv_at hl 4 rfl) ?_
  refine lv_iconst (v := 0) hx hb dL_put_2 (by decide) ?_
  refine lv_aload_n hx hb dL_put_3 rfl (lv_at hl 0 rfl) ?_
  refine lv_iload_n hx hb dL_put_4 rfl (lv_at hl 1 rfl) ?_
  refine lv_iload_n hx hb dL_put_5 rfl (lv_at hl 2 rfl) ?_
  refine lv_iload_n hx hb dL_put_6 rfl (lv_at hl 3 rfl) ?_
  refine tx_catch1 (name := "java/lang/IllegalArgumentException") (tx_goV (As := [.int a1, .int (nI c0), .int v]) (rest := [.int 0, .ref zo]) ⟨hx, hb, hml, hown, hT⟩ (k_put_nov l D cT cds ad gg tc wd9 rw9 n vv vq eg ik ne a1 c0 v hlt hcd hob htb hCa hCf hr0 hc0 hc6 hv9) ⟨callB_of 3 hT (tb_gd w612) rfl rfl rfl (hT _ w1) (hT _ w609) hR_put ⟨Nat.le_of_ble_eq_true rfl, Nat.le_of_ble_eq_true rfl⟩, (hT _ w610), (hT _ w611)⟩ (RO.preW (ci := 0) (q0 := 0) hZ hS ((show va_P D vwCl ([] ++ pg cds ad gg) _ from (pv_p hP))) hK (pg_1 (x := 0) hcd hP (by decide) hob) rfl rfl) rfl hl.1 rfl (Nat.le_of_ble_eq_true rfl) dL_put_7 ⟨Nat.le_of_ble_eq_true rfl, Nat.le_of_ble_eq_true rfl⟩) hown htab rfl (by decide) (hT _ w503) (tc_c rfl (hZ.1.1 ("java/lang/IllegalArgumentException", "java/lang/IllegalArgumentException") (List.mem_of_getElem? (i := 0) rfl))) (fun q9 H hsz9 hag9 => ?_)
  have hP := tc_P hP hag9
  have hS := tc_S hS hsz9 hag9
  refine W.eq (g2 := F0 m 15 ls [.ref q9]) rfl ?_
  refine lv_astore hx hb dL_put_15 hl (by decide) rfl (fun ls hl => ?_)
  have hl : lv_has ls 6 [(5, .ref q9), (0, .ref (ad 0)), (1, .int a1), (2, .int (nI c0)), (3, .int v), (4, .ref zo)] := hl
  refine lv_iconst (v := 1) hx hb dL_put_17 (by decide) ?_
  have hP9 : va_P D vwCl ([(zo, .inl (cT 1, 1, .inr (.inl zw)))] ++ pg cds ad gg) _ := hP.part (cx := [(zo, .inl (cT 1, 1, .inr (.inl zw)))]) [0] rfl
  have hD9 : va_D A ([(zo, .inl (cT 1, 1, .inr (.inl zw)))] ++ pg cds ad gg) := hD.part (cx := [(zo, .inl (cT 1, 1, .inr (.inl zw)))]) [0] (by decide) rfl
  refine W.widen (k := 1) (n := 6) (Nat.le_of_ble_eq_true rfl) (Nat.le_of_ble_eq_true rfl) ?_
  exact W.iret (v := 1) hx hb hr (fun t9 ht9 hW9 => ⟨⟨1, (), rfl, (show 1 = 1 from rfl), by rw [ht9]; exact hP9, hD9⟩, hS.F ht9⟩) hS.2.2 dL_put_18
set_option maxHeartbeats 4000000 in
set_option maxRecDepth 100000 in
theorem l_target (l : Launch) (D : va_G) (cT : Nat → ClassId) (cds : List Nat) (ad : Nat → Nat) (gg : Nat → Option va_E) (tc : Int32) (wd9 : Int32) (rw9 : Int32) (n : Nat) (tg : Nat → Int32) (r : Nat) (v : Int32) (zo : Nat) (zw : Nat → Int64) (hcd : CD cds) (hob : gg 0 = some (eOB ad tc)) (htb : gg 1 = some (eTB ad wd9 rw9)) (hTg : TGp cT gg n tg) (hn48 : n ≤ 48) (hr0 : 0 ≤ nI r ∧ nI r ≤ rw9 - 1) (hrn : r < n) (hv9 : (-1000) ≤ v ∧ v ≤ 1000) (sz : Nat) : Met l yL_target WL_target ({ frames := 3, cells := 0, slots := 0, locals := 66 } : Room) (RW D vwCl [.ref (ad 0), .int (nI r), .int v, .ref zo] ([(zo, .inl (cT 1, 1, .inr (.inl zw)))] ++ pg cds ad gg) (TY cT) sz) (va_Qi (fun (r9 : Int32) (u9 : (Nat → Option va_E) × Int32) => r9 = 0 ∧ u9.2 = tg r ∧ (∀ z8, z8 ≠ 3 → u9.1 z8 = gg z8) ∧ TGp cT u9.1 n (upd tg r v)) (BW D vwCl (va_A ([(zo, .inl (cT 1, 1, .inr (.inl zw)))] ++ pg cds ad gg) sz) (fun u9 : (Nat → Option va_E) × Int32 => ([(zo, .inl (cT 1, 1, .inr (.inl (vp_updL zw 0 (Int32.toInt64 u9.2)))))] ++ pg cds ad u9.1))) (va_A ([(zo, .inl (cT 1, 1, .inr (.inl zw)))] ++ pg cds ad gg) sz)) 0 0 (va_A ([(zo, .inl (cT 1, 1, .inr (.inl zw)))] ++ pg cds ad gg) sz) := by
  refine va_MetW (hh := [(0, 10, 13, 13)]) (cc := cL_target) (maxL := 5) (ret := (some .int)) (by decide) rfl ?_
  intro p e s m args below meth c s₁ B hml hv
  obtain ⟨rfl, hsz, hZ, hP, hK, hD0⟩ := hv
  have hx := B.exec
  have hb := B.bytes
  have hr := B.returns
  have hts := atoms_spec (ws := WL_target) B.pre
  have hT : ∀ w ∈ TB, w.before _ s = true := fun w h => hts w (List.mem_cons_of_mem _ h)
  have hown : s.vm.findClass R_L = some m.cls := findClass_of_methodNamed B.named
  have htab := tx_table B (bytes := cL_target) (maxL := 5) (ret := (some .int)) (hh := [(0, 10, 13, 13)]) (hts _ List.mem_cons_self)
  subst hsz
  have hD := hD0.self (sz := s.heap.size)
  generalize hAe : va_A ([(zo, .inl (cT 1, 1, .inr (.inl zw)))] ++ pg cds ad gg) s.heap.size = A at hD hZ ⊢
  have hA : ∀ q : Nat, s.heap.size ≤ q → A q := fun q h => by rw [← hAe]; exact Or.inr h
  have hS : va_S A s.heap s.heap [] := va_S.rf
  have hl := lv_entry ([.ref (ad 0), .int (nI r), .int v, .ref zo]) (n := 5) (Nat.le_of_ble_eq_true rfl)
  rw [lg_entry_eq]
  generalize (lg_sl ([.ref (ad 0), .int (nI r), .int v, .ref zo]) ++ List.replicate (5 - (lg_sl ([.ref (ad 0), .int (nI r), .int v, .ref zo])).length) Slot.unset).toArray = ls at hl ⊢
  have hl : lv_has ls 5 [(0, .ref (ad 0)), (1, .int (nI r)), (2, .int v), (3, .ref zo)] := hl
  refine lv_aload_n hx hb dL_target_0 rfl (lv_at hl 3 rfl) ?_
  refine lv_iconst (v := 0) hx hb dL_target_1 (by decide) ?_
  refine lv_aload_n hx hb dL_target_2 rfl (lv_at hl 0 rfl) ?_
  refine lv_iload_n hx hb dL_target_3 rfl (lv_at hl 1 rfl) ?_
  refine lv_iload_n hx hb dL_target_4 rfl (lv_at hl 2 rfl) ?_
  refine hy_iP (X := [(zo, .inl (cT 1, 1, .inr (.inl zw)))]) (pl := pg cds ad gg) (cx := []) (wr := [(zo, .inl (cT 1, 1, .inr (.inl zw)))]) hP hD hS hA [] [0] rfl rfl (by decide) (by decide) (va_runV (As := [.int (nI r), .int v]) (rest := [.int 0, .ref zo]) ⟨hx, hb, hml, hown, hT⟩ (k_target l D cT cds ad gg tc wd9 rw9 n tg r v hcd hob htb hTg hn48 hr0 hrn hv9 _) ⟨callB_of 2 hT (tb_gd w643) rfl rfl rfl (hT _ w1) (hT _ w640) hR_target ⟨Nat.le_of_ble_eq_true rfl, Nat.le_of_ble_eq_true rfl⟩, (hT _ w641), (hT _ w642)⟩ (RW.preW (ci := 0) (q0 := 0) hZ hS (va_freeP (cx := []) hD hS hA [] rfl) (hP.part (cx := []) [] rfl) hK (hD.part (cx := []) [] (by decide) rfl) (pg_1 (x := 0) hcd hP (by decide) hob) rfl rfl) rfl rfl hl.1 rfl (lv_room (Nat.le_of_ble_eq_true rfl)) dL_target_5 ⟨Nat.le_of_ble_eq_true rfl, Nat.le_of_ble_eq_true rfl⟩) (fun ru1 u9 H locs hpu1 hP hD hS => ?_)
  obtain ⟨gg7u1, rfl⟩ : ∃ q9, q9 = u9 := ⟨_, rfl⟩
  have hpu1 : ru1 = tg r ∧ (∀ z8, z8 ≠ 3 → gg7u1 z8 = gg z8) ∧ TGp cT gg7u1 n (upd tg r v) := hpu1
  have hP : va_P D vwCl ([(zo, .inl (cT 1, 1, .inr (.inl zw)))] ++ pg cds ad gg7u1) _ := hP
  have hD : va_D A ([(zo, .inl (cT 1, 1, .inr (.inl zw)))] ++ pg cds ad gg7u1) := hD
  refine lv_i2l hx hb dL_target_8 rfl ?_
  refine va_last hx hb hK hP hD hS 0 1 rfl rfl (by unfold vp_in; decide) dL_target_9 (fun H locs hP hD hS => ?_)
  have hP : va_P D vwCl ([(zo, .inl (cT 1, 1, .inr (.inl (vp_updL zw 0 ((ru1 : Int32).toInt64)))))] ++ pg cds ad gg7u1) _ := hP
  have hD : va_D A ([(zo, .inl (cT 1, 1, .inr (.inl (vp_updL zw 0 ((ru1 : Int32).toInt64)))))] ++ pg cds ad gg7u1) := hD
  refine lv_goto (tgt := 17) hx hb dL_target_10 rfl ?_
  refine lv_iconst (v := 0) hx hb dL_target_17 (by decide) ?_
  have hP9 : va_P D vwCl ([(zo, .inl (cT 1, 1, .inr (.inl (vp_updL zw 0 (Int32.toInt64 ru1)))))] ++ pg cds ad gg7u1) _ := hP.part (cx := [(zo, .inl (cT 1, 1, .inr (.inl (vp_updL zw 0 (Int32.toInt64 ru1)))))]) [0] rfl
  have hD9 : va_D A ([(zo, .inl (cT 1, 1, .inr (.inl (vp_updL zw 0 (Int32.toInt64 ru1)))))] ++ pg cds ad gg7u1) := hD.part (cx := [(zo, .inl (cT 1, 1, .inr (.inl (vp_updL zw 0 (Int32.toInt64 ru1)))))]) [0] (by decide) rfl
  refine W.widen (k := 0) (n := 0) (Nat.le_of_ble_eq_true rfl) (Nat.le_of_ble_eq_true rfl) ?_
  exact W.iret (v := 0) hx hb hr (fun t9 ht9 hW9 => ⟨⟨0, (gg7u1, ru1), rfl, (show 0 = 0 ∧ ru1 = tg r ∧ (∀ z8, z8 ≠ 3 → gg7u1 z8 = gg z8) ∧ TGp cT gg7u1 n (upd tg r v) from ⟨rfl, hpu1⟩), by rw [ht9]; exact hP9, hD9⟩, hS.F ht9⟩) hS.2.2 dL_target_18
set_option maxHeartbeats 4000000 in
set_option maxRecDepth 100000 in
theorem l_target_no (l : Launch) (D : va_G) (cT : Nat → ClassId) (cds : List Nat) (ad : Nat → Nat) (gg : Nat → Option va_E) (tc : Int32) (wd9 : Int32) (rw9 : Int32) (a1 : Int32) (v : Int32) (zo : Nat) (zw : Nat → Int64) (hlt : l.stackTraces = false) (hcd : CD cds) (hob : gg 0 = some (eOB ad tc)) (htb : gg 1 = some (eTB ad wd9 rw9)) (hq : ¬ ((0 ≤ a1 ∧ a1 ≤ rw9 - 1) ∧ ((-1000) ≤ v ∧ v ≤ 1000))) (sz : Nat) : Met l yL_target WL_target ({ frames := 8, cells := 1, slots := 6, locals := 134 } : Room) (RW D vwCl [.ref (ad 0), .int a1, .int v, .ref zo] ([(zo, .inl (cT 1, 1, .inr (.inl zw)))] ++ pg cds ad gg) (TY cT) sz) (va_Qi (fun (r9 : Int32) (u9 : Unit) => r9 = 1) (BW D vwCl (va_A ([(zo, .inl (cT 1, 1, .inr (.inl zw)))] ++ pg cds ad gg) sz) (fun u9 : Unit => ([(zo, .inl (cT 1, 1, .inr (.inl zw)))] ++ pg cds ad gg))) (va_A ([(zo, .inl (cT 1, 1, .inr (.inl zw)))] ++ pg cds ad gg) sz)) 1 6 (va_A ([(zo, .inl (cT 1, 1, .inr (.inl zw)))] ++ pg cds ad gg) sz) := by
  refine va_MetW (hh := [(0, 10, 13, 13)]) (cc := cL_target) (maxL := 5) (ret := (some .int)) (by decide) rfl ?_
  intro p e s m args below meth c s₁ B hml hv
  obtain ⟨rfl, hsz, hZ, hP, hK, hD0⟩ := hv
  have hx := B.exec
  have hb := B.bytes
  have hr := B.returns
  have hts := atoms_spec (ws := WL_target) B.pre
  have hT : ∀ w ∈ TB, w.before _ s = true := fun w h => hts w (List.mem_cons_of_mem _ h)
  have hown : s.vm.findClass R_L = some m.cls := findClass_of_methodNamed B.named
  have htab := tx_table B (bytes := cL_target) (maxL := 5) (ret := (some .int)) (hh := [(0, 10, 13, 13)]) (hts _ List.mem_cons_self)
  subst hsz
  have hD := hD0.self (sz := s.heap.size)
  generalize hAe : va_A ([(zo, .inl (cT 1, 1, .inr (.inl zw)))] ++ pg cds ad gg) s.heap.size = A at hD hZ ⊢
  have hA : ∀ q : Nat, s.heap.size ≤ q → A q := fun q h => by rw [← hAe]; exact Or.inr h
  have hS : va_S A s.heap s.heap [] := va_S.rf
  have hl := lv_entry ([.ref (ad 0), .int a1, .int v, .ref zo]) (n := 5) (Nat.le_of_ble_eq_true rfl)
  rw [lg_entry_eq]
  generalize (lg_sl ([.ref (ad 0), .int a1, .int v, .ref zo]) ++ List.replicate (5 - (lg_sl ([.ref (ad 0), .int a1, .int v, .ref zo])).length) Slot.unset).toArray = ls at hl ⊢
  have hl : lv_has ls 5 [(0, .ref (ad 0)), (1, .int a1), (2, .int v), (3, .ref zo)] := hl
  refine lv_aload_n hx hb dL_target_0 rfl (lv_at hl 3 rfl) ?_
  refine lv_iconst (v := 0) hx hb dL_target_1 (by decide) ?_
  refine lv_aload_n hx hb dL_target_2 rfl (lv_at hl 0 rfl) ?_
  refine lv_iload_n hx hb dL_target_3 rfl (lv_at hl 1 rfl) ?_
  refine lv_iload_n hx hb dL_target_4 rfl (lv_at hl 2 rfl) ?_
  refine tx_catch1 (name := "java/lang/IllegalArgumentException") (tx_goV (As := [.int a1, .int v]) (rest := [.int 0, .ref zo]) ⟨hx, hb, hml, hown, hT⟩ (k_target_no l D cT cds ad gg tc wd9 rw9 a1 v hlt hcd hob htb hq) ⟨callB_of 2 hT (tb_gd w643) rfl rfl rfl (hT _ w1) (hT _ w640) hR_target ⟨Nat.le_of_ble_eq_true rfl, Nat.le_of_ble_eq_true rfl⟩, (hT _ w641), (hT _ w642)⟩ (RO.preW (ci := 0) (q0 := 0) hZ hS ((show va_P D vwCl ([] ++ pg cds ad gg) _ from (pv_p hP))) hK (pg_1 (x := 0) hcd hP (by decide) hob) rfl rfl) rfl hl.1 rfl (Nat.le_of_ble_eq_true rfl) dL_target_5 ⟨Nat.le_of_ble_eq_true rfl, Nat.le_of_ble_eq_true rfl⟩) hown htab rfl (by decide) (hT _ w503) (tc_c rfl (hZ.1.1 ("java/lang/IllegalArgumentException", "java/lang/IllegalArgumentException") (List.mem_of_getElem? (i := 0) rfl))) (fun q9 H hsz9 hag9 => ?_)
  have hP := tc_P hP hag9
  have hS := tc_S hS hsz9 hag9
  refine W.eq (g2 := F0 m 13 ls [.ref q9]) rfl ?_
  refine lv_astore hx hb dL_target_13 hl (by decide) rfl (fun ls hl => ?_)
  have hl : lv_has ls 5 [(4, .ref q9), (0, .ref (ad 0)), (1, .int a1), (2, .int v), (3, .ref zo)] := hl
  refine lv_iconst (v := 1) hx hb dL_target_15 (by decide) ?_
  have hP9 : va_P D vwCl ([(zo, .inl (cT 1, 1, .inr (.inl zw)))] ++ pg cds ad gg) _ := hP.part (cx := [(zo, .inl (cT 1, 1, .inr (.inl zw)))]) [0] rfl
  have hD9 : va_D A ([(zo, .inl (cT 1, 1, .inr (.inl zw)))] ++ pg cds ad gg) := hD.part (cx := [(zo, .inl (cT 1, 1, .inr (.inl zw)))]) [0] (by decide) rfl
  refine W.widen (k := 1) (n := 6) (Nat.le_of_ble_eq_true rfl) (Nat.le_of_ble_eq_true rfl) ?_
  exact W.iret (v := 1) hx hb hr (fun t9 ht9 hW9 => ⟨⟨1, (), rfl, (show 1 = 1 from rfl), by rw [ht9]; exact hP9, hD9⟩, hS.F ht9⟩) hS.2.2 dL_target_16
