/-! THE CLAIM OUT OF ONE WALK OF THE LAW'S BODY. Your part is whole_start (and what it stands on); all else here is the same for every law, but numbers. -/
def R_law : String := "ResidualTreesLaw"
def lw_P (b : Addr) (xs : List Int32) (args : Array Value) (s : State) : Prop := args = #[.ref b] ∧ s.IntsAt b xs ∧ xs.length ≤ 2048 ∧ (Jvm.Cond.and given_1 narrow_1).before args s = true
def lw_Q (_ : Array Value) (s : State) (o : Outcome) (t : State) : Prop := o = .returned (some (.int 1)) ∧ Framed s o t [] 601024 7293034
def lw_Z (below : List Frame) (a : Array Value) (s : State) : State → Prop := fun t => ∃ o, t.status = .running ∧ Ended t below o ∧ lw_Q a s o t
/-- the law's own end, with 1 on the stack, nothing written that was there before, its room as the claim has it -/
theorem lw_ret {p : Program} {l : Launch} {e : Env} {s : State} {m : MethodId} {below : List Frame} {meth : Method} {c : Code} {b : Nat} (hx : p.tables.exec = Jvm.exec) (hb : c.code = code) (hr : meth.sig.returnType = ret) (hlocks : meth.locks = false) {pc : Nat} {H : Heap} {ls : Array Slot} (hdg : decode code pc = .ok (.ireturn, 1)) : W p l e room_1 s m #[Value.ref b] below meth c H [] 601024 7293034 (lw_Z below #[Value.ref b] s) (F0 m pc ls [.int 1]) := by
  intro T hT X
  obtain ⟨fs, hret, hrun, hended, hW, hframe⟩ := X.leave (v := some (.int 1)) (hlocks := hlocks) (fun h => by rw [hr] at h; cases h)
  have hmeth' : T.vm.method? m = some meth := X.method'
  refine ⟨T.setFrames fs, ?_, .returned (some (.int 1)), hrun, hended, rfl, ⟨_, rfl⟩, hW, hframe⟩
  jvm_step X.here [X.here.top, hx, hb, hdg, hmeth', hr, ret, narrow_b1]
  (try refine ⟨rfl, ?_⟩); (try refine ⟨rfl, ?_⟩)
  first | (intro acts; rw [hret _ acts rfl rfl rfl]) | rw [hret _ _ rfl rfl rfl]
  exact Steps.refl _
/-- what holds at the law's entry: the machine, the code, the tables' words (any of lw_tbl by 'hts w (by decide +kernel)'), the script of L ints xs at the cell b, what the Statement gives of the start (any of its parts by flat_of_before) -/
def lw_At (p : Program) (s : State) (m : MethodId) (meth : Method) (c : Code) (b L : Nat) (xs : Nat → Int32) : Prop :=
  p.tables.exec = Jvm.exec ∧ c.code = code ∧ meth.sig.returnType = ret ∧ c.maxLocals = 7 ∧ s.vm.findClass R_law = some m.cls ∧ (∀ w ∈ lw_tbl, w.before #[Value.ref b] s = true) ∧ va_X b L xs s s.heap ∧ b < s.heap.size ∧ meth.locks = false ∧ (Jvm.Cond.and given_1 narrow_1).before #[Value.ref b] s = true

theorem lo_ty {s : State} {args : Array Value} {t : FieldType} (h : (Cond.arrayClass t).before args s = true) : ∃ cA : ClassId, ArrOfT s cA t ∧ s.vm.findClass ("[" ++ t.toString) = some cA := by
  obtain ⟨cA, k, comp, h1, h2, h3⟩ := Cond.arrayClass_spec h
  exact ⟨cA, fun n z => ⟨fun k h => (by cases h), k, h2, comp, h3⟩, h1⟩
theorem lo_tq {s : State} {args : Array Value} {C : String} (h : (Cond.arrayOver (.object C)).before args s = true) : ∃ cA : ClassId, ArrOfT s cA (.object C) ∧ va_RA s cA (.object C) := by
  obtain ⟨comp, cA, k, h1, h2, h3, h4, h5⟩ := Cond.arrayOver_spec h
  exact ⟨cA, fun n z => ⟨fun k h => (by cases h), k, h3, comp, h4⟩, k, comp, h3, h4, h1, h5⟩
theorem lo_K {s : State} {args : Array Value} (hT : ∀ w ∈ TB, w.before args s = true) (hO : ∀ C ∈ za, va_AO C s) : ∃ (D : va_G) (cT : Nat → ClassId), va_K D vwCl (TY cT) s := by
  obtain ⟨c0, i0, k0⟩ := u_known (ws := TB) (C := R_R) (T := T_R) (N := 13) hT in_R (hT _ w30)
  obtain ⟨c1, i1, k1⟩ := u_known (ws := TB) (C := R_C) (T := T_C) (N := 4) hT in_C (hT _ w45)
  obtain ⟨c2, i2, k2⟩ := u_known (ws := TB) (C := R_T) (T := T_T) (N := 4) hT in_T (hT _ w38)
  obtain ⟨c3, i3, k3⟩ := u_known (ws := TB) (C := R_P) (T := T_P) (N := 7) hT in_P (hT _ w94)
  obtain ⟨c4, i4, k4⟩ := u_known (ws := TB) (C := R_W) (T := T_W) (N := 3) hT in_W (hT _ w140)
  obtain ⟨c5, i5, k5⟩ := u_known (ws := TB) (C := R_G) (T := T_G) (N := 2) hT in_G (hT _ w165)
  obtain ⟨c6, i6, k6⟩ := u_known (ws := TB) (C := R_S) (T := T_S) (N := 7) hT in_S (hT _ w184)
  obtain ⟨c7, i7, k7⟩ := u_known (ws := TB) (C := R_Gr) (T := T_Gr) (N := 13) hT in_Gr (hT _ w158)
  obtain ⟨c8, i8, k8⟩ := u_known (ws := TB) (C := R_O) (T := T_O) (N := 4) hT in_O (hT _ w281)
  obtain ⟨c9, i9, k9⟩ := u_known (ws := TB) (C := R_Tr) (T := T_Tr) (N := 6) hT in_Tr (hT _ w723)
  obtain ⟨c10, i10, k10⟩ := u_known (ws := TB) (C := R_N) (T := T_N) (N := 9) hT in_N (hT _ w822)
  obtain ⟨c11, i11, k11⟩ := u_known (ws := TB) (C := R_M) (T := T_M) (N := 60) hT in_M (hT _ w1092)
  obtain ⟨c12, i12, k12⟩ := u_known (ws := TB) (C := R_AL) (T := T_AL) (N := 3) hT in_AL (hT _ w255)
  obtain ⟨t0, a0, r0⟩ := lo_ty (hT _ w72)
  obtain ⟨t1, a1, r1⟩ := lo_ty (hT _ w1286)
  obtain ⟨t2, a2, r2⟩ := lo_ty (hT _ w305)
  obtain ⟨t3, a3, r3⟩ := lo_ty (hT _ w1285)
  obtain ⟨t4, a4, r4⟩ := lo_tq (args := args) (va_AO.use (hO "ResidualTrees$Whole" (List.mem_of_getElem? (i := 1) rfl)))
  obtain ⟨t5, a5, r5⟩ := lo_tq (args := args) (va_AO.use (hO "ResidualTrees$Column" (List.mem_of_getElem? (i := 0) rfl)))
  obtain ⟨t6, a6, r6⟩ := lo_tq (args := args) (va_AO.use (hO "ResidualTrees$Group" (List.mem_of_getElem? (i := 2) rfl)))
  obtain ⟨t7, a7, r7⟩ := lo_tq (args := args) (va_AO.use (hO "java/lang/Object" (List.mem_of_getElem? (i := 3) rfl)))
  refine ⟨(fun k => match k with | 0 => c0 | 1 => c1 | 2 => c2 | 3 => c3 | 4 => c4 | 5 => c5 | 6 => c6 | 7 => c7 | 8 => c8 | 9 => c9 | 10 => c10 | 11 => c11 | 12 => c12 | _ => c0, fun k => match k with | 0 => i0 | 1 => i1 | 2 => i2 | 3 => i3 | 4 => i4 | 5 => i5 | 6 => i6 | 7 => i7 | 8 => i8 | 9 => i9 | 10 => i10 | 11 => i11 | 12 => i12 | _ => i0), (fun k => match k with | 0 => t0 | 1 => t1 | 2 => t2 | 3 => t3 | 4 => t4 | 5 => t5 | 6 => t6 | 7 => t7 | _ => t0), ⟨fun c q hq => ?_, fun k q hq => ?_⟩⟩
  · match c, hq with
    | 0, hq => cases hq; exact k0
    | 1, hq => cases hq; exact k1
    | 2, hq => cases hq; exact k2
    | 3, hq => cases hq; exact k3
    | 4, hq => cases hq; exact k4
    | 5, hq => cases hq; exact k5
    | 6, hq => cases hq; exact k6
    | 7, hq => cases hq; exact k7
    | 8, hq => cases hq; exact k8
    | 9, hq => cases hq; exact k9
    | 10, hq => cases hq; exact k10
    | 11, hq => cases hq; exact k11
    | 12, hq => cases hq; exact k12
    | z + 13, hq => exact absurd (List.getElem?_eq_some_iff.mp hq).1 (by show ¬ z + 13 < 13; omega)
  · match k, hq with
    | 0, hq => cases hq; exact ⟨a0, r0⟩
    | 1, hq => cases hq; exact ⟨a1, r1⟩
    | 2, hq => cases hq; exact ⟨a2, r2⟩
    | 3, hq => cases hq; exact ⟨a3, r3⟩
    | 4, hq => cases hq; exact ⟨a4, r4⟩
    | 5, hq => cases hq; exact ⟨a5, r5⟩
    | 6, hq => cases hq; exact ⟨a6, r6⟩
    | 7, hq => cases hq; exact ⟨a7, r7⟩
    | z + 8, hq => exact absurd (List.getElem?_eq_some_iff.mp hq).1 (by show ¬ z + 8 < 8; omega)

theorem lz_1 {w : Cond} (i : Nat) (h : tables_1_1[i]? = some w) : w ∈ lw_tbl := List.mem_append_right _ (by unfold tables_1; exact List.mem_append_left _ (List.mem_of_getElem? h))
theorem lz_2 {w : Cond} (i : Nat) (h : tables_1_2[i]? = some w) : w ∈ lw_tbl := List.mem_append_right _ (by unfold tables_1; exact List.mem_append_right _ (List.mem_append_left _ (List.mem_of_getElem? h)))
theorem lz_3 {w : Cond} (i : Nat) (h : tables_1_3[i]? = some w) : w ∈ lw_tbl := List.mem_append_right _ (by unfold tables_1; exact List.mem_append_right _ (List.mem_append_right _ (List.mem_append_left _ (List.mem_of_getElem? h))))
theorem lz_4 {w : Cond} (i : Nat) (h : tables_1_4[i]? = some w) : w ∈ lw_tbl := List.mem_append_right _ (by unfold tables_1; exact List.mem_append_right _ (List.mem_append_right _ (List.mem_append_right _ (List.mem_append_left _ (List.mem_of_getElem? h)))))
theorem lz_5 {w : Cond} (i : Nat) (h : tables_1_5[i]? = some w) : w ∈ lw_tbl := List.mem_append_right _ (by unfold tables_1; exact List.mem_append_right _ (List.mem_append_right _ (List.mem_append_right _ (List.mem_append_right _ (List.mem_append_left _ (List.mem_of_getElem? h))))))
theorem lz_6 {w : Cond} (i : Nat) (h : tables_1_6[i]? = some w) : w ∈ lw_tbl := List.mem_append_right _ (by unfold tables_1; exact List.mem_append_right _ (List.mem_append_right _ (List.mem_append_right _ (List.mem_append_right _ (List.mem_append_right _ (List.mem_append_left _ (List.mem_of_getElem? h)))))))
theorem lz_7 {w : Cond} (i : Nat) (h : tables_1_7[i]? = some w) : w ∈ lw_tbl := List.mem_append_right _ (by unfold tables_1; exact List.mem_append_right _ (List.mem_append_right _ (List.mem_append_right _ (List.mem_append_right _ (List.mem_append_right _ (List.mem_append_right _ (List.mem_of_getElem? h)))))))
theorem lz_c : ∀ q ∈ zc, (.castable q.1 q.2 : Cond) ∈ lw_tbl := by
  intro q hq
  unfold zc at hq
  rcases List.mem_cons.mp hq with rfl | hq
  · exact lz_3 33 rfl
  rcases List.mem_cons.mp hq with rfl | hq
  · exact lz_3 109 rfl
  rcases List.mem_cons.mp hq with rfl | hq
  · exact lz_7 154 rfl
  rcases List.mem_cons.mp hq with rfl | hq
  · exact lz_7 155 rfl
  rcases List.mem_cons.mp hq with rfl | hq
  · exact lz_7 159 rfl
  rcases List.mem_cons.mp hq with rfl | hq
  · exact lz_7 160 rfl
  rcases List.mem_cons.mp hq with rfl | hq
  · exact lz_7 161 rfl
  rcases List.mem_cons.mp hq with rfl | hq
  · exact lz_7 162 rfl
  rcases List.mem_cons.mp hq with rfl | hq
  · exact lz_7 163 rfl
  rcases List.mem_cons.mp hq with rfl | hq
  · exact lz_7 164 rfl
  rcases List.mem_cons.mp hq with rfl | hq
  · exact lz_7 165 rfl
  rcases List.mem_cons.mp hq with rfl | hq
  · exact lz_7 166 rfl
  rcases List.mem_cons.mp hq with rfl | hq
  · exact lz_7 167 rfl
  rcases List.mem_cons.mp hq with rfl | hq
  · exact lz_7 168 rfl
  rcases List.mem_cons.mp hq with rfl | hq
  · exact lz_7 169 rfl
  rcases List.mem_cons.mp hq with rfl | hq
  · exact lz_7 170 rfl
  cases hq
theorem lz_n : ∀ q ∈ zn, (.methodLinkNest q.1 q.2.1 q.2.2.1 q.2.2.2 : Cond) ∈ lw_tbl := by
  intro q hq
  unfold zn at hq
  rcases List.mem_cons.mp hq with rfl | hq
  · exact lz_1 46 rfl
  rcases List.mem_cons.mp hq with rfl | hq
  · exact lz_1 95 rfl
  rcases List.mem_cons.mp hq with rfl | hq
  · exact lz_1 166 rfl
  rcases List.mem_cons.mp hq with rfl | hq
  · exact lz_1 185 rfl
  rcases List.mem_cons.mp hq with rfl | hq
  · exact lz_2 42 rfl
  rcases List.mem_cons.mp hq with rfl | hq
  · exact lz_2 193 rfl
  rcases List.mem_cons.mp hq with rfl | hq
  · exact lz_2 200 rfl
  rcases List.mem_cons.mp hq with rfl | hq
  · exact lz_3 137 rfl
  rcases List.mem_cons.mp hq with rfl | hq
  · exact lz_3 147 rfl
  rcases List.mem_cons.mp hq with rfl | hq
  · exact lz_3 148 rfl
  rcases List.mem_cons.mp hq with rfl | hq
  · exact lz_4 4 rfl
  rcases List.mem_cons.mp hq with rfl | hq
  · exact lz_4 92 rfl
  rcases List.mem_cons.mp hq with rfl | hq
  · exact lz_4 103 rfl
  rcases List.mem_cons.mp hq with rfl | hq
  · exact lz_4 221 rfl
  rcases List.mem_cons.mp hq with rfl | hq
  · exact lz_5 87 rfl
  cases hq
theorem lz_d : ∀ q ∈ zd, (.declares q : Cond) ∈ lw_tbl := by
  intro q hq
  unfold zd at hq
  rcases List.mem_cons.mp hq with rfl | hq
  · exact lz_3 34 rfl
  rcases List.mem_cons.mp hq with rfl | hq
  · exact lz_3 35 rfl
  rcases List.mem_cons.mp hq with rfl | hq
  · exact lz_3 36 rfl
  rcases List.mem_cons.mp hq with rfl | hq
  · exact lz_3 37 rfl
  rcases List.mem_cons.mp hq with rfl | hq
  · exact lz_3 38 rfl
  rcases List.mem_cons.mp hq with rfl | hq
  · exact lz_3 39 rfl
  rcases List.mem_cons.mp hq with rfl | hq
  · exact lz_7 158 rfl
  cases hq
theorem lz_a : ∀ q ∈ za, (.arrayOver (.object q) : Cond) ∈ lw_tbl := by
  intro q hq
  unfold za at hq
  rcases List.mem_cons.mp hq with rfl | hq
  · exact lz_1 44 rfl
  rcases List.mem_cons.mp hq with rfl | hq
  · exact lz_1 139 rfl
  rcases List.mem_cons.mp hq with rfl | hq
  · exact lz_1 164 rfl
  rcases List.mem_cons.mp hq with rfl | hq
  · exact lz_4 86 rfl
  cases hq
theorem lo_Z {s : State} {args : Array Value} (hts : ∀ w ∈ lw_tbl, w.before args s = true) (hgv : (Jvm.Cond.and given_1 narrow_1).before args s = true) : ZZ (fun q => s.heap.size ≤ q) s s.heap := by
  have hs := flat_of_before _ hgv
  have hA : ∀ a : Nat, a < s.heap.size → ¬ (fun q => s.heap.size ≤ q) a := fun a h => Nat.not_le.mpr h
  refine ⟨⟨fun q hq => va_Nw.of rfl (hts _ (lz_c q hq)), fun q hq => va_Nw.of rfl (hts _ (lz_n q hq)), fun q hq => va_Nw.of rfl (hts _ (lz_d q hq)), fun q hq => va_AO.of (hts _ (lz_a q hq)), va_Nc.of (args := args) (hs _ (by decide +kernel))⟩, ?_⟩
  refine ⟨zL.of (hts _ (lz_3 58 rfl)) (hs _ (by decide +kernel)) hA, zL.of (hts _ (lz_3 60 rfl)) (hs _ (by decide +kernel)) hA, ?_, ?_⟩
  · obtain ⟨t, ht, hv⟩ := va_Tof (tm := (.static "ResidualTrees" "PRIMES" "[I")) (ty := .int) (N := 19) (f := fun j => .int (zp j)) (A := fun q => s.heap.size ≤ q) (by decide) (hs _ (by decide +kernel)) (va_eqt (z := 19) (hs _ (by decide +kernel))) (fun j hj => match j, hj with
      | 0, _ => va_eqt (t := .elem (.static "ResidualTrees" "PRIMES" "[I") (.int 0)) (z := 2) (hs _ (by decide +kernel))
      | 1, _ => va_eqt (t := .elem (.static "ResidualTrees" "PRIMES" "[I") (.int 1)) (z := 3) (hs _ (by decide +kernel))
      | 2, _ => va_eqt (t := .elem (.static "ResidualTrees" "PRIMES" "[I") (.int 2)) (z := 5) (hs _ (by decide +kernel))
      | 3, _ => va_eqt (t := .elem (.static "ResidualTrees" "PRIMES" "[I") (.int 3)) (z := 7) (hs _ (by decide +kernel))
      | 4, _ => va_eqt (t := .elem (.static "ResidualTrees" "PRIMES" "[I") (.int 4)) (z := 11) (hs _ (by decide +kernel))
      | 5, _ => va_eqt (t := .elem (.static "ResidualTrees" "PRIMES" "[I") (.int 5)) (z := 13) (hs _ (by decide +kernel))
      | 6, _ => va_eqt (t := .elem (.static "ResidualTrees" "PRIMES" "[I") (.int 6)) (z := 17) (hs _ (by decide +kernel))
      | 7, _ => va_eqt (t := .elem (.static "ResidualTrees" "PRIMES" "[I") (.int 7)) (z := 19) (hs _ (by decide +kernel))
      | 8, _ => va_eqt (t := .elem (.static "ResidualTrees" "PRIMES" "[I") (.int 8)) (z := 23) (hs _ (by decide +kernel))
      | 9, _ => va_eqt (t := .elem (.static "ResidualTrees" "PRIMES" "[I") (.int 9)) (z := 29) (hs _ (by decide +kernel))
      | 10, _ => va_eqt (t := .elem (.static "ResidualTrees" "PRIMES" "[I") (.int 10)) (z := 31) (hs _ (by decide +kernel))
      | 11, _ => va_eqt (t := .elem (.static "ResidualTrees" "PRIMES" "[I") (.int 11)) (z := 37) (hs _ (by decide +kernel))
      | 12, _ => va_eqt (t := .elem (.static "ResidualTrees" "PRIMES" "[I") (.int 12)) (z := 41) (hs _ (by decide +kernel))
      | 13, _ => va_eqt (t := .elem (.static "ResidualTrees" "PRIMES" "[I") (.int 13)) (z := 43) (hs _ (by decide +kernel))
      | 14, _ => va_eqt (t := .elem (.static "ResidualTrees" "PRIMES" "[I") (.int 14)) (z := 47) (hs _ (by decide +kernel))
      | 15, _ => va_eqt (t := .elem (.static "ResidualTrees" "PRIMES" "[I") (.int 15)) (z := 53) (hs _ (by decide +kernel))
      | 16, _ => va_eqt (t := .elem (.static "ResidualTrees" "PRIMES" "[I") (.int 16)) (z := 59) (hs _ (by decide +kernel))
      | 17, _ => va_eqt (t := .elem (.static "ResidualTrees" "PRIMES" "[I") (.int 17)) (z := 61) (hs _ (by decide +kernel))
      | 18, _ => va_eqt (t := .elem (.static "ResidualTrees" "PRIMES" "[I") (.int 18)) (z := 67) (hs _ (by decide +kernel))
      | z + 19, hj => absurd hj (by omega)) hA
    exact ⟨t, va_Zref (hts _ (lz_5 11 rfl)) (hts _ (lz_1 1 rfl)) ht hA, hv⟩
  · obtain ⟨t, ht, hv⟩ := va_Tof (tm := (.static "java/util/ArrayList" "DEFAULTCAPACITY_EMPTY_ELEMENTDATA" "[Ljava/lang/Object;")) (ty := .object "java/lang/Object") (N := 0) (f := fun _ => .null) (A := fun q => s.heap.size ≤ q) (by decide) (hs _ (by decide +kernel)) (va_eqt (z := 0) (hs _ (by decide +kernel))) (fun j hj => absurd hj (by omega)) hA
    exact ⟨t, va_Zref (hts _ (lz_2 27 rfl)) (hts _ (lz_1 11 rfl)) ht hA, hv⟩

theorem lo_M {s : State} {args : Array Value} (hgv : (Jvm.Cond.and given_1 narrow_1).before args s = true) : ∃ mE, va_Mi "[Ljava/lang/Object;" mE s := va_Mi.of (flat_of_before _ hgv _ (by decide +kernel))
theorem lt_end {L j : Nat} (hL : L ≤ 2048) (h : ¬ 4 * j + 4 ≤ L) (h4 : 4 * j ≤ L + 3) : nI L - 4 < nI (4 * j) := by
  refine Int32.lt_iff_toInt_lt.mpr ?_
  rw [Int32.toInt_sub, nI_toInt (by omega), nI_toInt (by omega)]
  have e : (4 : Int32).toInt = 4 := by decide
  rw [e, Int.bmod_eq_of_le (by omega) (by omega)]
  omega
theorem ge_end {L j : Nat} (hL : L ≤ 2048) (h : 4 * j + 4 ≤ L) : ¬ nI L - 4 < nI (4 * j) := fun q => by
  have q2 := Int32.lt_iff_toInt_lt.mp q
  rw [Int32.toInt_sub, nI_toInt (by omega), nI_toInt (by omega)] at q2
  have e : (4 : Int32).toInt = 4 := by decide
  rw [e, Int.bmod_eq_of_le (by omega) (by omega)] at q2
  omega
