theorem lo_ty {s : State} {args : Array Value} {t : FieldType} (h : (Cond.arrayClass t).before args s = true) : ∃ cA : ClassId, ArrOfT s cA t ∧ s.vm.findClass ("[" ++ t.toString) = some cA := by
  obtain ⟨cA, k, comp, h1, h2, h3⟩ := Cond.arrayClass_spec h
  exact ⟨cA, fun n z => ⟨fun k h => (by cases h), k, h2, comp, h3⟩, h1⟩
theorem lo_tq {s : State} {args : Array Value} {C : String} (h : (Cond.arrayOver (.object C)).before args s = true) : ∃ cA : ClassId, ArrOfT s cA (.object C) ∧ va_RA s cA (.object C) := by
  obtain ⟨comp, cA, k, h1, h2, h3, h4, h5⟩ := Cond.arrayOver_spec h
  exact ⟨cA, fun n z => ⟨fun k h => (by cases h), k, h3, comp, h4⟩, k, comp, h3, h4, h1, h5⟩
theorem lo_K {s : State} {args : Array Value} (hT : ∀ w ∈ TB, w.before args s = true) (hO : ∀ C ∈ za, va_AO C s) : ∃ (D : va_G) (cT : Nat → ClassId), va_K D vwCl (TY cT) s := by
  obtain ⟨c0, i0, k0⟩ := u_known (ws := TB) (C := R_R) (T := T_R) (N := 13) hT in_R (hT _ w30)
  obtain ⟨c1, i1, k1⟩ := u_known (ws := TB) (C := R_C) (T := T_C) (N := 4) hT in_C (hT _ w45)
  obtain ⟨c2, i2, k2⟩ := u_known (ws := TB) (C := R_T) (T := T_T) (N := 4) hT in_T (hT _ w38)
  obtain ⟨c3, i3, k3⟩ := u_known (ws := TB) (C := R_P) (T := T_P) (N := 7) hT in_P (hT _ w94)
  obtain ⟨c4, i4, k4⟩ := u_known (ws := TB) (C := R_W) (T := T_W) (N := 3) hT in_W (hT _ w140)
  obtain ⟨c5, i5, k5⟩ := u_known (ws := TB) (C := R_G) (T := T_G) (N := 2) hT in_G (hT _ w165)
  obtain ⟨c6, i6, k6⟩ := u_known (ws := TB) (C := R_S) (T := T_S) (N := 7) hT in_S (hT _ w184)
  obtain ⟨c7, i7, k7⟩ := u_known (ws := TB) (C := R_Gr) (T := T_Gr) (N := 13) hT in_Gr (hT _ w158)
  obtain ⟨c8, i8, k8⟩ := u_known (ws := TB) (C := R_O) (T := T_O) (N := 4) hT in_O (hT _ w281)
  obtain ⟨c9, i9, k9⟩ := u_known (ws := TB) (C := R_Tr) (T := T_Tr) (N := 6) hT in_Tr (hT _ w723)
  obtain ⟨c10, i10, k10⟩ := u_known (ws := TB) (C := R_N) (T := T_N) (N := 9) hT in_N (hT _ w822)
  obtain ⟨c11, i11, k11⟩ := u_known (ws := TB) (C := R_M) (T := T_M) (N := 60) hT in_M (hT _ w1092)
  obtain ⟨c12, i12, k12⟩ := u_known (ws := TB) (C := R_AL) (T := T_AL) (N := 3) hT in_AL (hT _ w255)
  obtain ⟨t0, a0, r0⟩ := lo_ty (hT _ w72)
  obtain ⟨t1, a1, r1⟩ := lo_ty (hT _ w1286)
  obtain ⟨t2, a2, r2⟩ := lo_ty (hT _ w305)
  obtain ⟨t3, a3, r3⟩ := lo_ty (hT _ w1285)
  obtain ⟨t4, a4, r4⟩ := lo_tq (args := args) (va_AO.use (hO "ResidualTrees$Whole" (List.mem_of_getElem? (i := 1) rfl)))
  obtain ⟨t5, a5, r5⟩ := lo_tq (args := args) (va_AO.use (hO "ResidualTrees$Column" (List.mem_of_getElem? (i := 0) rfl)))
  obtain ⟨t6, a6, r6⟩ := lo_tq (args := args) (va_AO.use (hO "ResidualTrees$Group" (List.mem_of_getElem? (i := 2) rfl)))
  obtain ⟨t7, a7, r7⟩ := lo_tq (args := args) (va_AO.use (hO "java/lang/Object" (List.mem_of_getElem? (i := 3) rfl)))
  refine ⟨(fun k => match k with | 0 => c0 | 1 => c1 | 2 => c2 | 3 => c3 | 4 => c4 | 5 => c5 | 6 => c6 | 7 => c7 | 8 => c8 | 9 => c9 | 10 => c10 | 11 => c11 | 12 => c12 | _ => c0, fun k => match k with | 0 => i0 | 1 => i1 | 2 => i2 | 3 => i3 | 4 => i4 | 5 => i5 | 6 => i6 | 7 => i7 | 8 => i8 | 9 => i9 | 10 => i10 | 11 => i11 | 12 => i12 | _ => i0), (fun k => match k with | 0 => t0 | 1 => t1 | 2 => t2 | 3 => t3 | 4 => t4 | 5 => t5 | 6 => t6 | 7 => t7 | _ => t0), ⟨fun c q hq => ?_, fun k q hq => ?_⟩⟩
  · match c, hq with
    | 0, hq => cases hq; exact k0
    | 1, hq => cases hq; exact k1
    | 2, hq => cases hq; exact k2
    | 3, hq => cases hq; exact k3
    | 4, hq => cases hq; exact k4
    | 5, hq => cases hq; exact k5
    | 6, hq => cases hq; exact k6
    | 7, hq => cases hq; exact k7
    | 8, hq => cases hq; exact k8
    | 9, hq => cases hq; exact k9
    | 10, hq => cases hq; exact k10
    | 11, hq => cases hq; exact k11
    | 12, hq => cases hq; exact k12
    | z + 13, hq => exact absurd (List.getElem?_eq_some_iff.mp hq).1 (by show ¬ z + 13 < 13; omega)
  · match k, hq with
    | 0, hq => cases hq; exact ⟨a0, r0⟩
    | 1, hq => cases hq; exact ⟨a1, r1⟩
    | 2, hq => cases hq; exact ⟨a2, r2⟩
    | 3, hq => cases hq; exact ⟨a3, r3⟩
    | 4, hq => cases hq; exact ⟨a4, r4⟩
    | 5, hq => cases hq; exact ⟨a5, r5⟩
    | 6, hq => cases hq; exact ⟨a6, r6⟩
    | 7, hq => cases hq; exact ⟨a7, r7⟩
    | z + 8, hq => exact absurd (List.getElem?_eq_some_iff.mp hq).1 (by show ¬ z + 8 < 8; omega)
