theorem lz_1 {w : Cond} (i : Nat) (h : tables_1_1[i]? = some w) : w ∈ lw_tbl := List.mem_append_right _ (by unfold tables_1; exact List.mem_append_left _ (List.mem_of_getElem? h))
theorem lz_2 {w : Cond} (i : Nat) (h : tables_1_2[i]? = some w) : w ∈ lw_tbl := List.mem_append_right _ (by unfold tables_1; exact List.mem_append_right _ (List.mem_append_left _ (List.mem_of_getElem? h)))
theorem lz_3 {w : Cond} (i : Nat) (h : tables_1_3[i]? = some w) : w ∈ lw_tbl := List.mem_append_right _ (by unfold tables_1; exact List.mem_append_right _ (List.mem_append_right _ (List.mem_append_left _ (List.mem_of_getElem? h))))
theorem lz_4 {w : Cond} (i : Nat) (h : tables_1_4[i]? = some w) : w ∈ lw_tbl := List.mem_append_right _ (by unfold tables_1; exact List.mem_append_right _ (List.mem_append_right _ (List.mem_append_right _ (List.mem_append_left _ (List.mem_of_getElem? h)))))
theorem lz_5 {w : Cond} (i : Nat) (h : tables_1_5[i]? = some w) : w ∈ lw_tbl := List.mem_append_right _ (by unfold tables_1; exact List.mem_append_right _ (List.mem_append_right _ (List.mem_append_right _ (List.mem_append_right _ (List.mem_append_left _ (List.mem_of_getElem? h))))))
theorem lz_6 {w : Cond} (i : Nat) (h : tables_1_6[i]? = some w) : w ∈ lw_tbl := List.mem_append_right _ (by unfold tables_1; exact List.mem_append_right _ (List.mem_append_right _ (List.mem_append_right _ (List.mem_append_right _ (List.mem_append_right _ (List.mem_append_left _ (List.mem_of_getElem? h)))))))
theorem lz_7 {w : Cond} (i : Nat) (h : tables_1_7[i]? = some w) : w ∈ lw_tbl := List.mem_append_right _ (by unfold tables_1; exact List.mem_append_right _ (List.mem_append_right _ (List.mem_append_right _ (List.mem_append_right _ (List.mem_append_right _ (List.mem_append_right _ (List.mem_of_getElem? h)))))))
theorem lz_c : ∀ q ∈ zc, (.castable q.1 q.2 : Cond) ∈ lw_tbl := by
  intro q hq
  unfold zc at hq
  rcases List.mem_cons.mp hq with rfl | hq
  · exact lz_3 33 rfl
  rcases List.mem_cons.mp hq with rfl | hq
  · exact lz_3 109 rfl
  rcases List.mem_cons.mp hq with rfl | hq
  · exact lz_7 154 rfl
  rcases List.mem_cons.mp hq with rfl | hq
  · exact lz_7 155 rfl
  rcases List.mem_cons.mp hq with rfl | hq
  · exact lz_7 159 rfl
  rcases List.mem_cons.mp hq with rfl | hq
  · exact lz_7 160 rfl
  rcases List.mem_cons.mp hq with rfl | hq
  · exact lz_7 161 rfl
  rcases List.mem_cons.mp hq with rfl | hq
  · exact lz_7 162 rfl
  rcases List.mem_cons.mp hq with rfl | hq
  · exact lz_7 163 rfl
  rcases List.mem_cons.mp hq with rfl | hq
  · exact lz_7 164 rfl
  rcases List.mem_cons.mp hq with rfl | hq
  · exact lz_7 165 rfl
  rcases List.mem_cons.mp hq with rfl | hq
  · exact lz_7 166 rfl
  rcases List.mem_cons.mp hq with rfl | hq
  · exact lz_7 167 rfl
  rcases List.mem_cons.mp hq with rfl | hq
  · exact lz_7 168 rfl
  rcases List.mem_cons.mp hq with rfl | hq
  · exact lz_7 169 rfl
  rcases List.mem_cons.mp hq with rfl | hq
  · exact lz_7 170 rfl
  cases hq
theorem lz_n : ∀ q ∈ zn, (.methodLinkNest q.1 q.2.1 q.2.2.1 q.2.2.2 : Cond) ∈ lw_tbl := by
  intro q hq
  unfold zn at hq
  rcases List.mem_cons.mp hq with rfl | hq
  · exact lz_1 46 rfl
  rcases List.mem_cons.mp hq with rfl | hq
  · exact lz_1 95 rfl
  rcases List.mem_cons.mp hq with rfl | hq
  · exact lz_1 166 rfl
  rcases List.mem_cons.mp hq with rfl | hq
  · exact lz_1 185 rfl
  rcases List.mem_cons.mp hq with rfl | hq
  · exact lz_2 42 rfl
  rcases List.mem_cons.mp hq with rfl | hq
  · exact lz_2 193 rfl
  rcases List.mem_cons.mp hq with rfl | hq
  · exact lz_2 200 rfl
  rcases List.mem_cons.mp hq with rfl | hq
  · exact lz_3 137 rfl
  rcases List.mem_cons.mp hq with rfl | hq
  · exact lz_3 147 rfl
  rcases List.mem_cons.mp hq with rfl | hq
  · exact lz_3 148 rfl
  rcases List.mem_cons.mp hq with rfl | hq
  · exact lz_4 4 rfl
  rcases List.mem_cons.mp hq with rfl | hq
  · exact lz_4 92 rfl
  rcases List.mem_cons.mp hq with rfl | hq
  · exact lz_4 103 rfl
  rcases List.mem_cons.mp hq with rfl | hq
  · exact lz_4 221 rfl
  rcases List.mem_cons.mp hq with rfl | hq
  · exact lz_5 87 rfl
  cases hq
theorem lz_d : ∀ q ∈ zd, (.declares q : Cond) ∈ lw_tbl := by
  intro q hq
  unfold zd at hq
  rcases List.mem_cons.mp hq with rfl | hq
  · exact lz_3 34 rfl
  rcases List.mem_cons.mp hq with rfl | hq
  · exact lz_3 35 rfl
  rcases List.mem_cons.mp hq with rfl | hq
  · exact lz_3 36 rfl
  rcases List.mem_cons.mp hq with rfl | hq
  · exact lz_3 37 rfl
  rcases List.mem_cons.mp hq with rfl | hq
  · exact lz_3 38 rfl
  rcases List.mem_cons.mp hq with rfl | hq
  · exact lz_3 39 rfl
  rcases List.mem_cons.mp hq with rfl | hq
  · exact lz_7 158 rfl
  cases hq
theorem lz_a : ∀ q ∈ za, (.arrayOver (.object q) : Cond) ∈ lw_tbl := by
  intro q hq
  unfold za at hq
  rcases List.mem_cons.mp hq with rfl | hq
  · exact lz_1 44 rfl
  rcases List.mem_cons.mp hq with rfl | hq
  · exact lz_1 139 rfl
  rcases List.mem_cons.mp hq with rfl | hq
  · exact lz_1 164 rfl
  rcases List.mem_cons.mp hq with rfl | hq
  · exact lz_4 86 rfl
  cases hq
theorem lo_Z {s : State} {args : Array Value} (hts : ∀ w ∈ lw_tbl, w.before args s = true) (hgv : (Jvm.Cond.and given_1 narrow_1).before args s = true) : ZZ (fun q => s.heap.size ≤ q) s s.heap := by
  have hs := flat_of_before _ hgv
  have hA : ∀ a : Nat, a < s.heap.size → ¬ (fun q => s.heap.size ≤ q) a := fun a h => Nat.not_le.mpr h
  refine ⟨⟨fun q hq => va_Nw.of rfl (hts _ (lz_c q hq)), fun q hq => va_Nw.of rfl (hts _ (lz_n q hq)), fun q hq => va_Nw.of rfl (hts _ (lz_d q hq)), fun q hq => va_AO.of (hts _ (lz_a q hq)), va_Nc.of (args := args) (hs _ (by decide +kernel))⟩, ?_⟩
  refine ⟨zL.of (hts _ (lz_3 58 rfl)) (hs _ (by decide +kernel)) hA, zL.of (hts _ (lz_3 60 rfl)) (hs _ (by decide +kernel)) hA, ?_, ?_⟩
  · obtain ⟨t, ht, hv⟩ := va_Tof (tm := (.static "ResidualTrees" "PRIMES" "[I")) (ty := .int) (N := 19) (f := fun j => .int (zp j)) (A := fun q => s.heap.size ≤ q) (by decide) (hs _ (by decide +kernel)) (va_eqt (z := 19) (hs _ (by decide +kernel))) (fun j hj => match j, hj with
      | 0, _ => va_eqt (t := .elem (.static "ResidualTrees" "PRIMES" "[I") (.int 0)) (z := 2) (hs _ (by decide +kernel))
      | 1, _ => va_eqt (t := .elem (.static "ResidualTrees" "PRIMES" "[I") (.int 1)) (z := 3) (hs _ (by decide +kernel))
      | 2, _ => va_eqt (t := .elem (.static "ResidualTrees" "PRIMES" "[I") (.int 2)) (z := 5) (hs _ (by decide +kernel))
      | 3, _ => va_eqt (t := .elem (.static "ResidualTrees" "PRIMES" "[I") (.int 3)) (z := 7) (hs _ (by decide +kernel))
      | 4, _ => va_eqt (t := .elem (.static "ResidualTrees" "PRIMES" "[I") (.int 4)) (z := 11) (hs _ (by decide +kernel))
      | 5, _ => va_eqt (t := .elem (.static "ResidualTrees" "PRIMES" "[I") (.int 5)) (z := 13) (hs _ (by decide +kernel))
      | 6, _ => va_eqt (t := .elem (.static "ResidualTrees" "PRIMES" "[I") (.int 6)) (z := 17) (hs _ (by decide +kernel))
      | 7, _ => va_eqt (t := .elem (.static "ResidualTrees" "PRIMES" "[I") (.int 7)) (z := 19) (hs _ (by decide +kernel))
      | 8, _ => va_eqt (t := .elem (.static "ResidualTrees" "PRIMES" "[I") (.int 8)) (z := 23) (hs _ (by decide +kernel))
      | 9, _ => va_eqt (t := .elem (.static "ResidualTrees" "PRIMES" "[I") (.int 9)) (z := 29) (hs _ (by decide +kernel))
      | 10, _ => va_eqt (t := .elem (.static "ResidualTrees" "PRIMES" "[I") (.int 10)) (z := 31) (hs _ (by decide +kernel))
      | 11, _ => va_eqt (t := .elem (.static "ResidualTrees" "PRIMES" "[I") (.int 11)) (z := 37) (hs _ (by decide +kernel))
      | 12, _ => va_eqt (t := .elem (.static "ResidualTrees" "PRIMES" "[I") (.int 12)) (z := 41) (hs _ (by decide +kernel))
      | 13, _ => va_eqt (t := .elem (.static "ResidualTrees" "PRIMES" "[I") (.int 13)) (z := 43) (hs _ (by decide +kernel))
      | 14, _ => va_eqt (t := .elem (.static "ResidualTrees" "PRIMES" "[I") (.int 14)) (z := 47) (hs _ (by decide +kernel))
      | 15, _ => va_eqt (t := .elem (.static "ResidualTrees" "PRIMES" "[I") (.int 15)) (z := 53) (hs _ (by decide +kernel))
      | 16, _ => va_eqt (t := .elem (.static "ResidualTrees" "PRIMES" "[I") (.int 16)) (z := 59) (hs _ (by decide +kernel))
      | 17, _ => va_eqt (t := .elem (.static "ResidualTrees" "PRIMES" "[I") (.int 17)) (z := 61) (hs _ (by decide +kernel))
      | 18, _ => va_eqt (t := .elem (.static "ResidualTrees" "PRIMES" "[I") (.int 18)) (z := 67) (hs _ (by decide +kernel))
      | z + 19, hj => absurd hj (by omega)) hA
    exact ⟨t, va_Zref (hts _ (lz_5 11 rfl)) (hts _ (lz_1 1 rfl)) ht hA, hv⟩
  · obtain ⟨t, ht, hv⟩ := va_Tof (tm := (.static "java/util/ArrayList" "DEFAULTCAPACITY_EMPTY_ELEMENTDATA" "[Ljava/lang/Object;")) (ty := .object "java/lang/Object") (N := 0) (f := fun _ => .null) (A := fun q => s.heap.size ≤ q) (by decide) (hs _ (by decide +kernel)) (va_eqt (z := 0) (hs _ (by decide +kernel))) (fun j hj => absurd hj (by omega)) hA
    exact ⟨t, va_Zref (hts _ (lz_2 27 rfl)) (hts _ (lz_1 11 rfl)) ht hA, hv⟩
