/-! What a state of the run holds beside the words: links of nest mates, casts, array classes, statics that nobody writes. -/
def zc : List (String × String) := [("java/lang/IllegalArgumentException", "java/lang/IllegalArgumentException"), ("java/lang/IllegalStateException", "java/lang/IllegalStateException"), ("ResidualTrees$Tree", "ResidualTrees$Tree"), ("ResidualTrees$Node", "ResidualTrees$Node"), ("ResidualTrees", "java/lang/Object"), ("ResidualTrees$Table", "java/lang/Object"), ("ResidualTrees$Column", "java/lang/Object"), ("ResidualTrees$Plan", "java/lang/Object"), ("ResidualTrees$Whole", "java/lang/Object"), ("ResidualTrees$Grower", "java/lang/Object"), ("ResidualTrees$Group", "java/lang/Object"), ("ResidualTrees$Split", "java/lang/Object"), ("ResidualTrees$Out", "java/lang/Object"), ("ResidualTreesModel", "java/lang/Object"), ("ResidualTrees$Tree", "java/lang/Object"), ("ResidualTrees$Node", "java/lang/Object")]
def zn : List (String × Nat × MethodName × String) := [("ResidualTrees$Table", 21, ⟨"ResidualTrees$Column", "<init>", "()V"⟩, "ResidualTrees"), ("ResidualTrees", 18, ⟨"ResidualTrees$Plan", "<init>", "()V"⟩, "ResidualTrees"), ("ResidualTrees$Grower", 21, ⟨"ResidualTrees$Group", "<init>", "()V"⟩, "ResidualTrees"), ("ResidualTrees$Grower", 49, ⟨"ResidualTrees$Split", "<init>", "()V"⟩, "ResidualTrees"), ("ResidualTrees", 49, ⟨"ResidualTrees$Out", "<init>", "()V"⟩, "ResidualTrees"), ("ResidualTrees$Node", 41, ⟨"ResidualTrees", "isKind", "(I)Z"⟩, "ResidualTrees"), ("ResidualTrees$Tree", 77, ⟨"ResidualTrees", "greatestDivisor", "(JJ)J"⟩, "ResidualTrees"), ("ResidualTrees$Table", 37, ⟨"ResidualTrees", "isWithin", "(III)Z"⟩, "ResidualTrees"), ("ResidualTrees$Column", 23, ⟨"ResidualTrees", "isKind", "(I)Z"⟩, "ResidualTrees"), ("ResidualTrees$Column", 27, ⟨"ResidualTrees", "isNumber", "(I)Z"⟩, "ResidualTrees"), ("ResidualTrees", 338, ⟨"ResidualTrees$Tree", "<init>", "()V"⟩, "ResidualTrees"), ("ResidualTrees", 202, ⟨"ResidualTrees$Grower", "grow", "(LResidualTrees$Tree;JI)I"⟩, "ResidualTrees"), ("ResidualTrees$Tree", 32, ⟨"ResidualTrees$Node", "<init>", "()V"⟩, "ResidualTrees"), ("ResidualTrees$Grower", 240, ⟨"ResidualTrees", "setToSides", "(LResidualTrees$Whole;LResidualTrees$Whole;ILResidualTrees$Whole;ILResidualTrees$Whole;)V"⟩, "ResidualTrees"), ("ResidualTrees$Out", 28, ⟨"ResidualTrees", "reduce", "([LResidualTrees$Whole;ILResidualTrees$Whole;)V"⟩, "ResidualTrees")]
def zd : List MethodName := [⟨"java/lang/RuntimeException", "<init>", "()V"⟩, ⟨"java/lang/RuntimeException", "<init>", "(Ljava/lang/String;)V"⟩, ⟨"java/lang/Exception", "<init>", "()V"⟩, ⟨"java/lang/Exception", "<init>", "(Ljava/lang/String;)V"⟩, ⟨"java/lang/Throwable", "<init>", "()V"⟩, ⟨"java/lang/Throwable", "<init>", "(Ljava/lang/String;)V"⟩, ⟨"java/lang/Object", "getClass", "()Ljava/lang/Class;"⟩]
def za : List String := ["ResidualTrees$Column", "ResidualTrees$Whole", "ResidualTrees$Group", "java/lang/Object"]
def zI : String := "java/lang/IllegalArgumentException"
def zX : String := "java/lang/IllegalStateException"
/-- a static that holds a reference or null, and its cell -/
def zL (C n d : String) (A : Nat → Prop) (U : State) (H : Heap) : Prop := ∃ (c : ClassId) (k : Class) (i : Nat) (f : Field) (x : Nat) (cell : Cell) (v : Value), U.vm.findClass C = some c ∧ U.fieldFound? C n d = some (c, k, i, f) ∧ f.isStatic = true ∧ k.statics = some x ∧ H[x]? = some cell ∧ cell.vm.isStatics = true ∧ cell.cls = c ∧ f.slot < cell.slots.size ∧ k.staticTypes[f.slot]? = some f.type ∧ cell.slots[f.slot]? = some v ∧ v.isRef = true ∧ ¬ A x
theorem zL.moved {C n d : String} {A : Nat → Prop} {u U : State} {H : Heap} (hvm : u.vm.Alike U.vm) (h : zL C n d A u H) : zL C n d A U H := by
  obtain ⟨c, k, i, f, x, cell, v, h1, h2, h3, h4, h5, h6, h7, h8, h9, h10⟩ := h
  obtain ⟨k', hi', he⟩ := State.fieldFound?_setVm hvm h2
  exact ⟨c, k', i, f, x, cell, v, by rw [hvm.findClass]; exact h1, hi', h3, by rw [he]; exact h4, h5, h6, h7, h8, by rw [he]; exact h9, h10⟩
theorem zL.kept {C n d : String} {A : Nat → Prop} {U : State} {H H1 : Heap} (h : zL C n d A U H) (hq : ∀ a : Nat, a < H.size → ¬ A a → H1[a]? = H[a]?) : zL C n d A U H1 := by
  obtain ⟨c, k, i, f, x, cell, v, h1, h2, h3, h4, h5, h6, h7, h8, h9, h10, h11, h12⟩ := h
  exact ⟨c, k, i, f, x, cell, v, h1, h2, h3, h4, by rw [hq x (Array.getElem?_eq_some_iff.mp h5).1 h12]; exact h5, h6, h7, h8, h9, h10, h11, h12⟩
theorem zL.narrow {C n d : String} {A B : Nat → Prop} {U : State} {H : Heap} (h : zL C n d A U H) (hAB : ∀ q, B q → A q) : zL C n d B U H := by
  obtain ⟨c, k, i, f, x, cell, v, h1, h2, h3, h4, h5, h6, h7, h8, h9, h10, h11, h12⟩ := h
  exact ⟨c, k, i, f, x, cell, v, h1, h2, h3, h4, h5, h6, h7, h8, h9, h10, h11, fun z => h12 (hAB x z)⟩
theorem zL.lays {C n d : String} {A : Nat → Prop} {U : State} {a : Array Value} (h : zL C n d A U U.heap) : (Cond.laysStatic C n d).before a U = true := by
  obtain ⟨c, k, i, f, x, cell, v, h1, h2, h3, h4, h5, h6, h7, h8, h9, h10⟩ := h
  exact Cond.laysStatic_of h1 h2 h3 h4 h5 h6 h7 h8 h9
theorem zL.ref {C n d : String} {A : Nat → Prop} {U : State} {a : Array Value} (h : zL C n d A U U.heap) : (Cond.isRef (.static C n d)).before a U = true := by
  obtain ⟨c, k, i, f, x, cell, v, h1, h2, h3, h4, h5, h6, h7, h8, h9, h10, h11, h12⟩ := h
  have e2 : (Term.static C n d).eval a U none [] U = some v := by
    simp [Term.eval, State.fieldNamed?, h2, h3, h4, h5, h6, h10]
  simp only [Cond.before, Cond.holds, Cond.value]
  rw [e2]
  cases v <;> first | rfl | (simp [Value.isRef] at h11)
theorem zL.of {C n d : String} {A : Nat → Prop} {s : State} {args : Array Value} (hl : (Cond.laysStatic C n d).before args s = true) (h : (Cond.isRef (.static C n d)).before args s = true) (hA : ∀ a : Nat, a < s.heap.size → ¬ A a) : zL C n d A s s.heap := by
  obtain ⟨c, k, i, f, x, cell, h1, h2, h3, h4, h5, h6, h7, h8, h9⟩ := Cond.laysStatic_spec hl
  obtain ⟨v, hv⟩ : ∃ v, cell.slots[f.slot]? = some v := ⟨_, Array.getElem?_eq_getElem h8⟩
  have e2 : (Term.static C n d).eval args s none [] s = some v := by
    simp [Term.eval, State.fieldNamed?, h2, h3, h4, h5, h6, hv]
  simp only [Cond.before, Cond.holds, Cond.value] at h
  rw [e2] at h
  refine ⟨c, k, i, f, x, cell, v, h1, h2, h3, h4, h5, h6, h7, h8, h9, hv, ?_, hA x (Array.getElem?_eq_some_iff.mp h5).1⟩
  cases v <;> first | rfl | (simp at h)
/-- the primes, as the class's table has them -/
def zp (j : Nat) : Int32 := ([2, 3, 5, 7, 11, 13, 17, 19, 23, 29, 31, 37, 41, 43, 47, 53, 59, 61, 67] : List Int32).getD j 0
def ZT (U : State) : Prop := (∀ q ∈ zc, va_Nw (.castable q.1 q.2) U) ∧ (∀ q ∈ zn, va_Nw (.methodLinkNest q.1 q.2.1 q.2.2.1 q.2.2.2) U) ∧ (∀ y ∈ zd, va_Nw (.declares y) U) ∧ (∀ C ∈ za, va_AO C U) ∧ va_Nc zX zI U
def ZH (A : Nat → Prop) (U : State) (H : Heap) : Prop := zL "java/lang/Throwable" "UNASSIGNED_STACK" "[Ljava/lang/StackTraceElement;" A U H ∧ zL "java/lang/Throwable" "SUPPRESSED_SENTINEL" "Ljava/util/List;" A U H ∧
  (∃ t : Nat, va_Z "ResidualTrees" "PRIMES" "[I" (.ref t) A U H ∧ va_T .int t 19 (fun j => .int (zp j)) A U H) ∧ (∃ t : Nat, va_Z "java/util/ArrayList" "DEFAULTCAPACITY_EMPTY_ELEMENTDATA" "[Ljava/lang/Object;" (.ref t) A U H ∧ va_T (.object "java/lang/Object") t 0 (fun _ => .null) A U H)
def ZZ (A : Nat → Prop) (U : State) (H : Heap) : Prop := ZT U ∧ ZH A U H
theorem ZT.moved {u U : State} (hW : u.WarmedH U.vm) (h : ZT u) : ZT U :=
  ⟨fun q hq => va_Nw.warmC hW (h.1 q hq), fun q hq => va_Nw.warmM hW (h.2.1 q hq), fun y hy => va_Nw.warmD hW (h.2.2.1 y hy), fun C hC => va_AO.moved hW.alike (h.2.2.2.1 C hC), va_Nc.moved hW.alike h.2.2.2.2⟩
theorem ZH.moved {A : Nat → Prop} {u U : State} {H : Heap} (hvm : u.vm.Alike U.vm) (h : ZH A u H) : ZH A U H := by
  obtain ⟨h1, h2, ⟨t, h3, h4⟩, ⟨r, h5, h6⟩⟩ := h
  exact ⟨h1.moved hvm, h2.moved hvm, ⟨t, h3.moved hvm, h4.moved hvm⟩, ⟨r, h5.moved hvm, h6.moved hvm⟩⟩
theorem ZH.kept {A : Nat → Prop} {U : State} {H H1 : Heap} (h : ZH A U H) (hq : ∀ a : Nat, a < H.size → ¬ A a → H1[a]? = H[a]?) : ZH A U H1 := by
  obtain ⟨h1, h2, ⟨t, h3, h4⟩, ⟨r, h5, h6⟩⟩ := h
  exact ⟨h1.kept hq, h2.kept hq, ⟨t, h3.kept hq, h4.kept hq⟩, ⟨r, h5.kept hq, h6.kept hq⟩⟩
theorem ZH.narrow {A B : Nat → Prop} {U : State} {H : Heap} (h : ZH A U H) (hAB : ∀ q, B q → A q) : ZH B U H := by
  obtain ⟨h1, h2, ⟨t, h3, h4⟩, ⟨r, h5, h6⟩⟩ := h
  exact ⟨h1.narrow hAB, h2.narrow hAB, ⟨t, h3.narrow hAB, h4.narrow hAB⟩, ⟨r, h5.narrow hAB, h6.narrow hAB⟩⟩
/-- at a later state of the same method, for a callee that may change B -/
theorem ZZ.at {A B : Nat → Prop} {s U : State} {H : Heap} {locs : List Loc} (h : ZZ A s s.heap) (hS : va_S A s.heap H locs) (hB : ∀ q, B q → A q) (hU : U.heap = H) (hW : s.WarmedH U.vm) : ZZ B U U.heap :=
  ⟨h.1.moved hW, by rw [hU]; exact ((h.2.kept hS.2.1).narrow hB).moved hW.alike⟩
theorem ZZ.call {A : Nat → Prop} {U : State} (g : JFrame) (mk : MethodId) (a : Array Value) (h : ZZ A U U.heap) : ZZ A (U.calling g mk a) (U.calling g mk a).heap :=
  ⟨h.1.moved (U := U.calling g mk a) (State.WarmedH.refl U), h.2.moved (U := U.calling g mk a) (Vm.Alike.refl U.vm)⟩
