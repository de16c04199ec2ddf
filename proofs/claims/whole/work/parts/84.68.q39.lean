theorem tc_P {D : va_G} {cl : List vw_C} {ws : va_W} {H H1 : Heap} (h : va_P D cl ws H) (k : ∀ i : Nat, i < H.size → H1[i]? = H[i]?) : va_P D cl ws H1 := h.kept (fun j q hj => k q.1 (h j q hj).lt)
theorem tc_S {A : Nat → Prop} {H0 H H1 : Heap} {locs : List Loc} (h : va_S A H0 H locs) (z : H.size ≤ H1.size) (k : ∀ i : Nat, i < H.size → H1[i]? = H[i]?) : va_S A H0 H1 locs :=
  ⟨Nat.le_trans h.1 z, fun q h1 h2 => (k q (Nat.lt_of_lt_of_le h1 h.1)).trans (h.2.1 q h1 h2), h.2.2⟩
theorem tc_c {w : Cond} {s : State} {args : Array Value} (hw : w.onTables = true) (h : va_Nw w s) : w.before args s = true := va_tabs hw rfl h
