theorem arr_cl {s : State} {H : Heap} {D : va_G} {cl : List vw_C} {a n : Nat} {cA : ClassId} {f : Nat → Option Nat} {ws : va_W} {tys : List (ClassId × FieldType)} (hK : va_K D cl tys s) (hP : va_P D cl ws H) (q0 t0 : Nat) (ha : ws[q0]? = some (a, .inl (cA, n, .inr (.inr (.inr (.inr f)))))) (ht : tys[t0]? = some (cA, .object "java/lang/Object")) : ∃ cell : Cell, H[a]? = some cell ∧ cell.vm.isStatics = false ∧ s.vm.findClass "[Ljava/lang/Object;" = some cell.cls := by
  refine ⟨_, hP q0 _ ha, rfl, ?_⟩
  exact va_nmO (hK.2 t0 _ ht).2 rfl
