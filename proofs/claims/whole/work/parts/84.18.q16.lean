theorem kab_cg {f f2 : Nat → Int32} : ∀ {n : Nat}, (∀ r, r < n → f r = f2 r) → kaB f n = kaB f2 n
  | 0, _ => rfl
  | n + 1, h => by
    have ih := kab_cg (f := f) (f2 := f2) (n := n) (fun r hr => h r (by omega))
    have h0 := h n (by omega)
    unfold kaB
    rw [ih, h0]
