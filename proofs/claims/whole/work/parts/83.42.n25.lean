/-- how many of the first k nodes of a tree split by the column v -/
def usN (nc : Nat → Int32) (b : Nat) (v : Int32) : Nat → Nat
  | 0 => 0
  | k + 1 => usN nc b v k + if nc (b + k) = v then 1 else 0
def usT (nc : Nat → Int32) (nm : Nat → Nat) (v : Int32) : Nat → Nat
  | 0 => 0
  | t + 1 => usT nc nm v t + usN nc (31 * t) v (nm t)
theorem usN_le (nc : Nat → Int32) (b : Nat) (v : Int32) : ∀ k, usN nc b v k ≤ k
  | 0 => Nat.le_refl _
  | k + 1 => by
    have := usN_le nc b v k
    show usN nc b v k + _ ≤ _
    split <;> omega
theorem usT_le {nc : Nat → Int32} {nm : Nat → Nat} {v : Int32} {T : Nat} (h : ∀ t, t < T → nm t ≤ 31) : ∀ t, t ≤ T → usT nc nm v t ≤ 31 * t
  | 0, _ => Nat.le_refl _
  | t + 1, ht => by
    have h1 := usT_le (nc := nc) (v := v) h t (by omega)
    have h2 := usN_le nc (31 * t) v (nm t)
    have h3 := h t (by omega)
    show usT nc nm v t + _ ≤ _
    omega
