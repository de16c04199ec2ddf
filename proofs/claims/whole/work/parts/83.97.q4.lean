/-- how many of the first k nodes of a tree are split by column c -/
def spl (a : Nat → Nat → Int32) (t : Nat) (v : Int32) : Nat → Nat
  | 0 => 0
  | k + 1 => spl a t v k + if a 0 (31 * t + k) = v then 1 else 0
theorem spl_le {a : Nat → Nat → Int32} {t : Nat} {v : Int32} : ∀ k, spl a t v k ≤ k
  | 0 => Nat.le_refl _
  | k + 1 => by
    have := spl_le (a := a) (t := t) (v := v) k
    show spl a t v k + (if _ then 1 else 0) ≤ k + 1
    split <;> omega
theorem spl_y {a : Nat → Nat → Int32} {t k : Nat} {v : Int32} (h : a 0 (31 * t + k) = v) : spl a t v (k + 1) = spl a t v k + 1 := by
  show spl a t v k + (if _ then 1 else 0) = _
  rw [if_pos h]
theorem spl_n {a : Nat → Nat → Int32} {t k : Nat} {v : Int32} (h : ¬ a 0 (31 * t + k) = v) : spl a t v (k + 1) = spl a t v k := by
  show spl a t v k + (if _ then 1 else 0) = _
  rw [if_neg h]; rfl
