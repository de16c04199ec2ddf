/-- how many nodes of the first trees are split by column v -/
def usf (F : TFR) (v : Int32) : Nat → Nat
  | 0 => 0
  | t + 1 => usf F v t + spl (tA F) t v (tM F t)
