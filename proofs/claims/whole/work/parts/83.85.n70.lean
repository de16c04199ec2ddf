theorem ast_g {fo : Nat → Int32} {L0 L P : Nat} (h : AST fo L0 L P) : L0 ≤ L := by
  rcases h with q | ⟨_, n, _, h2, _⟩
  · omega
  · omega
