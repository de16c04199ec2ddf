theorem zp_pr : ∀ k, k < 19 → zp (nI k).toNatClampNeg = nI (pr k) := by decide +kernel
theorem rd_pr {d q x i : Nat} (h : ∀ q, q < i → ¬ (d % pr q = 0 ∧ x % pr q = 0)) (hq : q < i) {p : Nat} (h1 : d % p = 0) (h2 : x % p = 0) : ¬ (d / p % pr q = 0 ∧ x / p % pr q = 0) := fun ⟨a, b⟩ => by
  refine h q hq ⟨?_, ?_⟩
  · rcases Nat.eq_zero_or_pos (d % pr q) with r | r
    · exact r
    · exact absurd a (md_part h1 (by omega))
  · rcases Nat.eq_zero_or_pos (x % pr q) with r | r
    · exact r
    · exact absurd b (md_part h2 (by omega))
