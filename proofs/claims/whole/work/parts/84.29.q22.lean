/-! Kinds: the class's groups and their order. -/
theorem ni_mis {k : Nat} (h : k < 12) : ¬ nI k = -2147483648 := fun q => by
  have e := congrArg Int32.toInt q
  rw [nI_toInt (by omega), show (-2147483648 : Int32).toInt = -2147483648 by decide] at e
  omega
theorem gg_kdr {vv eg ik : Nat → Int32} {ne : Nat → Nat} {c n k : Nat} {A : Int64} (hn : n ≤ 64) (hk : k < 12) (hik : ¬ ik c = 0) (hV : ∀ r, r < n → ¬ vv (6 * r + c) = (-2147483648) → 0 ≤ vv (6 * r + c) ∧ vv (6 * r + c) < 12) : gsG vv eg ik ne c A k n = kdr n vv c A k := bx_ext (fun r hr => by
  rw [bx_gg hr hn]
  show _ = bx (rwk vv c (nI k) n &&& A) r
  rw [bx_and, bx_rwk hr n hn]
  by_cases q : r < n
  · rw [decide_eq_true q]
    by_cases e : vv (6 * r + c) = nI k
    · have e2 : bnF eg ik ne c (vv (6 * r + c)) = k := by
        unfold bnF
        rw [if_neg hik, e, nI_clamp (by omega)]
      rw [decide_eq_true e, decide_eq_true e2, decide_eq_false (show ¬ vv (6 * r + c) = -2147483648 by rw [e]; exact ni_mis hk)]
      cases bx A r <;> rfl
    · rw [decide_eq_false e]
      by_cases m : vv (6 * r + c) = -2147483648
      · rw [decide_eq_true m]; cases bx A r <;> rfl
      · have e2 : ¬ bnF eg ik ne c (vv (6 * r + c)) = k := fun z => by
          unfold bnF at z
          rw [if_neg hik] at z
          exact e (by rw [kx12 (hV r q m), z])
        rw [decide_eq_false m, decide_eq_false e2]; cases bx A r <;> rfl
  · rw [decide_eq_false q]; rfl)
theorem bx_kd {vv : Nat → Int32} {c n r k : Nat} {A : Int64} (hr : r < 64) (hn : n ≤ 64) (h : bx (kdr n vv c A k) r = true) : vv (6 * r + c) = nI k := by
  have h : bx (rwk vv c (nI k) n &&& A) r = true := h
  rw [bx_and, bx_rwk hr n hn] at h
  simp only [Bool.and_eq_true, decide_eq_true_eq] at h
  exact h.1.2
theorem bx_sid {vv : Nat → Int32} {c n r : Nat} {A : Int64} {od : Nat → Nat} (hr : r < 64) (hn : n ≤ 64) : ∀ p, bx (sidK n vv c A od p) r = true → ∃ i, i < p ∧ vv (6 * r + c) = nI (od i)
  | 0, h => by
    have h : bx 0 r = true := h
    rw [bx_zero] at h; exact absurd h (by decide)
  | p + 1, h => by
    have h : bx (sidK n vv c A od p ||| kdr n vv c A (od p)) r = true := h
    rw [bx_or, Bool.or_eq_true] at h
    rcases h with q | q
    · obtain ⟨i, hi, e⟩ := bx_sid hr hn p q
      exact ⟨i, by omega, e⟩
    · exact ⟨p, by omega, bx_kd hr hn q⟩
theorem sid_dj {RR : Nat → Int} {vv : Nat → Int32} {c n w r p F : Nat} {A : Int64} {od : Nat → Nat} (hr : r < 64) (hn : n ≤ 64) (hK : KOR RR n w vv c A od F) (hp : p < F) : ¬ (bx (sidK n vv c A od p) r = true ∧ bx (kdr n vv c A (od p)) r = true) := fun ⟨h1, h2⟩ => by
  obtain ⟨i, hi, e⟩ := bx_sid hr hn p h1
  have e2 := bx_kd hr hn h2
  have h3 := hK.1 i (by omega)
  have h4 := hK.1 p hp
  have e3 : od i = od p := by
    have := congrArg Int32.toNatClampNeg (e.symm.trans e2)
    rw [nI_clamp (by omega), nI_clamp (by omega)] at this
    exact this
  exact absurd (kor_in hK (by omega) hp e3) (by omega)
theorem sid_mr {RR : Nat → Int} {vv : Nat → Int32} {c n w r p F : Nat} {A : Int64} {od : Nat → Nat} (hr : r < 64) (hn : n ≤ 64) (hK : KOR RR n w vv c A od F) (hp : p ≤ F) : ¬ (bx (sidK n vv c A od p) r = true ∧ bx (mrw vv c n A) r = true) := fun ⟨h1, h2⟩ => by
  obtain ⟨i, hi, e⟩ := bx_sid hr hn p h1
  rw [bx_and, bx_rwk hr n hn] at h2
  simp only [Bool.and_eq_true, decide_eq_true_eq] at h2
  exact ni_mis (hK.1 i (by omega)).1 (e.symm.trans h2.1.2)
/-- the kinds below kd that rows have, sorted -/
def KOI (RR : Nat → Int) (n w : Nat) (vv : Nat → Int32) (c : Nat) (A : Int64) (kd : Nat) (od : Nat → Nat) (F : Nat) : Prop :=
  (∀ p, p < F → od p < kd ∧ ¬ kdr n vv c A (od p) = 0) ∧ (∀ p q, p < q → q < F → kbf RR n w vv c A (od p) (od q)) ∧ ∀ j, j < kd → ¬ kdr n vv c A j = 0 → ∃ p, p < F ∧ od p = j
def insA (od : Nat → Nat) (a kd : Nat) : Nat → Nat := fun p => if p < a then od p else if p = a then kd else od (p - 1)
theorem koi_ins {RR : Nat → Int} {n w : Nat} {vv : Nat → Int32} {c : Nat} {A : Int64} {kd F a : Nat} {od : Nat → Nat} (h : KOI RR n w vv c A kd od F) (hkd : kd < 12) (hz : ¬ kdr n vv c A kd = 0) (ha : a ≤ F) (h1 : ∀ p, a ≤ p → p < F → kbf RR n w vv c A kd (od p)) (h2 : a = 0 ∨ kbf RR n w vv c A (od (a - 1)) kd) : KOI RR n w vv c A (kd + 1) (insA od a kd) (F + 1) := by
  have lt : ∀ p, p < a → insA od a kd p = od p := fun p q => if_pos q
  have eq : insA od a kd a = kd := by unfold insA; rw [if_neg (by omega), if_pos rfl]
  have gt : ∀ p, a < p → insA od a kd p = od (p - 1) := fun p q => by unfold insA; rw [if_neg (by omega), if_neg (by omega)]
  have bk : ∀ p, p < a → kbf RR n w vv c A (od p) kd := fun p q => by
    have q2 := h2.resolve_left (by omega)
    by_cases e : p = a - 1
    · rw [e]; exact q2
    · have i1 := h.1 p (by omega)
      have i2 := h.1 (a - 1) (by omega)
      exact kbf_tr (by omega) (by omega) hkd i1.2 i2.2 hz (h.2.1 p (a - 1) (by omega) (by omega)) q2
  refine ⟨fun p hp => ?_, fun p q hpq hq => ?_, fun j hj hjz => ?_⟩
  · rcases Nat.lt_trichotomy p a with r | r | r
    · rw [lt p r]; exact ⟨by have := (h.1 p (by omega)).1; omega, (h.1 p (by omega)).2⟩
    · rw [r, eq]; exact ⟨by omega, hz⟩
    · rw [gt p r]; exact ⟨by have := (h.1 (p - 1) (by omega)).1; omega, (h.1 (p - 1) (by omega)).2⟩
  · rcases Nat.lt_trichotomy p a with r | r | r
    · rw [lt p r]
      rcases Nat.lt_trichotomy q a with s | s | s
      · rw [lt q s]; exact h.2.1 p q hpq (by omega)
      · rw [s, eq]; exact bk p r
      · rw [gt q s]
        by_cases e : p = q - 1
        · omega
        · exact h.2.1 p (q - 1) (by omega) (by omega)
    · rw [r, eq, gt q (by omega)]; exact h1 (q - 1) (by omega) (by omega)
    · rw [gt p r, gt q (by omega)]; exact h.2.1 (p - 1) (q - 1) (by omega) (by omega)
  · by_cases e : j = kd
    · exact ⟨a, by omega, by rw [eq, e]⟩
    · obtain ⟨p, hp, e2⟩ := h.2.2 j (by omega) hjz
      by_cases r : p < a
      · exact ⟨p, by omega, by rw [lt p r]; exact e2⟩
      · exact ⟨p + 1, by omega, by rw [gt (p + 1) (by omega)]; exact e2⟩
theorem koi_skip {RR : Nat → Int} {n w : Nat} {vv : Nat → Int32} {c : Nat} {A : Int64} {kd F : Nat} {od : Nat → Nat} (h : KOI RR n w vv c A kd od F) (hz : kdr n vv c A kd = 0) : KOI RR n w vv c A (kd + 1) od F :=
  ⟨fun p hp => ⟨by have := (h.1 p hp).1; omega, (h.1 p hp).2⟩, h.2.1, fun j hj hjz => h.2.2 j (by rcases Nat.lt_or_ge j kd with q | q; (exact q); (exact absurd (by rw [show j = kd by omega]; exact hz) hjz)) hjz⟩
theorem kbf_y {RR : Nat → Int} {n w : Nat} {vv : Nat → Int32} {c : Nat} {A : Int64} {i j : Nat} (hi : i < 12) (hj : j < 12) (h : smv RR (kdr n vv c A i) n * ((cb (kdr n vv c A j) + w : Nat) : Int) < smv RR (kdr n vv c A j) n * ((cb (kdr n vv c A i) + w : Nat) : Int)) : kbf RR n w vv c A i j := (kbf_e hi hj).mpr ⟨by omega, fun q => absurd q (by omega)⟩
theorem kbf_n {RR : Nat → Int} {n w : Nat} {vv : Nat → Int32} {c : Nat} {A : Int64} {i j : Nat} (hi : i < 12) (hj : j < 12) (hji : j < i) (h : ¬ smv RR (kdr n vv c A i) n * ((cb (kdr n vv c A j) + w : Nat) : Int) < smv RR (kdr n vv c A j) n * ((cb (kdr n vv c A i) + w : Nat) : Int)) : kbf RR n w vv c A j i := (kbf_e hj hi).mpr ⟨by omega, fun _ => hji⟩
