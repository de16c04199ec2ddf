/-! All columns in the pool, with what both sides keep of them. -/
def COLe (cT : Nat → ClassId) (ad : Nat → Nat) (g : Nat → Option va_E) (c : Nat) (ec ok : Int32) (fv fe : Nat → Int32) : Prop := g (10 + c) = some (eCO (ad (20 + c)) (ad (30 + c)) ec ok) ∧ g (20 + c) = some (eA (cT 0) 49 fv) ∧ g (30 + c) = some (eA (cT 0) 11 fe)
def COLF (cT : Nat → ClassId) (ad : Nat → Nat) (g : Nat → Option va_E) (n : Nat) (vv vq eg ik : Nat → Int32) (ne : Nat → Nat) : Prop := ∀ c, c < 6 → ∃ fv fe : Nat → Int32, COLe cT ad g c (nI (ne c)) (ik c) fv fe ∧ (∀ r, r < n → fv r = vv (6 * r + c)) ∧ fv 48 = vq c ∧ ∀ i, i < ne c → fe i = eg (11 * c + i)
theorem COLe.cg {cT : Nat → ClassId} {ad : Nat → Nat} {g g2 : Nat → Option va_E} {c : Nat} {ec ok : Int32} {fv fe : Nat → Int32} (h : COLe cT ad g c ec ok fv fe) (h1 : g2 (10 + c) = g (10 + c)) (h2 : g2 (20 + c) = g (20 + c)) (h3 : g2 (30 + c) = g (30 + c)) : COLe cT ad g2 c ec ok fv fe := ⟨h1.trans h.1, h2.trans h.2.1, h3.trans h.2.2⟩
theorem COLF.cg {cT : Nat → ClassId} {ad : Nat → Nat} {g g2 : Nat → Option va_E} {n : Nat} {vv vq eg ik : Nat → Int32} {ne : Nat → Nat} (h : COLF cT ad g n vv vq eg ik ne) (h1 : ∀ x, 10 ≤ x → x < 40 → g2 x = g x) : COLF cT ad g2 n vv vq eg ik ne := fun c hc => by
  obtain ⟨fv, fe, a1, a2⟩ := h c hc
  exact ⟨fv, fe, a1.cg (h1 _ (by omega) (by omega)) (h1 _ (by omega) (by omega)) (h1 _ (by omega) (by omega)), a2⟩
theorem COLF.a {cT : Nat → ClassId} {ad : Nat → Nat} {g : Nat → Option va_E} {n : Nat} {vv vq eg ik : Nat → Int32} {ne : Nat → Nat} (h : COLF cT ad g n vv vq eg ik ne) : COLa cT ad g n vv vq := by
  refine ⟨fun i hi c hc => ?_, fun c hc => ?_⟩
  · obtain ⟨fv, fe, a1, a2, a3, a4⟩ := h c hc
    exact ⟨_, _, fv, a1.1, a1.2.1, a2 i hi⟩
  · obtain ⟨fv, fe, a1, a2, a3, a4⟩ := h c hc
    exact ⟨_, _, fv, a1.1, a1.2.1, a3⟩
/-- one column is another -/
theorem COLF.one {cT : Nat → ClassId} {ad : Nat → Nat} {g g2 : Nat → Option va_E} {n : Nat} {vv vq eg ik vv2 vq2 eg2 ik2 : Nat → Int32} {ne ne2 : Nat → Nat} {c0 : Nat} (h : COLF cT ad g n vv vq eg ik ne) (h1 : ∀ x, 10 ≤ x → x < 40 → x ≠ 10 + c0 → x ≠ 20 + c0 → x ≠ 30 + c0 → g2 x = g x) (hc0 : c0 < 6)
    (hk : ∀ c, c < 6 → c ≠ c0 → (∀ r, r < n → vv2 (6 * r + c) = vv (6 * r + c)) ∧ vq2 c = vq c ∧ (∀ i, i < 11 → eg2 (11 * c + i) = eg (11 * c + i)) ∧ ik2 c = ik c ∧ ne2 c = ne c ∧ ne c ≤ 11) (h0 : ∃ fv fe : Nat → Int32, COLe cT ad g2 c0 (nI (ne2 c0)) (ik2 c0) fv fe ∧ (∀ r, r < n → fv r = vv2 (6 * r + c0)) ∧ fv 48 = vq2 c0 ∧ ∀ i, i < ne2 c0 → fe i = eg2 (11 * c0 + i)) : COLF cT ad g2 n vv2 vq2 eg2 ik2 ne2 := fun c hc => by
  by_cases q : c = c0
  · rw [q]; exact h0
  · obtain ⟨fv, fe, a1, a2, a3, a4⟩ := h c hc
    obtain ⟨k1, k2, k3, k4, k5, k6⟩ := hk c hc q
    refine ⟨fv, fe, ?_, fun r hr => (a2 r hr).trans (k1 r hr).symm, a3.trans k2.symm, fun i hi => ?_⟩
    · rw [k4, k5]
      exact a1.cg (h1 _ (by omega) (by omega) (by omega) (by omega) (by omega)) (h1 _ (by omega) (by omega) (by omega) (by omega) (by omega)) (h1 _ (by omega) (by omega) (by omega) (by omega) (by omega))
    · rw [k5] at hi
      rw [k3 i (by omega)]
      exact a4 i hi
theorem colf_put {cT : Nat → ClassId} {ad : Nat → Nat} {g g2 : Nat → Option va_E} {n : Nat} {vv vq eg ik fv fe : Nat → Int32} {ne : Nat → Nat} {c0 r : Nat} {v : Int32} (h : COLF cT ad g n vv vq eg ik ne) (h1 : ∀ x, x ≠ 20 + c0 → g2 x = g x) (hc0 : c0 < 6) (hne : ∀ c, c < 6 → ne c ≤ 11) (hn : n ≤ 48) (hr : r < n) (e0 : COLe cT ad g c0 (nI (ne c0)) (ik c0) fv fe) (e1 : ∀ r, r < n → fv r = vv (6 * r + c0)) (e2 : fv 48 = vq c0) (e3 : ∀ i, i < ne c0 → fe i = eg (11 * c0 + i)) (h2 : g2 (20 + c0) = some (eA (cT 0) 49 (upd fv r v))) : COLF cT ad g2 n (upd vv (6 * r + c0) v) vq eg ik ne := by
  refine h.one (fun x _ _ q1 q2 q3 => h1 x q2) hc0 (fun c hc q => ⟨fun r2 hr2 => pk_un (by omega), rfl, fun _ _ => rfl, rfl, rfl, hne c hc⟩) ⟨upd fv r v, fe, ⟨(h1 _ (by omega)).trans e0.1, h2, (h1 _ (by omega)).trans e0.2.2⟩, fun r2 hr2 => ?_, ?_, e3⟩
  · by_cases q : r2 = r
    · rw [q, pk_us, pk_us]
    · rw [pk_un q, pk_un (by omega)]
      exact e1 r2 hr2
  · rw [pk_un (by omega)]
    exact e2
theorem colf_ask {cT : Nat → ClassId} {ad : Nat → Nat} {g g2 : Nat → Option va_E} {n : Nat} {vv vq eg ik fv fe : Nat → Int32} {ne : Nat → Nat} {c0 : Nat} {v : Int32} (h : COLF cT ad g n vv vq eg ik ne) (h1 : ∀ x, x ≠ 20 + c0 → g2 x = g x) (hc0 : c0 < 6) (hne : ∀ c, c < 6 → ne c ≤ 11) (hn : n ≤ 48) (e0 : COLe cT ad g c0 (nI (ne c0)) (ik c0) fv fe) (e1 : ∀ r, r < n → fv r = vv (6 * r + c0)) (e3 : ∀ i, i < ne c0 → fe i = eg (11 * c0 + i)) (h2 : g2 (20 + c0) = some (eA (cT 0) 49 (upd fv 48 v))) : COLF cT ad g2 n vv (upd vq c0 v) eg ik ne := by
  refine h.one (fun x _ _ q1 q2 q3 => h1 x q2) hc0 (fun c hc q => ⟨fun _ _ => rfl, pk_un q, fun _ _ => rfl, rfl, rfl, hne c hc⟩) ⟨upd fv 48 v, fe, ⟨(h1 _ (by omega)).trans e0.1, h2, (h1 _ (by omega)).trans e0.2.2⟩, fun r2 hr2 => ?_, ?_, e3⟩
  · rw [pk_un (by omega)]
    exact e1 r2 hr2
  · rw [pk_us, pk_us]
theorem colf_bec {cT : Nat → ClassId} {ad : Nat → Nat} {g g2 : Nat → Option va_E} {n : Nat} {vv vq eg ik fv fe : Nat → Int32} {ne : Nat → Nat} {c0 : Nat} {k : Int32} (h : COLF cT ad g n vv vq eg ik ne) (h1 : ∀ x, x ≠ 10 + c0 → g2 x = g x) (hc0 : c0 < 6) (hne : ∀ c, c < 6 → ne c ≤ 11) (e0 : COLe cT ad g c0 (nI (ne c0)) (ik c0) fv fe) (e1 : ∀ r, r < n → fv r = vv (6 * r + c0)) (e2 : fv 48 = vq c0) (h2 : g2 (10 + c0) = some (eCO (ad (20 + c0)) (ad (30 + c0)) 0 k)) : COLF cT ad g2 n vv vq eg (upd ik c0 k) (va_up ne c0 0) := by
  refine h.one (fun x _ _ q1 q2 q3 => h1 x q1) hc0 (fun c hc q => ⟨fun _ _ => rfl, rfl, fun _ _ => rfl, pk_un q, va_up_ne _ _ q, hne c hc⟩) ⟨fv, fe, ⟨?_, (h1 _ (by omega)).trans e0.2.1, (h1 _ (by omega)).trans e0.2.2⟩, e1, e2, fun i hi => ?_⟩
  · rw [va_up_self, pk_us, h2]; rfl
  · rw [va_up_self] at hi; omega
/-- the plan -/
abbrev ePL (d l w u q : Int32) (s : Int64) (c : Int32) : va_E := .inr (3, [.int d, .int l, .int w, .int u, .int q, .long s, .int c])
