/-! cut over the pool -/
theorem siv_le {vv : Nat → Int32} {c n m : Nat} {a : Nat → Int32} (h : SIV vv c n a m) : m ≤ n := by rw [h.1]; exact mnx_le vv c n
theorem siv_bd {vv : Nat → Int32} {c n m i : Nat} {a : Nat → Int32} (h : SIV vv c n a m) (hb : ∀ r, r < n → ¬ vv (6 * r + c) = -2147483648 → -1000000 ≤ (vv (6 * r + c)).toInt ∧ (vv (6 * r + c)).toInt ≤ 1000000) (hi : i < m) : -1000000 ≤ (a i).toInt ∧ (a i).toInt ≤ 1000000 := by
  have hv := siv_iov h hi
  obtain ⟨r, hr, e⟩ := sme_ex n (by have := hv.2.1; have := hv.2.2; omega : 0 < sme vv c (a i) n)
  have := hb r hr (by rw [e]; exact hv.1)
  rw [e] at this
  exact this
theorem cutF_fr {bc : Int32} {vv eg : Nat → Int32} {c n nn j : Nat} (hn : nn ≤ 12) (h : j < 11 * c ∨ 11 * c + 11 ≤ j) : (cutF bc vv c n nn eg).2 j = eg j := by
  unfold cutF
  split
  · rfl
  · exact ctE_fr _ _ (by omega)
theorem cur_ris {bc : Int32} {vv eg ef : Nat → Int32} {c n nn m : Nat} (h : CUR bc vv c n nn eg m ef) : RIS (cutF bc vv c n nn eg).2 (11 * c) (cutF bc vv c n nn eg).1 := fun i j hij hj => by
  rw [← h.2.1] at hj
  rw [← h.2.2.1 i (by omega), ← h.2.2.1 j hj]
  exact h.2.2.2 i j hij hj
theorem colf_cut {cT : Nat → ClassId} {ad : Nat → Nat} {g g2 : Nat → Option va_E} {n nn m : Nat} {vv vq eg ik fv fe ef : Nat → Int32} {ne : Nat → Nat} {c0 : Nat} {bc : Int32} (h : COLF cT ad g n vv vq eg ik ne) (h1 : ∀ x, x ≠ 10 + c0 → x ≠ 30 + c0 → x ≠ 48 → g2 x = g x) (hc0 : c0 < 6) (hne : ∀ c, c < 6 → ne c ≤ 11) (hnn : nn ≤ 12) (e0 : COLe cT ad g c0 (nI (ne c0)) (ik c0) fv fe) (e1 : ∀ r, r < n → fv r = vv (6 * r + c0)) (e2 : fv 48 = vq c0) (hcu : CUR bc vv c0 n nn eg m ef) (h2 : g2 (10 + c0) = some (eCO (ad (20 + c0)) (ad (30 + c0)) (nI m) (ik c0))) (h3 : g2 (30 + c0) = some (eA (cT 0) 11 ef)) : COLF cT ad g2 n vv vq (cutF bc vv c0 n nn eg).2 ik (va_up ne c0 (cutF bc vv c0 n nn eg).1) := by
  refine h.one (fun x _ _ q1 q2 q3 => h1 x q1 q3 (by omega)) hc0 (fun c hc q => ⟨fun _ _ => rfl, rfl, fun i hi => cutF_fr hnn (by omega), rfl, va_up_ne _ _ q, hne c hc⟩) ⟨fv, ef, ⟨?_, (h1 _ (by omega) (by omega) (by omega)).trans e0.2.1, h3⟩, e1, e2, fun i hi => ?_⟩
  · rw [va_up_self, ← hcu.2.1]; exact h2
  · rw [va_up_self, ← hcu.2.1] at hi
    exact hcu.2.2.1 i hi
