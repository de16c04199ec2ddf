/-! The sorted values: what stands at a place; the least, the greatest; cuts that never fall. -/
theorem ctp_le {P : Int32 → Bool} {a : Nat → Int32} {q : Nat} : ∀ m, (∀ i, i < m → P (a i) = true → i < q) → ctp P a m ≤ q
  | 0, _ => Nat.zero_le _
  | m + 1, h => by
    suffices hs : ∀ k, (∀ i, i < k → P (a i) = true → i < q) → ctp P a k ≤ q ∧ ctp P a k ≤ k from (hs (m + 1) h).1
    intro k
    induction k with
    | zero => intro _; exact ⟨Nat.zero_le _, Nat.le_refl _⟩
    | succ k ih =>
      intro hk
      have i9 := ih (fun i hi => hk i (by omega))
      show ctp P a k + _ ≤ q ∧ ctp P a k + _ ≤ k + 1
      split
      · rename_i z
        have := hk k (by omega) z
        omega
      · omega
theorem ctp_ge {P : Int32 → Bool} {a : Nat → Int32} {q : Nat} : ∀ m, q ≤ m → (∀ i, i < q → P (a i) = true) → q ≤ ctp P a m
  | 0, h, _ => h
  | m + 1, h, hq => by
    show q ≤ ctp P a m + _
    by_cases e : q ≤ m
    · have := ctp_ge m e hq
      omega
    · have e2 : q = m + 1 := by omega
      have := ctp_ge (q := m) m (Nat.le_refl _) (fun i hi => hq i (by omega))
      rw [if_pos (hq m (by omega))]
      omega
theorem ctp_two {a : Nat → Int32} {v : Int32} : ∀ m, ctp (fun x => decide (x < v)) a m + ctp (fun x => decide (x = v)) a m = ctp (fun x => decide (x ≤ v)) a m
  | 0 => rfl
  | m + 1 => by
    have ih := ctp_two (a := a) (v := v) m
    show (ctp _ a m + (if decide (a m < v) = true then 1 else 0)) + (ctp _ a m + (if decide (a m = v) = true then 1 else 0)) = ctp _ a m + (if decide (a m ≤ v) = true then 1 else 0)
    by_cases h1 : a m < v
    · have h2 : ¬ a m = v := fun q => by rw [q] at h1; exact Int32.lt_irrefl h1
      have h3 : a m ≤ v := Int32.le_of_lt h1
      rw [if_pos (decide_eq_true h1), if_neg (fun z => h2 (of_decide_eq_true z)), if_pos (decide_eq_true h3)]
      omega
    · by_cases h2 : a m = v
      · have h3 : a m ≤ v := by rw [h2]; exact Int32.le_refl v
        rw [if_neg (fun z => h1 (of_decide_eq_true z)), if_pos (decide_eq_true h2), if_pos (decide_eq_true h3)]
        omega
      · have h3 : ¬ a m ≤ v := fun q => h2 (Int32.le_antisymm q (Int32.not_lt.mp h1))
        rw [if_neg (fun z => h1 (of_decide_eq_true z)), if_neg (fun z => h2 (of_decide_eq_true z)), if_neg (fun z => h3 (of_decide_eq_true z))]
        omega
theorem siv_iov {vv : Nat → Int32} {c n m pl : Nat} {a : Nat → Int32} (h : SIV vv c n a m) (hp : pl < m) : IOV vv c n pl (a pl) := by
  have hn := h.2.2.2 pl hp
  have e1 := (h.2.2.1 (fun x => decide (x < a pl))).trans (ctr_b n)
  have e2 := (h.2.2.1 (fun x => decide (x = a pl))).trans (ctr_e hn n)
  have e3 := ctp_two (a := a) (v := a pl) m
  refine ⟨hn, ?_, ?_⟩
  · rw [← e1]
    refine ctp_le m (fun i hi q => ?_)
    have q1 : a i < a pl := of_decide_eq_true q
    refine Nat.lt_of_not_le (fun z => ?_)
    by_cases e : pl = i
    · rw [e] at q1; exact Int32.lt_irrefl q1
    · exact Int32.not_lt.mpr (h.2.1 pl i (by omega) hi) q1
  · rw [← e1, ← e2, e3]
    refine ctp_ge (q := pl + 1) m (by omega) (fun i hi => decide_eq_true ?_)
    by_cases e : i = pl
    · rw [e]; exact Int32.le_refl _
    · exact h.2.1 i pl (by omega) hp
theorem siv_un {vv : Nat → Int32} {c n m pl : Nat} {a : Nat → Int32} {v : Int32} (h : SIV vv c n a m) (hp : pl < m) (hv : IOV vv c n pl v) : v = a pl := by
  obtain ⟨hn, h1, h2⟩ := hv
  have e1 := (h.2.2.1 (fun x => decide (x < v))).trans (ctr_b n)
  have e2 := (h.2.2.1 (fun x => decide (x = v))).trans (ctr_e hn n)
  have e3 := ctp_two (a := a) (v := v) m
  have up : ∀ i, pl ≤ i → i < m → a pl ≤ a i := fun i r1 r2 => by
    by_cases e : pl = i
    · rw [e]; exact Int32.le_refl _
    · exact h.2.1 pl i (by omega) r2
  have dn : ∀ i, i ≤ pl → a i ≤ a pl := fun i r1 => by
    by_cases e : i = pl
    · rw [e]; exact Int32.le_refl _
    · exact h.2.1 i pl (by omega) hp
  refine Int32.le_antisymm (Int32.not_lt.mp (fun q => ?_)) (Int32.not_lt.mp (fun q => ?_))
  · have g : pl + 1 ≤ ctp (fun x => decide (x < v)) a m := ctp_ge m (by omega) (fun i hi => decide_eq_true (Int32.lt_of_le_of_lt (dn i (by omega)) q))
    omega
  · have g : ctp (fun x => decide (x ≤ v)) a m ≤ pl := ctp_le m (fun i hi z => Nat.lt_of_not_le (fun r => Int32.not_lt.mpr (Int32.le_trans (up i r hi) (of_decide_eq_true z)) q))
    omega
theorem sme_ex {vv : Nat → Int32} {c : Nat} {v : Int32} : ∀ n, 0 < sme vv c v n → ∃ r, r < n ∧ vv (6 * r + c) = v
  | 0, h => absurd h (Nat.lt_irrefl 0)
  | n + 1, h => by
    by_cases e : vv (6 * n + c) = v
    · exact ⟨n, by omega, e⟩
    · have h1 : 0 < sme vv c v n + (if vv (6 * n + c) = v then 1 else 0) := h
      rw [if_neg e] at h1
      obtain ⟨r, hr, z⟩ := sme_ex n h1
      exact ⟨r, by omega, z⟩
theorem sme_pos {vv : Nat → Int32} {c : Nat} {v : Int32} : ∀ n r, r < n → vv (6 * r + c) = v → 0 < sme vv c v n
  | 0, r, h, _ => absurd h (by omega)
  | n + 1, r, h, q => by
    show 0 < sme vv c v n + _
    by_cases e : r = n
    · rw [← e, if_pos q]; omega
    · have := sme_pos n r (by omega) q
      omega
theorem siv_ioF {vv : Nat → Int32} {c n m pl : Nat} {a : Nat → Int32} (h : SIV vv c n a m) (hp : pl < m) : ioF vv c n pl n = a pl := by
  have hi := siv_iov h hp
  obtain ⟨r0, hr0, e0⟩ := sme_ex n (by have := hi.2.1; have := hi.2.2; omega : 0 < sme vv c (a pl) n)
  suffices hs : ∀ k, k ≤ n → n - k ≤ r0 → ioF vv c n pl k = a pl from hs n (Nat.le_refl _) (by omega)
  intro k
  induction k with
  | zero => intro _ q; exact absurd q (by omega)
  | succ k ih =>
    intro hk hq
    show (if IOV vv c n pl (vv (6 * (n - (k + 1)) + c)) then _ else _) = _
    by_cases z : IOV vv c n pl (vv (6 * (n - (k + 1)) + c))
    · rw [if_pos z]; exact siv_un h hp z
    · rw [if_neg z]
      refine ih (by omega) (Nat.le_of_not_lt (fun w => z ?_))
      rw [show n - (k + 1) = r0 by omega, e0]
      exact hi
theorem mnx_kn {vv : Nat → Int32} {c : Nat} : ∀ n r, r < n → ¬ vv (6 * r + c) = -2147483648 → 0 < (mnx vv c n).1
  | 0, r, h, _ => absurd h (by omega)
  | n + 1, r, h, q => by
    by_cases e : vv (6 * n + c) = -2147483648
    · rw [mnx_m e]
      exact mnx_kn n r (by
        have : r ≠ n := fun z => q (by rw [z]; exact e)
        omega) q
    · rw [mnx_k e]; exact Nat.succ_pos _
theorem mnx_p {vv : Nat → Int32} {c : Nat} : ∀ n, 0 < (mnx vv c n).1 → (∀ r, r < n → ¬ vv (6 * r + c) = -2147483648 → (mnx vv c n).2.1 ≤ vv (6 * r + c) ∧ vv (6 * r + c) ≤ (mnx vv c n).2.2) ∧ (∃ r, r < n ∧ ¬ vv (6 * r + c) = -2147483648 ∧ vv (6 * r + c) = (mnx vv c n).2.1) ∧ (∃ r, r < n ∧ ¬ vv (6 * r + c) = -2147483648 ∧ vv (6 * r + c) = (mnx vv c n).2.2)
  | 0, h => absurd h (Nat.lt_irrefl 0)
  | n + 1, h => by
    by_cases hv : vv (6 * n + c) = -2147483648
    · rw [mnx_m hv] at h ⊢
      obtain ⟨i1, ⟨r1, a1, b1⟩, ⟨r2, a2, b2⟩⟩ := mnx_p n h
      refine ⟨fun r hr hk => ?_, ⟨r1, by omega, b1⟩, ⟨r2, by omega, b2⟩⟩
      by_cases e : r = n
      · rw [e] at hk; exact absurd hv hk
      · exact i1 r (by omega) hk
    · rw [mnx_k hv]
      by_cases z : (mnx vv c n).1 = 0
      · rw [if_pos (Or.inl z), if_pos (Or.inl z)]
        refine ⟨fun r hr hk => ?_, ⟨n, by omega, hv, rfl⟩, ⟨n, by omega, hv, rfl⟩⟩
        by_cases e : r = n
        · rw [e]; exact ⟨Int32.le_refl _, Int32.le_refl _⟩
        · exact absurd z (Nat.ne_of_gt (mnx_kn n r (by omega) hk))
      · obtain ⟨i1, ⟨r1, a1, b1, c1⟩, ⟨r2, a2, b2, c2⟩⟩ := mnx_p n (Nat.pos_of_ne_zero z)
        refine ⟨fun r hr hk => ⟨?_, ?_⟩, ?_, ?_⟩
        · show (if _ then _ else _) ≤ _
          split
          · rename_i q
            have q1 := q.resolve_left z
            by_cases e : r = n
            · rw [e]; exact Int32.le_refl _
            · exact Int32.le_trans (Int32.le_of_lt q1) (i1 r (by omega) hk).1
          · rename_i q
            by_cases e : r = n
            · rw [e]; exact Int32.not_lt.mp (fun w => q (Or.inr w))
            · exact (i1 r (by omega) hk).1
        · show _ ≤ (if _ then _ else _)
          split
          · rename_i q
            have q1 := q.resolve_left z
            by_cases e : r = n
            · rw [e]; exact Int32.le_refl _
            · exact Int32.le_trans (i1 r (by omega) hk).2 (Int32.le_of_lt q1)
          · rename_i q
            by_cases e : r = n
            · rw [e]; exact Int32.not_lt.mp (fun w => q (Or.inr w))
            · exact (i1 r (by omega) hk).2
        · by_cases q : (mnx vv c n).1 = 0 ∨ vv (6 * n + c) < (mnx vv c n).2.1
          · exact ⟨n, by omega, hv, (if_pos q).symm⟩
          · exact ⟨r1, by omega, b1, c1.trans (if_neg q).symm⟩
        · by_cases q : (mnx vv c n).1 = 0 ∨ (mnx vv c n).2.2 < vv (6 * n + c)
          · exact ⟨n, by omega, hv, (if_pos q).symm⟩
          · exact ⟨r2, by omega, b2, c2.trans (if_neg q).symm⟩
theorem blw_0 {vv : Nat → Int32} {c : Nat} {v : Int32} : ∀ n, (∀ r, r < n → ¬ vv (6 * r + c) = -2147483648 → v ≤ vv (6 * r + c)) → blw vv c v n = 0
  | 0, _ => rfl
  | n + 1, h => by
    show blw vv c v n + _ = 0
    rw [blw_0 n (fun r hr => h r (by omega)), if_neg (fun q => Int32.not_lt.mpr (h n (by omega) q.1) q.2)]
theorem blw_all {vv : Nat → Int32} {c : Nat} {v : Int32} (hv : ¬ v = -2147483648) : ∀ n, (∀ r, r < n → ¬ vv (6 * r + c) = -2147483648 → vv (6 * r + c) ≤ v) → blw vv c v n + sme vv c v n = (mnx vv c n).1
  | 0, _ => rfl
  | n + 1, h => by
    have ih := blw_all hv n (fun r hr => h r (by omega))
    show (blw vv c v n + (if _ then 1 else 0)) + (sme vv c v n + (if _ then 1 else 0)) = _
    by_cases e : vv (6 * n + c) = -2147483648
    · rw [mnx_m e, if_neg (fun q => q.1 e), if_neg (fun q => hv (q.symm.trans e))]
      omega
    · rw [mnx_k e]
      show _ = (mnx vv c n).1 + 1
      have hl := h n (by omega) e
      by_cases z : vv (6 * n + c) = v
      · rw [if_neg (fun q => Int32.lt_irrefl (a := v) (by have := q.2; rw [z] at this; exact this)), if_pos z]
        omega
      · rw [if_pos ⟨e, Int32.lt_of_le_of_ne hl z⟩, if_neg z]
        omega
theorem siv_fi {vv : Nat → Int32} {c n m : Nat} {a : Nat → Int32} (h : SIV vv c n a m) (hp : 0 < m) : (mnx vv c n).2.1 = a 0 := by
  obtain ⟨i1, ⟨r1, a1, b1, c1⟩, _⟩ := mnx_p n (by rw [← h.1]; exact hp)
  have s := sme_pos n r1 a1 c1
  have b := blw_0 n (fun r hr hk => (i1 r hr hk).1)
  exact siv_un h hp ⟨by rw [← c1]; exact b1, by omega, by omega⟩
theorem siv_la {vv : Nat → Int32} {c n m : Nat} {a : Nat → Int32} (h : SIV vv c n a m) (hp : 0 < m) : (mnx vv c n).2.2 = a (m - 1) := by
  obtain ⟨i1, _, ⟨r1, a1, b1, c1⟩⟩ := mnx_p n (by rw [← h.1]; exact hp)
  have hn : ¬ (mnx vv c n).2.2 = -2147483648 := by rw [← c1]; exact b1
  have s := sme_pos n r1 a1 c1
  have b := blw_all hn n (fun r hr hk => (i1 r hr hk).2)
  have hm := h.1
  exact siv_un h (by omega) ⟨hn, by omega, by omega⟩
theorem ctw_n {fi la : Int32} {k nn w : Nat} (hw : la - fi + 1 = nI w) (hw2 : w < 2 ^ 31) (hk : k < 2 ^ 31) (h0 : 0 < nn) (hn : nn < 2 ^ 31) : ctw fi la k nn = fi + nI (k * w / nn) := by
  unfold ctw
  have hb : k * w < 2 ^ 63 := Nat.lt_of_le_of_lt (Nat.mul_le_mul (Nat.le_of_lt hk) (Nat.le_of_lt hw2)) (by decide)
  rw [hw, nI_l (n := w) hw2, lN_mul, pk_lDiv (a := k * w) (b := nn) hb h0 (by omega), Int64.toInt32_add, Int32.toInt32_toInt64, lN_i]
/-- cuts never fall -/
def CMO (e : Nat → Int32) (fi : Int32) (nn : Nat) : Prop := (∀ k, 1 ≤ k → k < nn → fi ≤ e k) ∧ ∀ j k, 1 ≤ j → j ≤ k → k < nn → e j ≤ e k
theorem fi_add {fi : Int32} {q : Nat} (h1 : -1000000 ≤ fi.toInt) (h2 : fi.toInt ≤ 1000000) (hq : q ≤ 2000001) : (fi + nI q).toInt = fi.toInt + q := by
  rw [Int32.toInt_add, nI_toInt (by omega)]
  exact Int.bmod_eq_of_le (by omega) (by omega)
theorem wid_n {fi la : Int32} (h1 : -1000000 ≤ fi.toInt) (h2 : la.toInt ≤ 1000000) (h3 : fi ≤ la) : ∃ w : Nat, la - fi + 1 = nI w ∧ 1 ≤ w ∧ w ≤ 2000001 := by
  have h4 : fi.toInt ≤ la.toInt := Int32.le_iff_toInt_le.mp h3
  refine ⟨(la.toInt - fi.toInt + 1).toNat, ?_, by omega, by omega⟩
  apply nI_ofI _ (by omega)
  have e0 : (la.toInt - fi.toInt).bmod (2 ^ 32) = la.toInt - fi.toInt := Int.bmod_eq_of_le (by omega) (by omega)
  have e1 : (la.toInt - fi.toInt + 1).bmod (2 ^ 32) = la.toInt - fi.toInt + 1 := Int.bmod_eq_of_le (by omega) (by omega)
  have e2 : (1 : Int32).toInt = 1 := by decide
  rw [Int32.toInt_add, Int32.toInt_sub, e2, e0, e1]
  omega
theorem kw_le {k nn w : Nat} (hk : k < nn) : k * w / nn ≤ w := by
  apply Nat.div_le_of_le_mul
  exact Nat.mul_le_mul_right w (Nat.le_of_lt hk)
theorem km_lt {k nn m : Nat} (hk : k < nn) (hm : 0 < m) : k * m / nn < m := by
  apply Nat.div_lt_of_lt_mul
  exact Nat.mul_lt_mul_of_pos_right hk hm
theorem cmo_w {fi la : Int32} {nn : Nat} (h1 : -1000000 ≤ fi.toInt) (h2 : la.toInt ≤ 1000000) (h3 : fi ≤ la) (hn : nn < 2 ^ 31) : CMO (fun k => ctw fi la k nn) fi nn := by
  obtain ⟨w, hw, w1, w2⟩ := wid_n h1 h2 h3
  have h4 : fi.toInt ≤ la.toInt := Int32.le_iff_toInt_le.mp h3
  refine ⟨fun k k1 k2 => ?_, fun j k j1 jk k2 => ?_⟩
  · show fi ≤ ctw fi la k nn
    rw [ctw_n hw (by omega) (by omega) (by omega) hn, Int32.le_iff_toInt_le, fi_add h1 (by omega) (Nat.le_trans (kw_le k2) w2)]
    exact Int.le_add_of_nonneg_right (Int.natCast_nonneg _)
  · show ctw fi la j nn ≤ ctw fi la k nn
    rw [ctw_n hw (by omega) (by omega) (by omega) hn, ctw_n hw (by omega) (by omega) (by omega) hn, Int32.le_iff_toInt_le, fi_add h1 (by omega) (Nat.le_trans (kw_le k2) w2), fi_add h1 (by omega) (Nat.le_trans (kw_le (by omega)) w2)]
    have : j * w / nn ≤ k * w / nn := Nat.div_le_div_right (Nat.mul_le_mul_right w jk)
    omega
theorem cmo_c {vv : Nat → Int32} {c n m nn : Nat} {a : Nat → Int32} (h : SIV vv c n a m) (hp : 0 < m) : CMO (fun k => ioF vv c n (k * m / nn) n) (a 0) nn := by
  have up : ∀ i j, i ≤ j → j < m → a i ≤ a j := fun i j r1 r2 => by
    by_cases e : i = j
    · rw [e]; exact Int32.le_refl _
    · exact h.2.1 i j (by omega) r2
  refine ⟨fun k k1 k2 => ?_, fun j k j1 jk k2 => ?_⟩
  · show a 0 ≤ ioF vv c n (k * m / nn) n
    rw [siv_ioF h (km_lt k2 hp)]
    exact up 0 _ (Nat.zero_le _) (km_lt k2 hp)
  · show ioF vv c n (j * m / nn) n ≤ ioF vv c n (k * m / nn) n
    rw [siv_ioF h (km_lt k2 hp), siv_ioF h (km_lt (by omega) hp)]
    exact up _ _ (Nat.div_le_div_right (Nat.mul_le_mul_right m jk)) (km_lt k2 hp)
theorem cmo_v {vv : Nat → Int32} {c n m nn : Nat} {a : Nat → Int32} {bc : Int32} (h : SIV vv c n a m) (hp : 0 < m) (h1 : -1000000 ≤ (a 0).toInt) (h2 : (a (m - 1)).toInt ≤ 1000000) (hn : nn < 2 ^ 31) : CMO (ctv bc vv c n nn) (a 0) nn := by
  have h3 : a 0 ≤ a (m - 1) := by
    by_cases e : 0 = m - 1
    · rw [← e]; exact Int32.le_refl _
    · exact h.2.1 0 (m - 1) (by omega) (by omega)
  by_cases b : bc = 0
  · have e : ctv bc vv c n nn = fun k => ctw (a 0) (a (m - 1)) k nn := by
      funext k
      unfold ctv
      rw [if_pos b, siv_fi h hp, siv_la h hp]
    rw [e]; exact cmo_w h1 h2 h3 hn
  · have e : ctv bc vv c n nn = fun k => ioF vv c n (k * m / nn) n := by
      funext k
      unfold ctv
      rw [if_neg b, ← h.1]
    rw [e]; exact cmo_c h hp
/-- the edges so far: the class's own array, and the last cut -/
def LST (e : Nat → Int32) (fi : Int32) (b : Nat) (g0 : Nat → Int32) (k : Nat) (last : Int32) (me : Nat) (ef : Nat → Int32) : Prop := me = (ctE e fi b g0 k).1 ∧ (∀ i, i < me → ef i = (ctE e fi b g0 k).2 (b + i)) ∧ (∀ i, i < me → fi < ef i ∧ ef i ≤ last) ∧ fi ≤ last ∧ (last = fi ∨ ∃ i, i < me ∧ ef i = last) ∧ (last = fi ∨ ∃ j, 1 ≤ j ∧ j ≤ k ∧ last = e j) ∧ ∀ i j, i < j → j < me → ef i < ef j
theorem lst_0 {e : Nat → Int32} {fi : Int32} {b : Nat} {g0 ef : Nat → Int32} : LST e fi b g0 0 fi 0 ef := ⟨rfl, fun i h => absurd h (by omega), fun i h => absurd h (by omega), Int32.le_refl _, Or.inl rfl, Or.inl rfl, fun i j _ h => absurd h (by omega)⟩
theorem lst_o {e : Nat → Int32} {fi last : Int32} {b k me nn : Nat} {g0 ef : Nat → Int32} (h : LST e fi b g0 k last me ef) (hc : CMO e fi nn) (hk : k + 1 < nn) (hl : ¬ last < e (k + 1)) : LST e fi b g0 (k + 1) last me ef := by
  obtain ⟨i1, i2, i3, i4, i5, i6, i7⟩ := h
  have q : last = e (k + 1) := by
    refine Int32.le_antisymm ?_ (Int32.not_lt.mp hl)
    rcases i6 with z | ⟨j, j1, j2, z⟩
    · rw [z]; exact hc.1 (k + 1) (by omega) hk
    · rw [z]; exact hc.2 j (k + 1) j1 (by omega) hk
  have o : ctE e fi b g0 (k + 1) = ctE e fi b g0 k := ctE_o (by
    rcases i5 with z | ⟨i, hi, z⟩
    · exact Or.inl (q.symm.trans z)
    · exact Or.inr ⟨i, by rw [← i1]; exact hi, by rw [← i2 i hi, z, q]⟩)
  refine ⟨by rw [o]; exact i1, by rw [o]; exact i2, i3, i4, i5, ?_, i7⟩
  rcases i6 with z | ⟨j, j1, j2, z⟩
  · exact Or.inl z
  · exact Or.inr ⟨j, j1, by omega, z⟩
theorem lst_n {e : Nat → Int32} {fi last : Int32} {b k me : Nat} {g0 ef : Nat → Int32} (h : LST e fi b g0 k last me ef) (hl : last < e (k + 1)) : LST e fi b g0 (k + 1) (e (k + 1)) (me + 1) (upd ef me (e (k + 1))) := by
  obtain ⟨i1, i2, i3, i4, i5, i6, i7⟩ := h
  have n : ctE e fi b g0 (k + 1) = ((ctE e fi b g0 k).1 + 1, upd (ctE e fi b g0 k).2 (b + (ctE e fi b g0 k).1) (e (k + 1))) := ctE_n (by
    rintro (z | ⟨i, hi, z⟩)
    · rw [z] at hl; exact Int32.not_lt.mpr i4 hl
    · rw [← i1] at hi
      rw [← i2 i hi] at z
      have := (i3 i hi).2
      rw [z] at this
      exact Int32.not_lt.mpr this hl)
  rw [← i1] at n
  have fl := Int32.lt_of_le_of_lt i4 hl
  refine ⟨by rw [n], fun i hi => ?_, fun i hi => ?_, Int32.le_of_lt fl, Or.inr ⟨me, by omega, pk_us⟩, Or.inr ⟨k + 1, by omega, by omega, rfl⟩, fun i j hij hj => ?_⟩
  · rw [n]
    show _ = upd _ (b + me) _ (b + i)
    by_cases r : i = me
    · rw [r, pk_us, pk_us]
    · rw [pk_un r, pk_un (by omega)]; exact i2 i (by omega)
  · by_cases r : i = me
    · rw [r, pk_us]; exact ⟨fl, Int32.le_refl _⟩
    · rw [pk_un r]
      exact ⟨(i3 i (by omega)).1, Int32.le_trans (i3 i (by omega)).2 (Int32.le_of_lt hl)⟩
  · by_cases r : j = me
    · rw [r, pk_us, pk_un (by omega)]; exact Int32.lt_of_le_of_lt (i3 i (by omega)).2 hl
    · rw [pk_un r, pk_un (by omega)]; exact i7 i j hij (by omega)
/-- other places of the edges stay -/
theorem ctE_fr {e : Nat → Int32} {fi : Int32} {b : Nat} {g0 : Nat → Int32} : ∀ k j, (j < b ∨ b + k ≤ j) → (ctE e fi b g0 k).2 j = g0 j
  | 0, _, _ => rfl
  | k + 1, j, h => by
    have ih := ctE_fr (e := e) (fi := fi) (b := b) (g0 := g0) k j (by omega)
    have hl := ctE_le e fi b g0 k
    show (if _ then _ else _ : Nat × (Nat → Int32)).2 j = _
    split
    · exact ih
    · show upd _ _ _ j = _
      rw [pk_un (by omega)]; exact ih
theorem ctv_w {vv : Nat → Int32} {c n mk nn k wd : Nat} {sa : Nat → Int32} {bc : Int32} (h : SIV vv c n sa mk) (hp : 0 < mk) (b : bc = 0) (hw : sa (mk - 1) - sa 0 + 1 = nI wd) (h2 : wd < 2 ^ 31) (hk : k < nn) (hn : nn < 2 ^ 31) : sa 0 + nI (k * wd / nn) = ctv bc vv c n nn k := by
  unfold ctv
  rw [if_pos b, siv_fi h hp, siv_la h hp]
  exact (ctw_n hw h2 (by omega) (by omega) hn).symm
theorem ctv_c {vv : Nat → Int32} {c n mk nn k : Nat} {sa : Nat → Int32} {bc : Int32} (h : SIV vv c n sa mk) (hp : 0 < mk) (b : ¬ bc = 0) (hk : k < nn) : sa (k * mk / nn) = ctv bc vv c n nn k := by
  unfold ctv
  rw [if_neg b, ← h.1]
  exact (siv_ioF h (km_lt hk hp)).symm
/-- the class's edges of a column cut anew -/
def CUR (bc : Int32) (vv : Nat → Int32) (c n nn : Nat) (eg : Nat → Int32) (m : Nat) (ef : Nat → Int32) : Prop := m ≤ 11 ∧ m = (cutF bc vv c n nn eg).1 ∧ (∀ i, i < m → ef i = (cutF bc vv c n nn eg).2 (11 * c + i)) ∧ ∀ i j, i < j → j < m → ef i < ef j
theorem cur_0 {vv : Nat → Int32} {c n nn : Nat} {sa eg ef : Nat → Int32} {bc : Int32} (h : SIV vv c n sa 0) : CUR bc vv c n nn eg 0 ef := by
  refine ⟨by omega, ?_, fun i hi => absurd hi (by omega), fun i j _ hj => absurd hj (by omega)⟩
  unfold cutF
  rw [if_pos h.1.symm]
theorem cur_e {vv : Nat → Int32} {c n nn mk k me : Nat} {sa eg ef : Nat → Int32} {bc last : Int32} (h : SIV vv c n sa mk) (hp : 0 < mk) (hl : LST (ctv bc vv c n nn) (sa 0) (11 * c) eg k last me ef) (hk : nn = k + 1) (hn : nn ≤ 12) : CUR bc vv c n nn eg me ef := by
  have e : cutF bc vv c n nn eg = ctE (ctv bc vv c n nn) (sa 0) (11 * c) eg k := by
    unfold cutF
    rw [if_neg (by rw [← h.1]; omega), siv_fi h hp, show nn - 1 = k by omega]
  have hle := ctE_le (ctv bc vv c n nn) (sa 0) (11 * c) eg k
  refine ⟨by rw [hl.1]; omega, by rw [e]; exact hl.1, by rw [e]; exact hl.2.1, hl.2.2.2.2.2.2⟩
theorem siv_up {vv : Nat → Int32} {c n m : Nat} {a : Nat → Int32} (h : SIV vv c n a m) (hp : 0 < m) : a 0 ≤ a (m - 1) := by
  by_cases e : 0 = m - 1
  · rw [← e]; exact Int32.le_refl _
  · exact h.2.1 0 (m - 1) (by omega) (by omega)
