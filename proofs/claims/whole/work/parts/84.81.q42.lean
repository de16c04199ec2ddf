/-! The law: what a call leaves. -/
theorem RSp.any {cT : Nat → ClassId} {ad : Nat → Nat} {g : Nat → Option va_E} {n : Nat} {zs : Nat → Int} (h : RSp cT ad g n zs) (n2 : Nat) : ∃ zs2, RSp cT ad g n2 zs2 := by
  have h2 : ∀ i, ∃ z, i < 48 → WHO cT ad g (100 + i) (150 + i) 24 z := fun i => by
    by_cases q : i < 48
    · obtain ⟨z, e, _⟩ := h.2 i q
      exact ⟨z, fun _ => e⟩
    · exact ⟨0, fun r => absurd r q⟩
  exact ⟨fun i => Classical.choose (h2 i), h.1, fun i hi => ⟨Classical.choose (h2 i), Classical.choose_spec (h2 i) hi, fun _ => rfl⟩⟩
/-- the object, the table, the targets, the plan, the columns, the out are new; nothing else -/
theorem CLI.up {cT : Nat → ClassId} {ad : Nat → Nat} {g g2 : Nat → Option va_E} {tE T T2 fm : Nat} {mk : Nat → Nat} {F : TFR} {n wd n2 wd2 : Nat} {vv vq eg ik vv2 vq2 eg2 ik2 : Nat → Int32} {ne ne2 : Nat → Nat} {tg tg2 : Nat → Int32} {dpt lst w ru rl dpt2 lst2 w2 ru2 rl2 : Nat} {psb psb2 : Int64} {pcb pcb2 : Int32} {Lo Lo2 : Nat} {fo fo2 : Nat → Int32} (h : CLI cT ad g tE T fm mk F n wd vv vq eg ik ne tg dpt lst w ru rl psb pcb Lo fo) (hT : T2 ≤ T)
    (f : ∀ z8, z8 ≠ 0 → z8 ≠ 1 → z8 ≠ 3 → z8 ≠ 4 → (z8 < 10 ∨ 40 ≤ z8) → z8 ≠ 41 → z8 ≠ 48 → g2 z8 = g z8) (c0 : g2 0 = some (eOB ad (nI T2))) (c1 : g2 1 = some (eTB ad (nI wd2) (nI n2))) (c3 : TGp cT g2 n2 tg2) (c4 : g2 4 = some (ePL (nI dpt2) (nI lst2) (nI w2) (nI ru2) (nI rl2) psb2 pcb2)) (cc : COLF cT ad g2 n2 vv2 vq2 eg2 ik2 ne2) (co : OUTp cT ad g2 Lo2 fo2) (c48 : ∃ sa : Nat → Int32, g2 48 = some (eA (cT 0) 48 sa)) :
    CLI cT ad g2 tE T2 fm mk F n2 wd2 vv2 vq2 eg2 ik2 ne2 tg2 dpt2 lst2 w2 ru2 rl2 psb2 pcb2 Lo2 fo2 := by
  obtain ⟨⟨a1, a2, a3, a4, ⟨zs, a5⟩, ⟨z50, a6⟩, ⟨z52, a7⟩⟩, _, _, ⟨z54, b4⟩, ⟨z56, b5⟩, z58, b6⟩ := h
  have fw : ∀ z8, 49 ≤ z8 → g2 z8 = g z8 := fun z8 hz => f z8 (by omega) (by omega) (by omega) (by omega) (by omega) (by omega) (by omega)
  obtain ⟨h1, h2, h3, h4, h5, h6, h7, h8, ⟨fo9, h9⟩, b9, t9, cs, ik0, i1, i2, i3⟩ := a5
  obtain ⟨zs2, h2'⟩ := h2.any n2
  refine ⟨⟨c0, c3, a3.cg (f _ (by omega) (by omega) (by omega) (by omega) (by omega) (by omega) (by omega)) (f _ (by omega) (by omega) (by omega) (by omega) (by omega) (by omega) (by omega)) (fun z hz => fw z (by omega)), fun t ht => (a4 t (by omega)).cg2 (fun z hz => fw z (by omega)), ⟨zs2, c1, h2'.cg (f _ (by omega) (by omega) (by omega) (by omega) (by omega) (by omega) (by omega)) (fun x x1 x2 => fw x (by omega)), h3.cg (f _ (by omega) (by omega) (by omega) (by omega) (by omega) (by omega) (by omega)), cc, c4, ?_, h7.cg (fun x x1 x2 => fw x (by omega)), fun j hj => ?_, ⟨fo9, (f _ (by omega) (by omega) (by omega) (by omega) (by omega) (by omega) (by omega)).trans h9⟩, b9, t9, cs, ik0, (f _ (by omega) (by omega) (by omega) (by omega) (by omega) (by omega) (by omega)).trans i1, i2, i3.cg i2 (fun x x1 x2 => fw x (by omega))⟩, ⟨z50, a6.cg (fw _ (by omega)) (fw _ (by omega))⟩, ⟨z52, a7.cg (fw _ (by omega)) (fw _ (by omega))⟩⟩, co, c48, ⟨z54, b4.cg (fw _ (by omega)) (fw _ (by omega))⟩, ⟨z56, b5.cg (fw _ (by omega)) (fw _ (by omega))⟩, z58, b6.cg (fw _ (by omega)) (fw _ (by omega))⟩
  · obtain ⟨qf, e1, e2⟩ := h6
    exact ⟨qf, (f _ (by omega) (by omega) (by omega) (by omega) (by omega) (by omega) (by omega)).trans e1, e2⟩
  · obtain ⟨r, z, e⟩ := h8 j hj
    exact ⟨r, z, e.cg (fw _ (by omega)) (fw _ (by omega)) (fw _ (by omega))⟩
/-- bounds of an int, as bounds of its number -/
theorem i_bd {a : Int32} {lo hi : Int32} (h : lo ≤ a ∧ a ≤ hi) : lo.toInt ≤ a.toInt ∧ a.toInt ≤ hi.toInt := ⟨Int32.le_iff_toInt_le.mp h.1, Int32.le_iff_toInt_le.mp h.2⟩
theorem tg_up {tg : Nat → Int32} {n r : Nat} {v : Int32} (h : ∀ i, i < n → -1000 ≤ (tg i).toInt ∧ (tg i).toInt ≤ 1000) (hv : (-1000) ≤ v ∧ v ≤ 1000) {n2 : Nat} (hn : ∀ i, i < n2 → i = r ∨ i < n) : ∀ i, i < n2 → -1000 ≤ (upd tg r v i).toInt ∧ (upd tg r v i).toInt ≤ 1000 := fun i hi => by
  by_cases q : i = r
  · rw [q, pk_us]
    have h1 := i_bd hv
    have e1 : (-1000 : Int32).toInt = -1000 := by decide
    have e2 : (1000 : Int32).toInt = 1000 := by decide
    omega
  · rw [pk_un q]
    exact h i ((hn i hi).resolve_left q)
theorem tak_ok {k v : Int32} (h : takB k v = true) : v = -2147483648 ∨ vokB k v = true := by
  unfold takB at h
  rcases Bool.or_eq_true_iff.mp h with q | q
  · exact Or.inl (of_decide_eq_true q)
  · exact Or.inr q
theorem tak_no {k v : Int32} (h : ¬ takB k v = true) : ¬ v = -2147483648 ∧ vokB k v = false ∧ takB k v = false := by
  have h2 := Bool.eq_false_iff.mpr h
  unfold takB at h2
  rw [Bool.or_eq_false_iff] at h2
  exact ⟨of_decide_eq_false h2.1, h2.2, Bool.eq_false_iff.mpr h⟩
theorem vok_k9 {k v : Int32} (h : vokB k v = true) (hk : ¬ k = 0) : 0 ≤ v ∧ v < 12 := by
  unfold vokB at h
  rw [if_neg hk] at h
  have h2 := of_decide_eq_true h
  refine ⟨h2.1, Int32.lt_iff_toInt_lt.mpr ?_⟩
  have h3 := (i_bd h2).2
  have e1 : (11 : Int32).toInt = 11 := by decide
  have e2 : (12 : Int32).toInt = 12 := by decide
  omega
theorem vok_b {k v : Int32} (h : vokB k v = true) : -1000000 ≤ v.toInt ∧ v.toInt ≤ 1000000 := by
  unfold vokB at h
  have e1 : (-1000000 : Int32).toInt = -1000000 := by decide
  have e2 : (1000000 : Int32).toInt = 1000000 := by decide
  have e3 : (0 : Int32).toInt = 0 := by decide
  have e4 : (11 : Int32).toInt = 11 := by decide
  split at h
  · have h2 := i_bd (of_decide_eq_true h); omega
  · have h2 := i_bd (of_decide_eq_true h); omega
/-- a value is put -/
theorem vk_up {vv ik : Nat → Int32} {n r c0 : Nat} {v : Int32} (hc : c0 < 6) (h : ∀ c, c < 6 → ¬ ik c = 0 → ∀ r, r < n → ¬ vv (6 * r + c) = (-2147483648) → 0 ≤ vv (6 * r + c) ∧ vv (6 * r + c) < 12) (hv : v = -2147483648 ∨ vokB (ik c0) v = true) : ∀ c, c < 6 → ¬ ik c = 0 → ∀ r2, r2 < n → ¬ upd vv (6 * r + c0) v (6 * r2 + c) = (-2147483648) → 0 ≤ upd vv (6 * r + c0) v (6 * r2 + c) ∧ upd vv (6 * r + c0) v (6 * r2 + c) < 12 := fun c hc6 hk r2 hr hm => by
  by_cases q : 6 * r2 + c = 6 * r + c0
  · rw [q, pk_us] at hm ⊢
    have e : c = c0 := by omega
    rw [e] at hk
    exact vok_k9 (hv.resolve_left hm) hk
  · rw [pk_un q] at hm ⊢
    exact h c hc6 hk r2 hr hm
theorem vb_up {vv ik : Nat → Int32} {n r c0 : Nat} {v : Int32} (h : ∀ c, c < 6 → ∀ r, r < n → ¬ vv (6 * r + c) = -2147483648 → -1000000 ≤ (vv (6 * r + c)).toInt ∧ (vv (6 * r + c)).toInt ≤ 1000000) (hv : v = -2147483648 ∨ vokB (ik c0) v = true) : ∀ c, c < 6 → ∀ r2, r2 < n → ¬ upd vv (6 * r + c0) v (6 * r2 + c) = -2147483648 → -1000000 ≤ (upd vv (6 * r + c0) v (6 * r2 + c)).toInt ∧ (upd vv (6 * r + c0) v (6 * r2 + c)).toInt ≤ 1000000 := fun c hc6 r2 hr hm => by
  by_cases q : 6 * r2 + c = 6 * r + c0
  · rw [q, pk_us] at hm ⊢
    exact vok_b (hv.resolve_left hm)
  · rw [pk_un q] at hm ⊢
    exact h c hc6 r2 hr hm
/-- columns whose values are the same in the rows that count -/
theorem COLF.vv {cT : Nat → ClassId} {ad : Nat → Nat} {g : Nat → Option va_E} {n : Nat} {vv v2 vq eg ik : Nat → Int32} {ne : Nat → Nat} (h : COLF cT ad g n vv vq eg ik ne) (hv : ∀ q, q < 6 * n → v2 q = vv q) : COLF cT ad g n v2 vq eg ik ne := fun c hc => by
  obtain ⟨fv, fe, e1, e2, e3⟩ := h c hc
  exact ⟨fv, fe, e1, fun r hr => (e2 r hr).trans (hv _ (by omega)).symm, e3⟩
theorem ris_0 {eg : Nat → Int32} {b : Nat} : RIS eg b 0 := fun i j _ h => absurd h (by omega)
theorem kal_k {vv : Nat → Int32} {c n : Nat} (h : KAL vv c n) (r : Nat) (hr : r < n) (hm : ¬ vv (6 * r + c) = (-2147483648)) : 0 ≤ vv (6 * r + c) ∧ vv (6 * r + c) < 12 := by
  have h1 := h r hr
  generalize vv (6 * r + c) = v at h1 hm ⊢
  have h2 : 0 ≤ v ∧ v ≤ 11 := Classical.byContradiction (fun q => by
    have h3 : kb false v = true := by
      unfold kb
      rw [decide_eq_true hm, decide_eq_true q]
      rfl
    rw [h1] at h3
    exact absurd h3 (by decide))
  refine ⟨h2.1, Int32.lt_iff_toInt_lt.mpr ?_⟩
  have h3 := (i_bd h2).2
  have e1 : (11 : Int32).toInt = 11 := by decide
  have e2 : (12 : Int32).toInt = 12 := by decide
  omega
theorem LWI.out {cT : Nat → ClassId} {ad : Nat → Nat} {g g2 : Nat → Option va_E} {tE T fm : Nat} {mk : Nat → Nat} {F : TFR} {n wd dpt lst w ru rl : Nat} {ne : Nat → Nat} {Lo Lo2 : Nat} {yi yi2 : Nat → Int32} {ysb : Int64} {yA yA2 : Nat → Nat → Int32} {fo2 : Nat → Int32} (h : LWI cT ad g tE T fm mk F n wd dpt lst w ru rl ne Lo yi ysb yA) (hC : CLI cT ad g2 tE T fm mk F n wd (yA 5) (yA 9) (yA 7) (yA 6) ne (yA 4) dpt lst w ru rl ysb (yi 16) Lo2 fo2) (hy : YK2 yi yi2) (h47 : yi2 47 = nI Lo2) (hA : ∀ k, KYA k → k ≠ 48 → yA2 k = yA k) (h48 : ∀ i, i < Lo2 → fo2 i = yA2 48 i) (hL : Lo2 ≤ 866) : LWI cT ad g2 tE T fm mk F n wd dpt lst w ru rl ne Lo2 yi2 ysb yA2 := by
  obtain ⟨fo, _, ⟨r2, r3, r4, r5, r6, r7, r8, r9, r10, r11, r12, r13, r14, r15, r16⟩, ⟨p1, p2, p3, p4, p5, p6, p7, p8, p9, p10⟩⟩ := h
  have K : ∀ k, (k = 0 ∨ (4 ≤ k ∧ k ≤ 9) ∨ k = 18 ∨ k = 27 ∨ k = 28 ∨ k = 48) → k ≠ 48 → yA2 k = yA k := hA
  have Y : ∀ k, k ≠ 1 → k ≠ 47 → yi2 k = yi k := hy
  refine ⟨fo2, ?_, ?_, ?_⟩
  · rw [K 5 (by omega) (by omega), K 9 (by omega) (by omega), K 7 (by omega) (by omega), K 6 (by omega) (by omega), K 4 (by omega) (by omega), Y 16 (by omega) (by omega)]; exact hC
  · unfold RFI
    rw [K 8 (by omega) (by omega), K 18 (by omega) (by omega), K 27 (by omega) (by omega), K 28 (by omega) (by omega), K 0 (by omega) (by omega), Y 2 (by omega) (by omega), Y 3 (by omega) (by omega), Y 10 (by omega) (by omega), Y 11 (by omega) (by omega), Y 12 (by omega) (by omega), Y 13 (by omega) (by omega), Y 14 (by omega) (by omega), Y 17 (by omega) (by omega), Y 55 (by omega) (by omega)]
    exact ⟨r2, r3, r4, r5, r6, r7, r8, r9, h47, r11, r12, r13, r14, r15, h48⟩
  · rw [K 5 (by omega) (by omega), K 7 (by omega) (by omega), K 6 (by omega) (by omega), K 4 (by omega) (by omega)]; exact ⟨p1, p2, p3, p4, p5, p6, p7, p8, hL, p10⟩
theorem out_0 {cT : Nat → ClassId} {ad : Nat → Nat} {g g2 : Nat → Option va_E} {L : Nat} {fo : Nat → Int32} (h : OUTp cT ad g L fo) (c41 : g2 41 = some (.inr (8, [.ref (ad 42), .int (nI 0), .ref (ad 43), .ref (ad 46)]))) (f : ∀ x, 42 ≤ x → x ≤ 47 → g2 x = g x) : OUTp cT ad g2 0 fo := by
  obtain ⟨_, h2, ⟨uq, h3, h4⟩, ⟨z1, h5⟩, z2, h6⟩ := h
  exact ⟨c41, (f _ (by omega) (by omega)).trans h2, ⟨uq, (f _ (by omega) (by omega)).trans h3, h4⟩, ⟨z1, h5.cg (f _ (by omega) (by omega)) (f _ (by omega) (by omega))⟩, z2, h6.cg (f _ (by omega) (by omega)) (f _ (by omega) (by omega))⟩
/-- two tellings of one fraction -/
theorem out_eq {fo fo' : Nat → Int32} {L L' : Nat} {X z z' : Int} {D d d' : Nat} (hD : 0 < D) (r : RDC X D z d) (r' : RDC X D z' d') (h : WRT fo L z d) (h' : WRT fo' L' z' d') : L = L' ∧ ∀ i, i < L → fo i = fo' i := by
  obtain ⟨e1, e2⟩ := rdc_u hD r r'
  rw [← e1, ← e2] at h'
  exact wrt_u h h'
theorem kin_ik {ik : Nat → Int32} {c0 : Nat} {v : Int32} (h : ∀ c, c < 6 → ik c = 0 ∨ ik c = 1) (hv : v = 0 ∨ v = 1) : ∀ c, c < 6 → upd ik c0 v c = 0 ∨ upd ik c0 v c = 1 := fun c hc => by
  by_cases q : c = c0
  · rw [q, pk_us]; exact hv
  · rw [pk_un q]; exact h c hc
theorem kin_ne {ne : Nat → Nat} {c0 m : Nat} (h : ∀ c, c < 6 → ne c ≤ 11) (hm : m ≤ 11) : ∀ c, c < 6 → va_up ne c0 m c ≤ 11 := fun c hc => by
  by_cases q : c = c0
  · rw [q, va_up_self]; exact hm
  · rw [va_up_ne _ _ q]; exact h c hc
theorem kin_em {em em7 : Nat → Int32} {ne : Nat → Nat} {c0 m : Nat} (h : ∀ c, c < 6 → em c = nI (ne c)) (h1 : em7 c0 = nI m) (h2 : ∀ q, q ≠ c0 → em7 q = em q) : ∀ c, c < 6 → em7 c = nI (va_up ne c0 m c) := fun c hc => by
  by_cases q : c = c0
  · rw [q, va_up_self]; exact h1
  · rw [va_up_ne _ _ q, h2 c q]; exact h c hc
theorem kin_S9 {eg ik : Nat → Int32} {ne : Nat → Nat} {c0 : Nat} {v : Int32} (h : ∀ c, c < 6 → ik c = 0 → RIS eg (11 * c) (ne c)) : ∀ c, c < 6 → upd ik c0 v c = 0 → RIS eg (11 * c) (va_up ne c0 0 c) := fun c hc hk => by
  by_cases q : c = c0
  · rw [q, va_up_self]; exact ris_0
  · rw [pk_un q] at hk; rw [va_up_ne _ _ q]; exact h c hc hk
theorem kin_Vk {vv ik : Nat → Int32} {n c0 : Nat} {v : Int32} (hc0 : v = 0 ∨ KAL vv c0 n) (h : ∀ c, c < 6 → ¬ ik c = 0 → ∀ r, r < n → ¬ vv (6 * r + c) = (-2147483648) → 0 ≤ vv (6 * r + c) ∧ vv (6 * r + c) < 12) : ∀ c, c < 6 → ¬ upd ik c0 v c = 0 → ∀ r, r < n → ¬ vv (6 * r + c) = (-2147483648) → 0 ≤ vv (6 * r + c) ∧ vv (6 * r + c) < 12 := fun c hc hk r hr hm => by
  by_cases q : c = c0
  · rw [q, pk_us] at hk
    rw [q] at hm ⊢
    exact kal_k (hc0.resolve_left hk) r hr hm
  · rw [pk_un q] at hk
    exact h c hc hk r hr hm
