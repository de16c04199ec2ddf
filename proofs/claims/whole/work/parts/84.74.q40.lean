/-! The law: class and reference side by side. -/
def SEP (F : TFR) (T : Nat) : Prop := ∀ t, t < T → ∀ k, k < tM F t → ¬ tA F 0 (31 * t + k) = -1 → ¬ dg (tA F 3) (31 * t + k) = dg (tA F 4) (31 * t + k)
def SV7 (a : Nat → Nat → Int32) : Prop := ∀ q, q < 496 → a 7 q = 0 ∨ a 7 q = 1
def CLI (cT : Nat → ClassId) (ad : Nat → Nat) (g : Nat → Option va_E) (tE T fm : Nat) (mk : Nat → Nat) (F : TFR) (n wd : Nat) (vv vq eg ik : Nat → Int32) (ne : Nat → Nat) (tg : Nat → Int32) (dpt lst w ru rl : Nat) (psb : Int64) (pcb : Int32) (Lo : Nat) (fo : Nat → Int32) : Prop :=
  TRV cT ad g tE T fm mk F n wd vv vq eg ik ne tg dpt lst w ru rl psb pcb ∧ OUTp cT ad g Lo fo ∧ (∃ sa : Nat → Int32, g 48 = some (eA (cT 0) 48 sa)) ∧ (∃ z, WHO cT ad g 54 55 48 z) ∧ (∃ z, WHO cT ad g 56 57 48 z) ∧ ∃ z, WHO cT ad g 58 59 48 z
def PUI (T fm : Nat) (F : TFR) (n wd : Nat) (vv eg ik : Nat → Int32) (ne : Nat → Nat) (tg : Nat → Int32) (dpt lst w ru rl Lo : Nat) : Prop :=
  T ≤ fm ∧ T ≤ 16 ∧ n ≤ 48 ∧ wd ≤ 6 ∧ (1 ≤ dpt ∧ dpt ≤ 4) ∧ (1 ≤ lst ∧ lst ≤ 24) ∧ w ≤ 20 ∧ (0 < ru ∧ ru ≤ rl ∧ rl ≤ 16) ∧ Lo ≤ 866 ∧ (∀ c, c < 6 → ne c ≤ 11) ∧ (∀ c, c < 6 → ik c = 0 ∨ ik c = 1) ∧ TOK F T ∧ (∀ c, c < 6 → ik c = 0 → RIS eg (11 * c) (ne c)) ∧ (∀ c, c < 6 → ¬ ik c = 0 → ∀ r, r < n → ¬ vv (6 * r + c) = (-2147483648) → 0 ≤ vv (6 * r + c) ∧ vv (6 * r + c) < 12) ∧
  (∀ c, c < 6 → ∀ r, r < n → ¬ vv (6 * r + c) = -2147483648 → -1000000 ≤ (vv (6 * r + c)).toInt ∧ (vv (6 * r + c)).toInt ≤ 1000000) ∧ (∀ i, i < n → -1000 ≤ (tg i).toInt ∧ (tg i).toInt ≤ 1000) ∧ SEP F T ∧ SV7 (tA F)
def RFI (F : TFR) (T n wd dpt lst w ru rl : Nat) (ne : Nat → Nat) (Lo : Nat) (yi : Nat → Int32) (yA : Nat → Nat → Int32) (fo : Nat → Int32) : Prop :=
  yi 2 = nI wd ∧ yi 3 = nI n ∧ yi 10 = nI dpt ∧ yi 11 = nI lst ∧ yi 12 = nI w ∧ yi 13 = nI ru ∧ yi 14 = nI rl ∧ yi 17 = nI T ∧ yi 47 = nI Lo ∧ yi 55 = nI 0 ∧ (∀ c, c < 6 → yA 8 c = nI (ne c)) ∧ (∀ t, t < T → yA 18 t = nI (tM F t)) ∧ RFN F T (yA 27) (yA 28) ∧ PRI (yA 0) ∧ ∀ i, i < Lo → fo i = yA 48 i
def LWI (cT : Nat → ClassId) (ad : Nat → Nat) (g : Nat → Option va_E) (tE T fm : Nat) (mk : Nat → Nat) (F : TFR) (n wd dpt lst w ru rl : Nat) (ne : Nat → Nat) (Lo : Nat) (yi : Nat → Int32) (ysb : Int64) (yA : Nat → Nat → Int32) : Prop :=
  ∃ fo, CLI cT ad g tE T fm mk F n wd (yA 5) (yA 9) (yA 7) (yA 6) ne (yA 4) dpt lst w ru rl ysb (yi 16) Lo fo ∧ RFI F T n wd dpt lst w ru rl ne Lo yi yA fo ∧ PUI T fm F n wd (yA 5) (yA 7) (yA 6) ne (yA 4) dpt lst w ru rl Lo
/-- the keys of the reference's arrays that count -/
def KYA (k : Nat) : Prop := k = 0 ∨ (4 ≤ k ∧ k ≤ 9) ∨ k = 18 ∨ k = 27 ∨ k = 28 ∨ k = 48
/-- only scratch of the reference has changed -/
theorem LWI.sc {cT : Nat → ClassId} {ad : Nat → Nat} {g : Nat → Option va_E} {tE T fm : Nat} {mk : Nat → Nat} {F : TFR} {n wd dpt lst w ru rl : Nat} {ne : Nat → Nat} {Lo : Nat} {yi yi2 : Nat → Int32} {ysb : Int64} {yA yA2 : Nat → Nat → Int32} (h : LWI cT ad g tE T fm mk F n wd dpt lst w ru rl ne Lo yi ysb yA) (hy : ∀ k, k ≠ 1 → yi2 k = yi k) (hA : ∀ k, KYA k → yA2 k = yA k) : LWI cT ad g tE T fm mk F n wd dpt lst w ru rl ne Lo yi2 ysb yA2 := by
  obtain ⟨fo, h1, ⟨r2, r3, r4, r5, r6, r7, r8, r9, r10, r11, r12, r13, r14, r15, r16⟩, h3⟩ := h
  have K : ∀ k, (k = 0 ∨ (4 ≤ k ∧ k ≤ 9) ∨ k = 18 ∨ k = 27 ∨ k = 28 ∨ k = 48) → yA2 k = yA k := hA
  refine ⟨fo, ?_, ?_, ?_⟩
  · rw [K 5 (by omega), K 9 (by omega), K 7 (by omega), K 6 (by omega), K 4 (by omega), hy 16 (by omega)]; exact h1
  · unfold RFI
    rw [K 8 (by omega), K 18 (by omega), K 27 (by omega), K 28 (by omega), K 0 (by omega), K 48 (by omega), hy 2 (by omega), hy 3 (by omega), hy 10 (by omega), hy 11 (by omega), hy 12 (by omega), hy 13 (by omega), hy 14 (by omega), hy 17 (by omega), hy 47 (by omega), hy 55 (by omega)]
    exact ⟨r2, r3, r4, r5, r6, r7, r8, r9, r10, r11, r12, r13, r14, r15, r16⟩
  · rw [K 5 (by omega), K 7 (by omega), K 6 (by omega), K 4 (by omega)]; exact h3
theorem TRp.cg2 {cT : Nat → ClassId} {ad : Nat → Nat} {g g2 : Nat → Option va_E} {F : TFR} {t : Nat} (h : TRp cT ad g F t) (h1 : ∀ x, 1000 ≤ x → g2 x = g x) : TRp cT ad g2 F t := by
  obtain ⟨m, a1, ⟨cap, md, lf, b1, b2, b3⟩, a3, a4, a5⟩ := h
  refine ⟨m, (h1 _ (by omega)).trans a1, ⟨cap, md, lf, (h1 _ (by omega)).trans b1, (h1 _ (by omega)).trans b2, b3⟩, a3, a4, fun k hk => ⟨?_, (a5 k hk).2.cg (h1 _ (by omega)) (h1 _ (by omega))⟩⟩
  exact (h1 _ (by omega)).trans (a5 k hk).1
/-- only scratch of the class, and its out -/
theorem CLI.sc {cT : Nat → ClassId} {ad : Nat → Nat} {g g2 : Nat → Option va_E} {tE T fm : Nat} {mk : Nat → Nat} {F : TFR} {n wd : Nat} {vv vq eg ik : Nat → Int32} {ne : Nat → Nat} {tg : Nat → Int32} {dpt lst w ru rl : Nat} {psb : Int64} {pcb : Int32} {Lo Lo2 : Nat} {fo fo2 : Nat → Int32} (h : CLI cT ad g tE T fm mk F n wd vv vq eg ik ne tg dpt lst w ru rl psb pcb Lo fo)
    (f : ∀ z8, (z8 < 41 ∨ (59 < z8 ∧ z8 < 100) ∨ 200 ≤ z8) → g2 z8 = g z8) (ho : OUTp cT ad g2 Lo2 fo2) (h48 : ∃ sa : Nat → Int32, g2 48 = some (eA (cT 0) 48 sa)) (hr : ∃ zs, RSp cT ad g2 n zs) (h50 : ∃ z, WHO cT ad g2 50 51 24 z) (h52 : ∃ z, WHO cT ad g2 52 53 24 z) (h54 : ∃ z, WHO cT ad g2 54 55 48 z) (h56 : ∃ z, WHO cT ad g2 56 57 48 z) (h58 : ∃ z, WHO cT ad g2 58 59 48 z) : CLI cT ad g2 tE T fm mk F n wd vv vq eg ik ne tg dpt lst w ru rl psb pcb Lo2 fo2 := by
  obtain ⟨⟨a1, a2, a3, a4, ⟨zs, a5⟩, a6, a7⟩, _⟩ := h
  obtain ⟨zr, hr⟩ := hr
  have hT16 : ∀ t, t < T → TRp cT ad g F t := a4
  refine ⟨⟨(f _ (by omega)).trans a1, ?_, a3.cg (f _ (by omega)) (f _ (by omega)) (fun z hz => f z (by omega)), fun t ht => ?_, ⟨zr, ?_⟩, h50, h52⟩, ho, h48, h54, h56, h58⟩
  · obtain ⟨ft, e1, e2⟩ := a2
    exact ⟨ft, (f _ (by omega)).trans e1, e2⟩
  · exact (a4 t ht).cg2 (fun z hz => f z (by omega))
  · obtain ⟨h1, h2, h3, h4, h5, h6, h7, h8, ⟨fo9, h9⟩, b9, t9, cs, ik0, i1, i2, i3⟩ := a5
    refine ⟨(f _ (by omega)).trans h1, hr, h3.cg (f _ (by omega)), h4.cg (fun x x1 x2 => f x (by omega)), (f _ (by omega)).trans h5, ?_, h7.cg (fun x x1 x2 => f x (by omega)), fun j hj => ?_, ⟨fo9, (f _ (by omega)).trans h9⟩, b9, t9, cs, ik0, (f _ (by omega)).trans i1, i2, i3.cg i2 (fun x x1 x2 => f x (by omega))⟩
    · obtain ⟨qf, e1, e2⟩ := h6
      exact ⟨qf, (f _ (by omega)).trans e1, e2⟩
    · obtain ⟨r, z, e⟩ := h8 j hj
      exact ⟨r, z, e.cg (f _ (by omega)) (f _ (by omega)) (f _ (by omega))⟩
theorem i_nat {a : Int32} {n : Nat} (hn : n < 2 ^ 31) (h : 0 ≤ a ∧ a ≤ nI n - 1) : ∃ r, r < n ∧ a = nI r := by
  have h0 := Int32.le_iff_toInt_le.mp h.1
  have e0 : (0 : Int32).toInt = 0 := by decide
  rcases Nat.eq_zero_or_pos n with q | q
  · exfalso
    subst q
    have h1 := h.2
    have e : nI 0 - 1 = -1 := by decide
    rw [e] at h1
    have h2 := Int32.le_iff_toInt_le.mp h1
    have e1 : (-1 : Int32).toInt = -1 := by decide
    omega
  · have h1 := h.2
    rw [nI_sub1 q] at h1
    have h2 := Int32.le_iff_toInt_le.mp h1
    rw [nI_toInt (by omega)] at h2
    refine ⟨a.toInt.toNat, by omega, Int32.toInt_inj.mp ?_⟩
    rw [nI_toInt (by omega)]
    omega
theorem i_btw {a : Int32} {lo hi : Nat} (hh : hi < 2 ^ 31) (hl : lo ≤ hi) (h : nI lo ≤ a ∧ a ≤ nI hi) : ∃ r, lo ≤ r ∧ r ≤ hi ∧ a = nI r := by
  have h0 := Int32.le_iff_toInt_le.mp h.1
  have h1 := Int32.le_iff_toInt_le.mp h.2
  rw [nI_toInt (by omega)] at h0 h1
  refine ⟨a.toInt.toNat, by omega, by omega, Int32.toInt_inj.mp ?_⟩
  rw [nI_toInt (by omega)]
  omega
theorem sm_le {f : Nat → Nat} {B : Nat} : ∀ k, (∀ t, t < k → f t ≤ B) → SM f k ≤ k * B
  | 0, _ => Nat.zero_le _
  | k + 1, h => by
    have ih := sm_le (f := f) (B := B) k (fun t ht => h t (by omega))
    have h1 := h k (by omega)
    show SM f k + f k ≤ (k + 1) * B
    rw [Nat.add_mul]
    omega
theorem mkr_31 {F : TFR} {T n w lst dpt wd ru rl : Nat} {vv eg ik : Nat → Int32} {ne : Nat → Nat} {chb : Int32} {AA : Int64} {tg : Nat → Int32} {mk : Nat → Nat} (hd : dpt ≤ 4) (h : ∀ t, t < 16 → mk t ≤ 31) : ∀ k, ∀ t, t < 16 → mkr F T n w lst dpt wd ru rl vv eg ik ne chb AA tg mk k t ≤ 31
  | 0, t, ht => h t ht
  | k + 1, t, ht => by
    have ih := mkr_31 (F := F) (T := T) (n := n) (w := w) (lst := lst) (wd := wd) (ru := ru) (rl := rl) (vv := vv) (eg := eg) (ik := ik) (ne := ne) (chb := chb) (AA := AA) (tg := tg) hd h k
    show va_up _ _ _ t ≤ 31
    by_cases q : t = T + k
    · rw [q, va_up_self]
      have h1 := ih (T + k) (by omega)
      have h2 : tM (rds F T n w lst dpt wd ru rl vv eg ik ne chb AA tg (k + 1)) (T + k) ≤ 31 := by
        generalize hG : rds F T n w lst dpt wd ru rl vv eg ik ne chb AA tg k = G
        have e : tM (rds F T n w lst dpt wd ru rl vv eg ik ne chb AA tg (k + 1)) (T + k) = (grw G (T + k) (xR G vv tg (T + k)) n w lst dpt wd vv eg ik ne chb AA).2.1 := by
          show tM (rd1 (rds F T n w lst dpt wd ru rl vv eg ik ne chb AA tg k) (T + k) n w lst dpt wd ru rl vv eg ik ne chb AA tg) (T + k) = _
          rw [hG]
          exact va_up_self _ _ _
        rw [e, ← cgw_grw hd]
        obtain ⟨k9, k1, k2, k3⟩ := cgw_n (best := fun x => colF (xR G vv tg (T + k)) n w lst vv eg ik ne chb x wd) (ik := ik) (b0 := 31 * (T + k)) (dpt := dpt) 4 (tA G, 0, fun _ => 0) AA 0
        rw [k3]
        have k2 : k9 ≤ 31 := k2
        show 0 + k9 ≤ 31
        omega
      omega
    · rw [va_up_ne _ _ q]
      exact ih t ht
theorem fst_31 {cT : Nat → ClassId} {ad : Nat → Nat} {g : Nat → Option va_E} {tE fm : Nat} {mk : Nat → Nat} (h : FST cT ad g tE fm mk) : fm ≤ 16 ∧ ∀ t, t < 16 → mk t ≤ 31 := by
  refine ⟨h.2.1, fun t ht => ?_⟩
  rcases Nat.lt_or_ge t fm with q | q
  · exact (h.2.2.1 t q).2.2.1
  · rw [(h.2.2.2 t q ht).1]; exact Nat.zero_le _
theorem lwi_b {cT : Nat → ClassId} {ad : Nat → Nat} {g : Nat → Option va_E} {tE T fm : Nat} {mk : Nat → Nat} {F : TFR} {n wd dpt lst w ru rl : Nat} {ne : Nat → Nat} {Lo : Nat} {yi : Nat → Int32} {ysb : Int64} {yA : Nat → Nat → Int32} (h : LWI cT ad g tE T fm mk F n wd dpt lst w ru rl ne Lo yi ysb yA) : fm ≤ 16 ∧ SM mk 16 ≤ 496 := by
  obtain ⟨fo, ⟨⟨_, _, h1, _⟩, _⟩, _⟩ := h
  have h2 := fst_31 h1
  exact ⟨h2.1, sm_le 16 h2.2⟩
/-- the world: the reference's cells, the out -/
abbrev LWD (cT : Nat → ClassId) (y : Nat) (yr : Nat → Nat) (zo : Nat) (yi : Nat → Int32) (ysb ybs : Int64) (yA : Nat → Nat → Int32) (yW zf : Nat → Int64) (F : TFR) : va_W :=
  [(y, .inr (11, MO yr yi ysb ybs)), (yr 0, .inl (cT 0, 19, .inl (yA 0))), (yr 4, .inl (cT 0, 48, .inl (yA 4))), (yr 5, .inl (cT 0, 288, .inl (yA 5))), (yr 6, .inl (cT 3, 6, .inl (yA 6))), (yr 7, .inl (cT 0, 66, .inl (yA 7))), (yr 8, .inl (cT 0, 6, .inl (yA 8))), (yr 9, .inl (cT 0, 6, .inl (yA 9))), (yr 18, .inl (cT 0, 16, .inl (yA 18))), (yr 19, .inl (cT 0, 496, .inl (tA F 0))), (yr 20, .inl (cT 0, 496, .inl (tA F 1))), (yr 21, .inl (cT 3, 496, .inl (tA F 2))), (yr 22, .inl (cT 0, 496, .inl (tA F 3))), (yr 23, .inl (cT 0, 496, .inl (tA F 4))), (yr 24, .inl (cT 0, 496, .inl (tA F 5))), (yr 25, .inl (cT 0, 496, .inl (tA F 6))), (yr 26, .inl (cT 3, 496, .inl (tA F 7))), (yr 27, .inl (cT 0, 65472, .inl (yA 27))), (yr 28, .inl (cT 0, 9424, .inl (yA 28))), (yr 29, .inl (cT 0, 302, .inl (yA 29))), (yr 30, .inl (cT 0, 302, .inl (yA 30))), (yr 31, .inl (cT 0, 302, .inl (yA 31))), (yr 32, .inl (cT 0, 302, .inl (yA 32))), (yr 33, .inl (cT 0, 302, .inl (yA 33))), (yr 34, .inl (cT 0, 302, .inl (yA 34))), (yr 35, .inl (cT 0, 302, .inl (yA 35))), (yr 36, .inl (cT 0, 302, .inl (yA 36))), (yr 37, .inl (cT 0, 302, .inl (yA 37))), (yr 38, .inl (cT 0, 302, .inl (yA 38))), (yr 39, .inl (cT 0, 302, .inl (yA 39))), (yr 40, .inl (cT 0, 19, .inl (yA 40))), (yr 41, .inl (cT 0, 19, .inl (yA 41))), (yr 42, .inl (cT 0, 19, .inl (yA 42))), (yr 43, .inl (cT 0, 19, .inl (yA 43))), (yr 44, .inl (cT 0, 19, .inl (yA 44))), (yr 45, .inl (cT 0, 6336, .inl (yA 45))), (yr 46, .inl (cT 0, 912, .inl (yA 46))), (yr 48, .inl (cT 2, 6000, .inl (yA 48))), (yr 49, .inl (cT 2, 3000, .inl (yA 49))), (yr 56, .inl (cT 1, 12, .inr (.inl yW))), (yr 57, .inl (cT 0, 12, .inl (yA 57))), (yr 58, .inl (cT 0, 12, .inl (yA 58))), (yr 59, .inl (cT 3, 12, .inl (yA 59))), (zo, .inl (cT 1, 1, .inr (.inl zf)))]
def LEND (p : Program) (l : Launch) (e : Env) (s : State) (m : MethodId) (args : Array Value) (below : List Frame) (meth : Method) (c : Code) (Q : State → Prop) (A : Nat → Prop) (D : va_G) (cT : Nat → ClassId) (cds : List Nat) (tE y : Nat) (yr : Nat → Nat) (zo b j : Nat) : Prop :=
  ∀ (ad : Nat → Nat) (gg : Nat → Option va_E) (T fm : Nat) (mk : Nat → Nat) (F : TFR) (n wd dpt lst w ru rl : Nat) (ne : Nat → Nat) (Lo : Nat) (yi : Nat → Int32) (ysb ybs : Int64) (yA : Nat → Nat → Int32) (yW zf : Nat → Int64) (H : Heap) (locs : List Loc) (ls : Array Slot),
    LWI cT ad gg tE T fm mk F n wd dpt lst w ru rl ne Lo yi ysb yA → va_P D vwCl (LWD cT y yr zo yi ysb ybs yA yW zf F ++ pg cds ad gg) H → va_D A (LWD cT y yr zo yi ysb ybs yA yW zf F ++ pg cds ad gg) → va_S A s.heap H locs → lv_has ls 7 [(0, .ref b), (1, .ref (ad 0)), (2, .ref y), (3, .ref zo), (4, .int (nI (4 * j)))] →
    W p l e room_1 s m args below meth c H locs (2000 + (j + 1) + 3 * fm + 4 * SM mk 16) (400000 + 6 * (j + 1) + 42 * fm + 69 * SM mk 16) Q (F0 m 1690 ls [])
