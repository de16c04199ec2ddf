/-! Rounds of training. -/
theorem nar_bb (x : Int32) : vp_nar .boolean x = 0 ∨ vp_nar .boolean x = 1 := by
  show x &&& 1 = 0 ∨ x &&& 1 = 1
  have h1 : (x &&& 1).toBitVec = x.toBitVec &&& 1#32 := Int32.toBitVec_and x 1
  have h2 : x.toBitVec &&& 1#32 = 0#32 ∨ x.toBitVec &&& 1#32 = 1#32 := by
    rw [BitVec.and_one_eq_setWidth_ofBool_getLsbD]
    cases x.toBitVec.getLsbD 0
    · exact Or.inl (by decide)
    · exact Or.inr (by decide)
  rcases h2 with q | q
  · exact Or.inl (Int32.toBitVec_inj.mp (by rw [h1, q]; rfl))
  · exact Or.inr (Int32.toBitVec_inj.mp (by rw [h1, q]; rfl))
abbrev xR (F : TFR) (vv tg : Nat → Int32) (T i : Nat) : Int := xF F (rwf vv i) (tg i).toInt T
def rd1 (F : TFR) (T n w lst dpt wd ru rl : Nat) (vv eg ik : Nat → Int32) (ne : Nat → Nat) (chb : Int32) (AA : Int64) (tg : Nat → Int32) : TFR := trn F T (grw F T (xR F vv tg T) n w lst dpt wd vv eg ik ne chb AA) (xR F vv tg T) n w ru rl
def rds (F : TFR) (T n w lst dpt wd ru rl : Nat) (vv eg ik : Nat → Int32) (ne : Nat → Nat) (chb : Int32) (AA : Int64) (tg : Nat → Int32) : Nat → TFR
  | 0 => F
  | k + 1 => rd1 (rds F T n w lst dpt wd ru rl vv eg ik ne chb AA tg k) (T + k) n w lst dpt wd ru rl vv eg ik ne chb AA tg
theorem tg_b {x : Int32} (h : -1000 ≤ x.toInt ∧ x.toInt ≤ 1000) : x.toInt.natAbs ≤ 1000 := by omega
theorem xR_b {F : TFR} {T : Nat} (h : TOK F T) {vv tg : Nat → Int32} {i : Nat} (hx : -1000 ≤ (tg i).toInt ∧ (tg i).toInt ≤ 1000) : (xR F vv tg T i).natAbs ≤ 1000 * 2 ^ T * Ppf F T := xF_b (tg_b hx) h.2
theorem rd_tok {F : TFR} {T n w lst dpt wd ru rl : Nat} {vv eg ik : Nat → Int32} {ne : Nat → Nat} {chb : Int32} {AA : Int64} {tg : Nat → Int32} (h : TOK F T) (hT : T < 16) (hd4 : dpt ≤ 4) (hn : n ≤ 48) (hA : SUBn AA n) (hA0 : 0 < cb AA) (hw : w ≤ 20) (hl : 1 ≤ lst) (hwd : wd ≤ 6) (hr : 0 < ru ∧ ru ≤ rl ∧ rl ≤ 16) (htg : ∀ i, i < n → -1000 ≤ (tg i).toInt ∧ (tg i).toInt ≤ 1000) :
    TOK (rd1 F T n w lst dpt wd ru rl vv eg ik ne chb AA tg) (T + 1) ∧ FEQ F (rd1 F T n w lst dpt wd ru rl vv eg ik ne chb AA tg) T ∧ GIV (fun x => colF (xR F vv tg T) n w lst vv eg ik ne chb x wd) (31 * T) dpt AA (grw F T (xR F vv tg T) n w lst dpt wd vv eg ik ne chb AA).1 (grw F T (xR F vv tg T) n w lst dpt wd vv eg ik ne chb AA).2.1 (grw F T (xR F vv tg T) n w lst dpt wd vv eg ik ne chb AA).2.2 [] :=
  tok_s rfl rfl nar_bb h hT hd4 hn hA hA0 hw hl hwd hr (fun i hi => xR_b h (htg i hi))
theorem rd_all {F : TFR} {T n w lst dpt wd ru rl BB C : Nat} {vv eg ik : Nat → Int32} {ne : Nat → Nat} {chb : Int32} {AA : Int64} {tg : Nat → Int32} {zr : Nat → Int} {up lw up' lw' : Nat → Int32} {a : Nat → Nat → Int32} {m : Nat} {rs : Nat → Int64} (h : TOK F T) (hT : T < 16) (hd4 : dpt ≤ 4) (hn : n ≤ 48) (hA : SUBn AA n) (hA0 : 0 < cb AA) (hw : w ≤ 20) (hl : 1 ≤ lst) (hwd : wd ≤ 6) (hr : 0 < ru ∧ ru ≤ rl ∧ rl ≤ 16) (htg : ∀ i, i < n → -1000 ≤ (tg i).toInt ∧ (tg i).toInt ≤ 1000)
    (hz : ∀ i, i < n → zr i * (Ppf F T : Int) = xR F vv tg T i * (C : Int)) (hC : 0 < C) (hg : (a, m, rs) = gall (fun x => colF zr n w lst vv eg ik ne chb x wd) ik (31 * T) dpt 32 (tA F, 0, fun _ => 0) [(AA, 0, -1, vp_nar .boolean 0)]) (hm : m ≤ 31) (hND : ∀ k, k < m → NDF (fun x => colF zr n w lst vv eg ik ne chb x wd) (xR F vv tg T) n w ru rl (Ppf F T) BB (31 * T) up' lw' (a 0) rs k) (hR : RFN F T up lw) (h1 : ∀ q, q < 132 * (31 * T) → up' q = up q) (h2 : ∀ q, q < 19 * (31 * T) → lw' q = lw q) :
    ∃ F9 : TFR, a = tA F9 ∧ m = tM F9 T ∧ F9 = rd1 F T n w lst dpt wd ru rl vv eg ik ne chb AA tg ∧ TOK F9 (T + 1) ∧ RFN F9 (T + 1) up' lw' ∧ ∀ t, t < T → tM F9 t = tM F t := by
  have hP := (Ppf_16 h (by omega) (Nat.le_refl T)).1
  have hs := colF_smb (w := w) (lst := lst) (wd := wd) (vv := vv) (eg := eg) (ik := ik) (ne := ne) (chb := chb) hz hP hC
  rw [gall_cg hs] at hg
  have hg : (a, m, rs) = grw F T (xR F vv tg T) n w lst dpt wd vv eg ik ne chb AA := hg
  obtain ⟨t1, t2, t3⟩ := rd_tok (vv := vv) (eg := eg) (ik := ik) (ne := ne) (chb := chb) h hT hd4 hn hA hA0 hw hl hwd hr htg
  have e : rd1 F T n w lst dpt wd ru rl vv eg ik ne chb AA tg = trn F T (a, m, rs) (xR F vv tg T) n w ru rl := by unfold rd1; rw [← hg]
  rw [e] at t1 t2
  rw [← hg] at t3
  refine ⟨trn F T (a, m, rs) (xR F vv tg T) n w ru rl, rfl, (va_up_self _ _ _).symm, e.symm, t1, ?_, fun t ht => (t2.1 t ht).1⟩
  exact rfn_s h t1 t2 hT hR t3 hm (fun k hk => ndf_cb hs (hND k hk)) (hbu_col hl t3) h1 h2
/-- room of the numbers -/
theorem xbc_1 : XBc * PBc + XBc * (PBc * PBc) < 268435456 ^ 130 ∧ XBc < 268435456 ^ 130 ∧ PBc < 268435456 ^ 130 ∧ 100 * XBc < 268435456 ^ 250 ∧ (100 * XBc) * (100 * XBc) * 1000000000000 < 268435456 ^ 130 ∧ (48 * XBc) * 16 < 268435456 ^ 130 ∧ (100 * XBc) * (100 * XBc) * 20000 < 268435456 ^ 130 ∧ PBc < 268435456 ^ 250 ∧ 48 * (XBc * XBc) * (PBc * PBc) + (XBc * XBc) * ((PBc * PBc) * (PBc * PBc)) < 268435456 ^ 250 ∧ PBc * PBc < 268435456 ^ 250 := by decide +kernel
theorem bl_pbc {d : Nat} (h : d ≤ PBc) : bl d ≤ 652 := bl_le.mpr (Nat.lt_of_le_of_lt h pbc_b.2.1)
theorem cb_fit {F : TFR} {T n : Nat} (h : TOK F T) (hT : T ≤ 16) {u g : Nat → Int32} {zr Rr : Nat → Int} (hc : COMM u g n zr Rr (Ppf F T)) : dn g ≤ PBc ∧ dn g < 268435456 ^ 250 := by
  have hP := Ppf_16 h hT (Nat.le_refl T)
  have h1 := Nat.le_trans (comm_le hP.1 hc).1 hP.2
  exact ⟨h1, Nat.lt_of_le_of_lt h1 xbc_1.2.2.2.2.2.2.2.1⟩
theorem zr_b {F : TFR} {T n : Nat} (h : TOK F T) (hT : T ≤ 16) {u g : Nat → Int32} {zr : Nat → Int} {vv tg : Nat → Int32} (htg : ∀ i, i < n → -1000 ≤ (tg i).toInt ∧ (tg i).toInt ≤ 1000) (hc : COMM u g n zr (fun j => xF F (rwf vv j) (tg j).toInt T) (Ppf F T)) : ∀ i, i < n → (zr i).natAbs ≤ XBc := fun i hi => by
  have hP := Ppf_16 h hT (Nat.le_refl T)
  exact Nat.le_trans ((comm_le hP.1 hc).2 i hi) (Nat.le_trans (xR_b h (htg i hi)) (xb_m hT hP.2))
theorem sub_thr {x : Int64} {n : Nat} : SUBn (x &&& thr n) n := sub_andr (fun r h => by
  by_cases hr : r < 64
  · rw [bx_thr hr] at h; exact of_decide_eq_true h
  · rw [bx_big _ (by omega)] at h; exact absurd h (by decide))
