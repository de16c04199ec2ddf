/-! The reference's trees against the trees as both sides keep them. -/
theorem comm_P {u g : Nat → Int32} {n : Nat} {zr Rr : Nat → Int} {Pt : Nat} (h : COMM u g n zr Rr Pt) : dn g ∣ Pt := by
  suffices hs : ∀ k, k ≤ 19 → dnk (dg g) k ∣ Pt from hs 19 (Nat.le_refl _)
  intro k
  induction k with
  | zero => intro _; exact Nat.one_dvd _
  | succ k ih =>
    intro hk
    show dnk (dg g) k * pr k ^ dg g k ∣ Pt
    refine Nat.Coprime.mul_dvd_of_dvd_of_dvd (Nat.Coprime.pow_right _ (Nat.Coprime.symm (dnk_cop (by omega) k (Nat.le_refl _)))) (ih (by omega)) ?_
    rcases h.2 k (by omega) with q | ⟨i, hi, q⟩
    · rw [q, Nat.pow_zero]
      exact Nat.one_dvd _
    · have h2 : pr k ^ dg g k ∣ (zr i).natAbs * Pt := by
        rw [nat_eq (h.1 i hi).2]
        exact Nat.dvd_mul_left_of_dvd (dnk_dvd (by omega)) _
      exact Nat.Coprime.dvd_of_dvd_mul_left (Nat.Coprime.pow_left _ (pr_gcd (by omega) q)) h2
theorem comm_le {u g : Nat → Int32} {n : Nat} {zr Rr : Nat → Int} {Pt : Nat} (hP : 0 < Pt) (h : COMM u g n zr Rr Pt) : dn g ≤ Pt ∧ ∀ i, i < n → (zr i).natAbs ≤ (Rr i).natAbs := by
  have h1 := Nat.le_of_dvd hP (comm_P h)
  refine ⟨h1, fun i hi => ?_⟩
  have h2 := nat_eq (h.1 i hi).2
  refine Nat.le_of_mul_le_mul_right (c := Pt) ?_ hP
  rw [h2]
  exact Nat.mul_le_mul_left _ h1
theorem nf_bd {up lw : Nat → Int32} {B nd : Nat} {X : Int} {Dn : Nat} (h : NF up lw B nd X Dn) (h0 : 0 < Dn) (hD : Dn < 2 ^ 4096) : NF up lw 4096 nd X Dn := by
  obtain ⟨z, h1, h2, h3, h4⟩ := h
  refine ⟨z, h1, fun k hk => ⟨(h2 k hk).1, ?_⟩, h3, h4⟩
  have h5 := (red_le h0 h3 h4).2
  have h6 : pr k ^ dg (sh (19 * nd) lw) k ≤ dn (sh (19 * nd) lw) := Nat.le_of_dvd dn_pos (dnk_dvd hk)
  have h7 : 2 ^ dg (sh (19 * nd) lw) k ≤ pr k ^ dg (sh (19 * nd) lw) k := Nat.pow_le_pow_left (by have := (pr_b k hk).1; omega) _
  have h8 : 2 ^ dg (sh (19 * nd) lw) k < 2 ^ 4096 := Nat.lt_of_le_of_lt (Nat.le_trans h7 (Nat.le_trans h6 h5)) hD
  rcases Nat.lt_or_ge 4096 (dg (sh (19 * nd) lw) k) with q | q
  · exact absurd (Nat.pow_le_pow_right (show 0 < 2 by decide) (Nat.le_of_lt q)) (Nat.not_le.mpr h8)
  · exact q
/-- what a node tells: a leaf's value, or a split's gain -/
def nvX (F : TFR) (t k : Nat) : Int := if tA F 0 (31 * t + k) = -1 then tS F t k * (tU F t : Int) else gZ (tS F t (dg (tA F 3) (31 * t + k))) (tS F t (dg (tA F 4) (31 * t + k))) (nR F t (dg (tA F 3) (31 * t + k)) + tW F t) (nR F t (dg (tA F 4) (31 * t + k)) + tW F t) (nR F t (dg (tA F 3) (31 * t + k)) + nR F t (dg (tA F 4) (31 * t + k)) + tW F t)
def nvD (F : TFR) (t k : Nat) : Nat := if tA F 0 (31 * t + k) = -1 then Ppf F t * unr F t k else Ppf F t * Ppf F t * ((nR F t (dg (tA F 3) (31 * t + k)) + tW F t) * (nR F t (dg (tA F 4) (31 * t + k)) + tW F t) * (nR F t (dg (tA F 3) (31 * t + k)) + nR F t (dg (tA F 4) (31 * t + k)) + tW F t))
def RFN (F : TFR) (T : Nat) (up lw : Nat → Int32) : Prop := ∀ t, t < T → ∀ k, k < tM F t → NF up lw 4096 (31 * t + k) (nvX F t k) (nvD F t k)
theorem pbc_b : PBc * PBc * 314432 < 2 ^ 4096 ∧ PBc < 2 ^ 652 ∧ 0 < PBc := by decide +kernel
theorem nvD_b {F : TFR} {T t k : Nat} (h : TOK F T) (hT : T ≤ 16) (ht : t < T) (hk : k < tM F t) : 0 < nvD F t k ∧ nvD F t k < 2 ^ 4096 := by
  have hP := Ppf_16 h hT (Nat.le_of_lt ht)
  obtain ⟨h1, h2, h3, h4, h5⟩ := h.2 t ht
  have hb := pbc_b
  have e1 : PBc ≤ PBc * PBc := Nat.le_mul_of_pos_left _ hb.2.2
  have fin : ∀ A B : Nat, A ≤ PBc * PBc → B ≤ 314432 → A * B < 2 ^ 4096 := fun A B hA hB => Nat.lt_of_le_of_lt (Nat.mul_le_mul hA hB) hb.1
  unfold nvD
  by_cases q : tA F 0 (31 * t + k) = -1
  · rw [if_pos q]
    refine ⟨Nat.mul_pos hP.1 (unr_pos (h.2 t ht) hk), fin _ _ (Nat.le_trans hP.2 e1) ?_⟩
    have : tL F t * (nR F t k + tW F t) ≤ 16 * 68 := Nat.mul_le_mul h2.2.2 (by have := (h5 k hk).2.1; omega)
    show tL F t * (nR F t k + tW F t) ≤ 314432
    omega
  · rw [if_neg q]
    rcases (h1.2.2.2 k hk).2 with r | ⟨_, _, _, _, r4, r5, _⟩
    · exact absurd r q
    · have s4 := (h5 _ r4).2.1
      have s5 := (h5 _ r5).2.1
      have s6 := (h5 k hk).2.2.2.resolve_left q
      have s7 := (h5 k hk).2.1
      refine ⟨Nat.mul_pos (Nat.mul_pos hP.1 hP.1) (Nat.mul_pos (Nat.mul_pos (by omega) (by omega)) (by omega)), fin _ _ (Nat.mul_le_mul hP.2 hP.2) ?_⟩
      exact Nat.mul_le_mul (Nat.mul_le_mul (show _ ≤ 68 by omega) (show _ ≤ 68 by omega)) (show _ ≤ 68 by omega)
theorem nvD_leaf {F : TFR} {t k : Nat} (hl : tA F 0 (31 * t + k) = -1) : nvX F t k = tS F t k * (tU F t : Int) ∧ nvD F t k = Ppf F t * unr F t k := ⟨if_pos hl, if_pos hl⟩
/-- a leaf's fraction is its value over the product of scales -/
theorem rfn_lf {F : TFR} {T : Nat} {up lw : Nat → Int32} (h : TOK F T) (hT : T ≤ 16) (hR : RFN F T up lw) {t k : Nat} (ht : t < T) (hk : k < tM F t) (hl : tA F 0 (31 * t + k) = -1) : NF up lw 4096 (31 * t + k) (lvf F t k) (Ppf F (t + 1)) := by
  refine nf_eq (nvD_b h hT ht hk).1 (hR t ht k hk) ?_
  rw [(nvD_leaf hl).1, (nvD_leaf hl).2]
  have hv := lvf_v hk hl
  show tS F t k * (tU F t : Int) * ((Ppf F t * sca F t : Nat) : Int) = lvf F t k * ((Ppf F t * unr F t k : Nat) : Int)
  rw [Int.natCast_mul, Int.natCast_mul]
  rw [Int.natCast_mul] at hv
  rw [show lvf F t k * ((Ppf F t : Int) * (unr F t k : Int)) = lvf F t k * (unr F t k : Int) * (Ppf F t : Int) by ac_rfl, hv]
  ac_rfl
abbrev rwf (vv : Nat → Int32) (i : Nat) : Nat → Int32 := fun c => vv (6 * i + c)
theorem rfn_go {a : Nat → Nat → Int32} {vq : Nat → Int32} {t k c : Nat} (hc : c < 6) (h : a 0 (31 * t + k) = nI c) : goF a vq t k = goB (a 2 (31 * t + k)) (a 7 (31 * t + k)) (a 1 (31 * t + k)) (vq c) := by
  unfold goF
  rw [h, nI_clamp (by omega)]
theorem nv_eq {F F' : TFR} {T t k : Nat} (h : FEQ F F' T) (ht : t < T) (hk : ∀ t, t < T → TOK1 F t) (hkm : k < tM F t) : nvX F' t k = nvX F t k ∧ nvD F' t k = nvD F t k := by
  obtain ⟨h1, _⟩ := hk t ht
  have hm := h1.2.1
  obtain ⟨a0, a1, a2, a3, a4, a5, a6, a7⟩ := h.2 (31 * t + k) (by omega)
  have d3 : dg (tA F' 3) (31 * t + k) = dg (tA F 3) (31 * t + k) := dg_cg a3
  have d4 : dg (tA F' 4) (31 * t + k) = dg (tA F 4) (31 * t + k) := dg_cg a4
  obtain ⟨m1, m2, m3, m4, m5⟩ := h.1 t ht
  have P := Ppf_eq h (fun t ht => (hk t ht).1.2.1) t (by omega)
  unfold nvX nvD
  rw [a0, d3, d4, m2, m3, m4, P, unr_eq h ht (by omega)]
  rcases (h1.2.2.2 k hkm).2 with r | ⟨_, _, _, _, r4, r5, _⟩
  · rw [if_pos r, if_pos r, if_pos r, if_pos r]; exact ⟨rfl, rfl⟩
  · rw [nR_eq h ht (by omega), nR_eq h ht (by omega)]; exact ⟨rfl, rfl⟩
theorem rfn_s {F : TFR} {T : Nat} {up lw up' lw' : Nat → Int32} {best : Int64 → BST} {dpt : Nat} {AA : Int64} {a : Nat → Nat → Int32} {m : Nat} {rs : Nat → Int64} {RR : Nat → Int} {n w ru rl BB : Nat} (h : TOK F T) (h' : TOK (trn F T (a, m, rs) RR n w ru rl) (T + 1)) (hF : FEQ F (trn F T (a, m, rs) RR n w ru rl) T) (hT : T < 16) (hR : RFN F T up lw) (hgv : GIV best (31 * T) dpt AA a m rs []) (hm : m ≤ 31)
    (hND : ∀ k, k < m → NDF best RR n w ru rl (Ppf F T) BB (31 * T) up' lw' (a 0) rs k) (hbu : ∀ k, k < m → ¬ a 0 (31 * T + k) = -1 → (best (rs k)).2.1 = (cb (bsd best (rs k)) + w) * (cb (rs k &&& (bsd best (rs k) ^^^ (-1))) + w) * (cb (bsd best (rs k)) + cb (rs k &&& (bsd best (rs k) ^^^ (-1))) + w))
    (h1 : ∀ q, q < 132 * (31 * T) → up' q = up q) (h2 : ∀ q, q < 19 * (31 * T) → lw' q = lw q) : RFN (trn F T (a, m, rs) RR n w ru rl) (T + 1) up' lw' := by
  intro t ht k hk
  rcases (show t < T ∨ t = T by omega) with q | q
  · have hm9 := (h.2 t q).1.2.1
    have e1 : tM (trn F T (a, m, rs) RR n w ru rl) t = tM F t := (hF.1 t q).1
    rw [e1] at hk
    obtain ⟨x1, x2⟩ := nv_eq hF q h.2 hk
    rw [x1, x2]
    exact nf_cg (hR t q k hk) (fun r r1 r2 => h1 r (by omega)) (fun r r1 r2 => h2 r (by omega))
  · subst q
    have e1 : tM (trn F t (a, m, rs) RR n w ru rl) t = m := va_up_self _ _ _
    have hk0 := hk
    rw [e1] at hk
    have e2 : tS (trn F t (a, m, rs) RR n w ru rl) t = fun k => smv RR (rs k) n := va_up_self _ _ _
    have e3 : tW (trn F t (a, m, rs) RR n w ru rl) t = w := va_up_self _ _ _
    have e4 : tU (trn F t (a, m, rs) RR n w ru rl) t = ru := va_up_self _ _ _
    have e5 : tL (trn F t (a, m, rs) RR n w ru rl) t = rl := va_up_self _ _ _
    have hP : Ppf (trn F t (a, m, rs) RR n w ru rl) t = Ppf F t := Ppf_eq hF (fun t ht => (h.2 t ht).1.2.1) t (Nat.le_refl _)
    have hnR : ∀ k, k < m → nR (trn F t (a, m, rs) RR n w ru rl) t k = cb (rs k) := fun k hk => nR_trn (hgv.1 k hk).2.2.1
    have hb := nvD_b h' (by omega) ht hk0
    refine nf_bd (B := BB) ?_ hb.1 hb.2
    have hn := hND k hk
    unfold NDF at hn
    by_cases hl : a 0 (31 * t + k) = -1
    · rw [if_pos hl] at hn
      obtain ⟨x1, x2⟩ := nvD_leaf (F := trn F t (a, m, rs) RR n w ru rl) (t := t) (k := k) hl
      rw [x1, x2, hP, e2, e4]
      unfold unr
      rw [hnR k hk, e3, e5]
      exact hn
    · rw [if_neg hl, hbu k hk hl] at hn
      obtain ⟨n1, n2, n3, n4, n5, n6⟩ := hgv.1 k hk
      rcases n6 with r | ⟨c1, c2, _, c3, c4, c5⟩
      · exact absurd r hl
      · rcases c4 with ⟨l, l1, l2, l3, l4⟩ | ⟨it, i1, _⟩
        · rcases c5 with ⟨r, r1, r2, r3, r4⟩ | ⟨it, i1, _⟩
          · have dl : dg (a 3) (31 * t + k) = l := by show (a 3 (31 * t + k)).toNatClampNeg = l; rw [l2]; exact nI_clamp (by omega)
            have dr : dg (a 4) (31 * t + k) = r := by show (a 4 (31 * t + k)).toNatClampNeg = r; rw [r2]; exact nI_clamp (by omega)
            have x1 : nvX (trn F t (a, m, rs) RR n w ru rl) t k = gZ (smv RR (rs l) n) (smv RR (rs r) n) (cb (rs l) + w) (cb (rs r) + w) (cb (rs l) + cb (rs r) + w) := by
              unfold nvX
              rw [if_neg (show ¬ tA (trn F t (a, m, rs) RR n w ru rl) 0 (31 * t + k) = -1 from hl)]
              show gZ (tS _ t (dg (a 3) (31 * t + k))) (tS _ t (dg (a 4) (31 * t + k))) (nR _ t (dg (a 3) (31 * t + k)) + _) (nR _ t (dg (a 4) (31 * t + k)) + _) (nR _ t (dg (a 3) (31 * t + k)) + nR _ t (dg (a 4) (31 * t + k)) + _) = _
              rw [dl, dr, hnR l l1, hnR r r1, e2, e3]
            have x2 : nvD (trn F t (a, m, rs) RR n w ru rl) t k = Ppf F t * Ppf F t * ((cb (rs l) + w) * (cb (rs r) + w) * (cb (rs l) + cb (rs r) + w)) := by
              unfold nvD
              rw [if_neg (show ¬ tA (trn F t (a, m, rs) RR n w ru rl) 0 (31 * t + k) = -1 from hl), hP]
              show Ppf F t * Ppf F t * ((nR _ t (dg (a 3) (31 * t + k)) + _) * (nR _ t (dg (a 4) (31 * t + k)) + _) * (nR _ t (dg (a 3) (31 * t + k)) + nR _ t (dg (a 4) (31 * t + k)) + _)) = _
              rw [dl, dr, hnR l l1, hnR r r1, e3]
            rw [x1, x2, l4, r4, win_eq c3]
            exact hn
          · exact absurd i1 (List.not_mem_nil)
        · exact absurd i1 (List.not_mem_nil)
theorem hbu_col {RR : Nat → Int} {n w lst wd dpt b0 : Nat} {vv eg ik : Nat → Int32} {ne : Nat → Nat} {chb : Int32} {AA : Int64} {a : Nat → Nat → Int32} {m : Nat} {rs : Nat → Int64} (hl : 1 ≤ lst) (hgv : GIV (fun x => colF RR n w lst vv eg ik ne chb x wd) b0 dpt AA a m rs []) : ∀ k, k < m → ¬ a 0 (b0 + k) = -1 → (colF RR n w lst vv eg ik ne chb (rs k) wd).2.1 = (cb (bsd (fun x => colF RR n w lst vv eg ik ne chb x wd) (rs k)) + w) * (cb (rs k &&& (bsd (fun x => colF RR n w lst vv eg ik ne chb x wd) (rs k) ^^^ (-1))) + w) * (cb (bsd (fun x => colF RR n w lst vv eg ik ne chb x wd) (rs k)) + cb (rs k &&& (bsd (fun x => colF RR n w lst vv eg ik ne chb x wd) (rs k) ^^^ (-1))) + w) := by
  intro k hk hn
  obtain ⟨_, _, _, _, _, n6⟩ := hgv.1 k hk
  rcases n6 with r | ⟨_, _, c0, _⟩
  · exact absurd r hn
  · have c0 : ¬ (colF RR n w lst vv eg ik ne chb (rs k) wd).1 ≤ 0 := c0
    exact (colF_sd (zr := RR) (n := n) (w := w) (lst := lst) (vv := vv) (eg := eg) (ik := ik) (ne := ne) (chb := chb) (A := rs k) hl wd (by omega)).2.2.2.2
