/-! bits of a number by limbs; smooth numbers; a node's fraction -/
theorem bl_top {V L m tp : Nat} (hV : V = L + 2 ^ m * tp) (hL : L < 2 ^ m) : bl V = if tp = 0 then bl L else m + bl tp := by
  by_cases h : tp = 0
  · rw [if_pos h, hV, h, Nat.mul_zero, Nat.add_zero]
  · rw [if_neg h]
    have key : ∀ j, V < 2 ^ (m + j) ↔ tp < 2 ^ j := fun j => by
      rw [Nat.pow_add, hV]
      constructor
      · intro q
        rcases Nat.lt_or_ge tp (2 ^ j) with r | r
        · exact r
        · have := Nat.mul_le_mul_left (2 ^ m) r
          omega
      · intro q
        have := Nat.mul_le_mul_left (2 ^ m) (show tp + 1 ≤ 2 ^ j from q)
        rw [Nat.mul_add, Nat.mul_one] at this
        omega
    have k1 := bl_le.mpr ((key (bl tp)).mpr (bl_le.mp (Nat.le_refl _)))
    have hm : m ≤ bl V := by
      rcases Nat.lt_or_ge (bl V) m with r | r
      · have q := bl_le.mp (Nat.le_of_lt r)
        have := Nat.mul_le_mul_left (2 ^ m) (show 1 ≤ tp by omega)
        omega
      · exact r
    have k2 : tp < 2 ^ (bl V - m) := (key (bl V - m)).mp (by rw [show m + (bl V - m) = bl V by omega]; exact bl_le.mp (Nat.le_refl _))
    have k3 := bl_le.mpr k2
    omega
theorem bl_M {f : Nat → Int32} {K : Nat} (hd : dok 268435456 f K) (ht : top0 f K) (hK : 0 < K) : bl (vM f K) = 28 * (K - 1) + bl (dg f (K - 1)) := by
  obtain ⟨n, rfl⟩ : ∃ n, K = n + 1 := ⟨K - 1, by omega⟩
  have hV : vM f (n + 1) = vM f n + 2 ^ (28 * n) * dg f n := by
    show hv _ _ _ _ = _
    rw [hv_snoc, Nat.zero_add, Nat.pow_mul]
  have hL : vM f n < 2 ^ (28 * n) := by
    rw [Nat.pow_mul]
    exact vM_b (dok_le hd (by omega))
  have h1 := bl_top hV hL
  rw [if_neg (show ¬ dg f n = 0 from ht (by omega))] at h1
  exact h1
/-- no prime of the list is left of a product of numbers up to 68 -/
theorem fac_small : ∀ a, a < 69 → 1 < a → ∃ q, q < 19 ∧ a % pr q = 0 := by decide +kernel
theorem cop_small {a x : Nat} (ha : a < 69) (h0 : 0 < a) (hx : ∀ q, q < 19 → ¬ x % pr q = 0) : Nat.Coprime x a := by
  have hb : ∀ n a, a ≤ n → a < 69 → 0 < a → Nat.Coprime x a := by
    intro n
    induction n with
    | zero => intro a h1 _ h3; omega
    | succ n ih =>
      intro a h1 h2 h3
      rcases (show a = 1 ∨ 1 < a by omega) with r | r
      · rw [r]; exact Nat.coprime_one_right _
      · obtain ⟨q, hq, hm⟩ := fac_small a h2 r
        have hp := pr_b q hq
        have e : a = pr q * (a / pr q) := (Nat.mul_div_cancel' (Nat.dvd_of_mod_eq_zero hm)).symm
        have hl : a / pr q < a := Nat.div_lt_self h3 (by omega)
        have h0' : 0 < a / pr q := by
          rcases Nat.eq_zero_or_pos (a / pr q) with z | z
          · rw [z, Nat.mul_zero] at e; omega
          · exact z
        rw [e]
        exact Nat.Coprime.mul_right (Nat.Coprime.symm (pr_gcd hq (hx q hq))) (ih _ (by omega) (by omega) h0')
  exact hb a a (Nat.le_refl _) ha h0
/-- what under() leaves of a product of three numbers up to 68, two of them perhaps 1 -/
theorem und_1 {x d d0 a b c : Nat} (ha : a < 69) (hb : b < 69) (hc : c < 69) (ha0 : 0 < a) (hb0 : 0 < b) (hc0 : 0 < c) (hx : ∀ q, q < 19 → ¬ x % pr q = 0) (g : Nat → Int32) (hd : d = dn g) (h : d * x = d0 * (a * b * c)) (hg : ∃ g0 : Nat → Int32, d0 = dn g0) : x = 1 := by
  obtain ⟨g0, h0⟩ := hg
  have hc1 : Nat.Coprime x (a * b * c) := Nat.Coprime.mul_right (Nat.Coprime.mul_right (cop_small ha ha0 hx) (cop_small hb hb0 hx)) (cop_small hc hc0 hx)
  have hc2 : ∀ k, k ≤ 19 → Nat.Coprime x (dnk (dg g0) k) := by
    intro k
    induction k with
    | zero => intro _; exact Nat.coprime_one_right _
    | succ k ih =>
      intro hk
      exact Nat.Coprime.mul_right (ih (by omega)) (Nat.Coprime.pow_right _ (Nat.Coprime.symm (pr_gcd (by omega) (hx k (by omega)))))
  have h1 : x ∣ d0 * (a * b * c) := by
    rw [← h]
    exact Nat.dvd_mul_left _ _
  have h2 : Nat.Coprime x (d0 * (a * b * c)) := by
    rw [h0]
    exact Nat.Coprime.mul_right (hc2 19 (Nat.le_refl _)) hc1
  exact Nat.Coprime.eq_one_of_dvd h2 h1
theorem nf_mk {up lw : Nat → Int32} {bb nd : Nat} {X z z9 : Int} {Dn : Nat} {gl g9 : Nat → Int32} (h1 : MR up (132 * nd) z9) (h3 : ∀ q, q < 19 → lw (19 * nd + q) = g9 q) (hL : LOK g9 bb) (hR : RED z9 g9) (hv : z * (Dn : Int) = X * (dn gl : Int)) (h : z9 * (dn gl : Int) = z * (dn g9 : Int)) : NF up lw bb nd X Dn := by
  have e : ∀ q, q < 19 → sh (19 * nd) lw q = g9 q := fun q hq => h3 q hq
  refine ⟨z9, h1, lok_cg hL e, red_cg hR e, ?_⟩
  rw [dn_cg e]
  exact raise_v dn_pos hv h
theorem nf_eq {up lw : Nat → Int32} {bb nd : Nat} {X X' : Int} {Dn Dn' : Nat} (hD : 0 < Dn) (h : NF up lw bb nd X Dn) (he : X * (Dn' : Int) = X' * (Dn : Int)) : NF up lw bb nd X' Dn' := by
  obtain ⟨z, h1, h2, h3, h4⟩ := h
  refine ⟨z, h1, h2, h3, ?_⟩
  apply Int.eq_of_mul_eq_mul_right (a := (Dn : Int)) (by omega)
  rw [show z * (Dn' : Int) * (Dn : Int) = z * (Dn : Int) * Dn' by ac_rfl, h4, show X * (dn (sh (19 * nd) lw) : Int) * (Dn' : Int) = X * (Dn' : Int) * dn (sh (19 * nd) lw) by ac_rfl, he]
  ac_rfl
theorem nf_cg {up lw up' lw' : Nat → Int32} {bb nd : Nat} {X : Int} {Dn : Nat} (h : NF up lw bb nd X Dn) (h1 : ∀ q, 132 * nd ≤ q → q < 132 * nd + 132 → up' q = up q) (h2 : ∀ q, 19 * nd ≤ q → q < 19 * nd + 19 → lw' q = lw q) : NF up' lw' bb nd X Dn := by
  obtain ⟨z, a1, a2, a3, a4⟩ := h
  have e : ∀ q, q < 19 → sh (19 * nd) lw' q = sh (19 * nd) lw q := fun q hq => h2 (19 * nd + q) (by omega) (by omega)
  exact ⟨z, mr_cg a1 h1, lok_cg a2 e, red_cg a3 e, by rw [dn_cg e]; exact a4⟩
set_option maxHeartbeats 4000000 in
set_option maxRecDepth 100000 in
theorem m_cbits (l : Launch) (D : va_G) (cT : Nat → ClassId) (y : Nat) (yr : Nat → Nat) (yi : Nat → Int32) (ysb : Int64) (ybs : Int64) (fp : Nat → Int32) (nc : Nat → Int32) (nl : Nat → Int32) (nr : Nat → Int32) (tl : Nat → Int32) (kd : Nat → Int32) (ed : Nat → Int32) (vv : Nat → Int32) (up : Nat → Int32) (lw : Nat → Int32) (f0 : Nat → Int32) (g0 : Nat → Int32) (f2 : Nat → Int32) (g2 : Nat → Int32) (gc : Nat → Int32) (ru : Nat → Int32) (rl : Nat → Int32) (T : Nat) (n : Nat) (bb : Nat) (nm : Nat → Nat) (dp : Nat → Nat → Nat) (go : Nat → Nat → Nat → Bool) (lf : Nat → Nat → Nat) (Pp : Nat → Nat) (sc : Nat → Nat) (X : Nat → Nat → Int) (LX : Nat → Nat → Int) (PB : Nat) (XB : Nat) (tg : Nat → Int32) (hPR : PRI fp) (hn : yi 3 = nI n) (hn48 : n ≤ 48) (hTT : yi 17 = nI T) (hT16 : T ≤ 16) (hbb : bb < 2 ^ 30) (htg0 : ∀ i, i < n → X i 0 = (tg i).toInt ∧ -1000 ≤ (tg i).toInt ∧ (tg i).toInt ≤ 1000) (hC : ∀ i, i < n → CHN Pp sc (X i) (LX i) true T PB XB) (hBB : XB * PB + XB * (PB * PB) < 268435456 ^ 130) (hXB : XB < 268435456 ^ 130) (hT9 : ∀ t, t < T → TWF nc nl nr (dp t) (31 * t) (nm t)) (htl : ∀ q, q < 496 → tl q = 0 ∨ tl q = 1) (hgo : ∀ i, i < n → ∀ t, t < T → ∀ k, k < nm t → ∀ c, c < 6 → nc (31 * t + k) = nI c → go i t k = goB (tl (31 * t + k)) (kd (31 * t + k)) (ed (31 * t + k)) (vv (6 * i + c))) (hlf : ∀ i, i < n → ∀ t, t < T → lf i t = lfw nc nl nr (go i t) (31 * t) 4 0) (hlfb : ∀ i, i < n → ∀ t, t < T → lf i t < 31) (hNF : ∀ i, i < n → ∀ t, t < T → NF up lw bb (31 * t + lf i t) (LX i t) (Pp (t + 1))) (hCfit : ∀ (g u : Nat → Int32) (zr : Nat → Int), LOK g bb → COMM u g n zr (fun j => X j T) (Pp T) → dn g < 268435456 ^ 250) (sz : Nat) : Met l yM_commonBits WM_commonBits ({ frames := 6, cells := 0, slots := 0, locals := 146 } : Room) (RW D vwCl [.ref y] [(y, .inr (11, MO yr yi ysb ybs)), (yr 0, .inl (cT 0, 19, .inl fp)), (yr 29, .inl (cT 0, 302, .inl f0)), (yr 40, .inl (cT 0, 19, .inl g0)), (yr 30, .inl (cT 0, 302, .inl f2)), (yr 41, .inl (cT 0, 19, .inl g2)), (yr 44, .inl (cT 0, 19, .inl gc)), (yr 45, .inl (cT 0, 6336, .inl ru)), (yr 46, .inl (cT 0, 912, .inl rl)), (yr 4, .inl (cT 0, 48, .inl tg)), (yr 27, .inl (cT 0, 65472, .inl up)), (yr 28, .inl (cT 0, 9424, .inl lw)), (yr 19, .inl (cT 0, 496, .inl nc)), (yr 22, .inl (cT 0, 496, .inl nl)), (yr 23, .inl (cT 0, 496, .inl nr)), (yr 5, .inl (cT 0, 288, .inl vv)), (yr 21, .inl (cT 3, 496, .inl tl)), (yr 26, .inl (cT 3, 496, .inl kd)), (yr 20, .inl (cT 0, 496, .inl ed))] (TY cT) sz) (va_Qi (fun (r9 : Int32) (u9 : (Nat → Int) × (Nat → Int32) × (Nat → Int32) × (Nat → Int32) × (Nat → Int32) × (Nat → Int32) × (Nat → Int32) × (Nat → Int32)) => r9 = nI (bl (dn u9.2.1)) ∧ LOK u9.2.1 bb ∧ COMM u9.2.2.1 u9.2.1 n u9.1 (fun j8 => X j8 T) (Pp T)) (BW D vwCl (va_A [(y, .inr (11, MO yr yi ysb ybs)), (yr 0, .inl (cT 0, 19, .inl fp)), (yr 29, .inl (cT 0, 302, .inl f0)), (yr 40, .inl (cT 0, 19, .inl g0)), (yr 30, .inl (cT 0, 302, .inl f2)), (yr 41, .inl (cT 0, 19, .inl g2)), (yr 44, .inl (cT 0, 19, .inl gc)), (yr 45, .inl (cT 0, 6336, .inl ru)), (yr 46, .inl (cT 0, 912, .inl rl)), (yr 4, .inl (cT 0, 48, .inl tg)), (yr 27, .inl (cT 0, 65472, .inl up)), (yr 28, .inl (cT 0, 9424, .inl lw)), (yr 19, .inl (cT 0, 496, .inl nc)), (yr 22, .inl (cT 0, 496, .inl nl)), (yr 23, .inl (cT 0, 496, .inl nr)), (yr 5, .inl (cT 0, 288, .inl vv)), (yr 21, .inl (cT 3, 496, .inl tl)), (yr 26, .inl (cT 3, 496, .inl kd)), (yr 20, .inl (cT 0, 496, .inl ed))] sz) (fun u9 : (Nat → Int) × (Nat → Int32) × (Nat → Int32) × (Nat → Int32) × (Nat → Int32) × (Nat → Int32) × (Nat → Int32) × (Nat → Int32) => [(y, .inr (11, MO yr yi ysb ybs)), (yr 0, .inl (cT 0, 19, .inl fp)), (yr 29, .inl (cT 0, 302, .inl u9.2.2.2.2.1)), (yr 40, .inl (cT 0, 19, .inl u9.2.2.2.2.2.1)), (yr 30, .inl (cT 0, 302, .inl u9.2.2.2.2.2.2.1)), (yr 41, .inl (cT 0, 19, .inl u9.2.2.2.2.2.2.2)), (yr 44, .inl (cT 0, 19, .inl u9.2.1)), (yr 45, .inl (cT 0, 6336, .inl u9.2.2.1)), (yr 46, .inl (cT 0, 912, .inl u9.2.2.2.1)), (yr 4, .inl (cT 0, 48, .inl tg)), (yr 27, .inl (cT 0, 65472, .inl up)), (yr 28, .inl (cT 0, 9424, .inl lw)), (yr 19, .inl (cT 0, 496, .inl nc)), (yr 22, .inl (cT 0, 496, .inl nl)), (yr 23, .inl (cT 0, 496, .inl nr)), (yr 5, .inl (cT 0, 288, .inl vv)), (yr 21, .inl (cT 3, 496, .inl tl)), (yr 26, .inl (cT 3, 496, .inl kd)), (yr 20, .inl (cT 0, 496, .inl ed))])) (va_A [(y, .inr (11, MO yr yi ysb ybs)), (yr 0, .inl (cT 0, 19, .inl fp)), (yr 29, .inl (cT 0, 302, .inl f0)), (yr 40, .inl (cT 0, 19, .inl g0)), (yr 30, .inl (cT 0, 302, .inl f2)), (yr 41, .inl (cT 0, 19, .inl g2)), (yr 44, .inl (cT 0, 19, .inl gc)), (yr 45, .inl (cT 0, 6336, .inl ru)), (yr 46, .inl (cT 0, 912, .inl rl)), (yr 4, .inl (cT 0, 48, .inl tg)), (yr 27, .inl (cT 0, 65472, .inl up)), (yr 28, .inl (cT 0, 9424, .inl lw)), (yr 19, .inl (cT 0, 496, .inl nc)), (yr 22, .inl (cT 0, 496, .inl nl)), (yr 23, .inl (cT 0, 496, .inl nr)), (yr 5, .inl (cT 0, 288, .inl vv)), (yr 21, .inl (cT 3, 496, .inl tl)), (yr 26, .inl (cT 3, 496, .inl kd)), (yr 20, .inl (cT 0, 496, .inl ed))] sz)) 0 0 (va_A [(y, .inr (11, MO yr yi ysb ybs)), (yr 0, .inl (cT 0, 19, .inl fp)), (yr 29, .inl (cT 0, 302, .inl f0)), (yr 40, .inl (cT 0, 19, .inl g0)), (yr 30, .inl (cT 0, 302, .inl f2)), (yr 41, .inl (cT 0, 19, .inl g2)), (yr 44, .inl (cT 0, 19, .inl gc)), (yr 45, .inl (cT 0, 6336, .inl ru)), (yr 46, .inl (cT 0, 912, .inl rl)), (yr 4, .inl (cT 0, 48, .inl tg)), (yr 27, .inl (cT 0, 65472, .inl up)), (yr 28, .inl (cT 0, 9424, .inl lw)), (yr 19, .inl (cT 0, 496, .inl nc)), (yr 22, .inl (cT 0, 496, .inl nl)), (yr 23, .inl (cT 0, 496, .inl nr)), (yr 5, .inl (cT 0, 288, .inl vv)), (yr 21, .inl (cT 3, 496, .inl tl)), (yr 26, .inl (cT 3, 496, .inl kd)), (yr 20, .inl (cT 0, 496, .inl ed))] sz) := by
  refine Met.ofW (cc := cM_commonBits) (maxL := 3) (ret := (some .int)) (by decide) rfl ?_
  intro p e s m args below meth c s₁ B hml hv
  obtain ⟨rfl, hsz, hZ, hP, hK, hD0⟩ := hv
  have hx := B.exec
  have hb := B.bytes
  have hr := B.returns
  have hts := atoms_spec (ws := WM_commonBits) B.pre
  have hT : ∀ w ∈ TB, w.before _ s = true := fun w h => hts w (List.mem_cons_of_mem _ h)
  have hown : s.vm.findClass R_M = some m.cls := findClass_of_methodNamed B.named
  have hlocks := B.notSynchronized
  subst hsz
  have hD := hD0.self (sz := s.heap.size)
  generalize hAe : va_A [(y, .inr (11, MO yr yi ysb ybs)), (yr 0, .inl (cT 0, 19, .inl fp)), (yr 29, .inl (cT 0, 302, .inl f0)), (yr 40, .inl (cT 0, 19, .inl g0)), (yr 30, .inl (cT 0, 302, .inl f2)), (yr 41, .inl (cT 0, 19, .inl g2)), (yr 44, .inl (cT 0, 19, .inl gc)), (yr 45, .inl (cT 0, 6336, .inl ru)), (yr 46, .inl (cT 0, 912, .inl rl)), (yr 4, .inl (cT 0, 48, .inl tg)), (yr 27, .inl (cT 0, 65472, .inl up)), (yr 28, .inl (cT 0, 9424, .inl lw)), (yr 19, .inl (cT 0, 496, .inl nc)), (yr 22, .inl (cT 0, 496, .inl nl)), (yr 23, .inl (cT 0, 496, .inl nr)), (yr 5, .inl (cT 0, 288, .inl vv)), (yr 21, .inl (cT 3, 496, .inl tl)), (yr 26, .inl (cT 3, 496, .inl kd)), (yr 20, .inl (cT 0, 496, .inl ed))] s.heap.size = A at hD hZ ⊢
  have hA : ∀ q : Nat, s.heap.size ≤ q → A q := fun q h => by rw [← hAe]; exact Or.inr h
  have hS : va_S A s.heap s.heap [] := va_S.rf
  have hl := lv_entry ([.ref y]) (n := 3) (Nat.le_of_ble_eq_true rfl)
  rw [lg_entry_eq]
  generalize (lg_sl ([.ref y]) ++ List.replicate (3 - (lg_sl ([.ref y])).length) Slot.unset).toArray = ls at hl ⊢
  have hl : lv_has ls 3 [(0, .ref y)] := hl
  refine lv_aload_n hx hb dM_commonBits_0 rfl (lv_at hl 0 rfl) ?_
  refine rw_v (wc := [(y, .inr (11, MO yr yi ysb ybs)), (yr 0, .inl (cT 0, 19, .inl fp)), (yr 29, .inl (cT 0, 302, .inl f0)), (yr 40, .inl (cT 0, 19, .inl g0)), (yr 30, .inl (cT 0, 302, .inl f2)), (yr 41, .inl (cT 0, 19, .inl g2)), (yr 44, .inl (cT 0, 19, .inl gc)), (yr 45, .inl (cT 0, 6336, .inl ru)), (yr 46, .inl (cT 0, 912, .inl rl)), (yr 4, .inl (cT 0, 48, .inl tg)), (yr 27, .inl (cT 0, 65472, .inl up)), (yr 28, .inl (cT 0, 9424, .inl lw)), (yr 19, .inl (cT 0, 496, .inl nc)), (yr 22, .inl (cT 0, 496, .inl nl)), (yr 23, .inl (cT 0, 496, .inl nr)), (yr 5, .inl (cT 0, 288, .inl vv)), (yr 21, .inl (cT 3, 496, .inl tl)), (yr 26, .inl (cT 3, 496, .inl kd)), (yr 20, .inl (cT 0, 496, .inl ed))]) (wr := []) hP hD hS hA [0, 1, 2, 3, 4, 5, 6, 7, 8, 9, 10, 11, 12, 13, 14, 15, 16, 17, 18] [] rfl rfl (by decide) (by decide) (va_runV (As := []) (rest := []) ⟨hx, hb, hml, hown, hT⟩ (m_find l D cT y yr yi ysb ybs fp nc nl nr tl kd ed vv up lw f0 g0 f2 g2 gc ru rl T n bb nm dp go lf Pp sc X LX PB XB tg hPR hn hn48 hTT hT16 hbb htg0 hC hBB hXB hT9 htl hgo hlf hlfb hNF _) ⟨callB_of 0 hT (tb_gd w1377) rfl rfl rfl (hT _ w13) (hT _ w1374) hM_findResiduals ⟨Nat.le_of_ble_eq_true rfl, Nat.le_of_ble_eq_true rfl⟩, (hT _ w1376), (hT _ wp35)⟩ (RW.preV (ci := 11) (q0 := 0) hZ hS (va_free (wc := [(y, .inr (11, MO yr yi ysb ybs)), (yr 0, .inl (cT 0, 19, .inl fp)), (yr 29, .inl (cT 0, 302, .inl f0)), (yr 40, .inl (cT 0, 19, .inl g0)), (yr 30, .inl (cT 0, 302, .inl f2)), (yr 41, .inl (cT 0, 19, .inl g2)), (yr 44, .inl (cT 0, 19, .inl gc)), (yr 45, .inl (cT 0, 6336, .inl ru)), (yr 46, .inl (cT 0, 912, .inl rl)), (yr 4, .inl (cT 0, 48, .inl tg)), (yr 27, .inl (cT 0, 65472, .inl up)), (yr 28, .inl (cT 0, 9424, .inl lw)), (yr 19, .inl (cT 0, 496, .inl nc)), (yr 22, .inl (cT 0, 496, .inl nl)), (yr 23, .inl (cT 0, 496, .inl nr)), (yr 5, .inl (cT 0, 288, .inl vv)), (yr 21, .inl (cT 3, 496, .inl tl)), (yr 26, .inl (cT 3, 496, .inl kd)), (yr 20, .inl (cT 0, 496, .inl ed))]) hD hS hA [0, 1, 2, 3, 4, 5, 6, 7, 8, 9, 10, 11, 12, 13, 14, 15, 16, 17, 18] rfl) (hP.sub (ws' := [(y, .inr (11, MO yr yi ysb ybs)), (yr 0, .inl (cT 0, 19, .inl fp)), (yr 29, .inl (cT 0, 302, .inl f0)), (yr 40, .inl (cT 0, 19, .inl g0)), (yr 30, .inl (cT 0, 302, .inl f2)), (yr 41, .inl (cT 0, 19, .inl g2)), (yr 44, .inl (cT 0, 19, .inl gc)), (yr 45, .inl (cT 0, 6336, .inl ru)), (yr 46, .inl (cT 0, 912, .inl rl)), (yr 4, .inl (cT 0, 48, .inl tg)), (yr 27, .inl (cT 0, 65472, .inl up)), (yr 28, .inl (cT 0, 9424, .inl lw)), (yr 19, .inl (cT 0, 496, .inl nc)), (yr 22, .inl (cT 0, 496, .inl nl)), (yr 23, .inl (cT 0, 496, .inl nr)), (yr 5, .inl (cT 0, 288, .inl vv)), (yr 21, .inl (cT 3, 496, .inl tl)), (yr 26, .inl (cT 3, 496, .inl kd)), (yr 20, .inl (cT 0, 496, .inl ed))]) [0, 1, 2, 3, 4, 5, 6, 7, 8, 9, 10, 11, 12, 13, 14, 15, 16, 17, 18] rfl) hK (hD.sub (ws' := [(y, .inr (11, MO yr yi ysb ybs)), (yr 0, .inl (cT 0, 19, .inl fp)), (yr 29, .inl (cT 0, 302, .inl f0)), (yr 40, .inl (cT 0, 19, .inl g0)), (yr 30, .inl (cT 0, 302, .inl f2)), (yr 41, .inl (cT 0, 19, .inl g2)), (yr 44, .inl (cT 0, 19, .inl gc)), (yr 45, .inl (cT 0, 6336, .inl ru)), (yr 46, .inl (cT 0, 912, .inl rl)), (yr 4, .inl (cT 0, 48, .inl tg)), (yr 27, .inl (cT 0, 65472, .inl up)), (yr 28, .inl (cT 0, 9424, .inl lw)), (yr 19, .inl (cT 0, 496, .inl nc)), (yr 22, .inl (cT 0, 496, .inl nl)), (yr 23, .inl (cT 0, 496, .inl nr)), (yr 5, .inl (cT 0, 288, .inl vv)), (yr 21, .inl (cT 3, 496, .inl tl)), (yr 26, .inl (cT 3, 496, .inl kd)), (yr 20, .inl (cT 0, 496, .inl ed))]) [0, 1, 2, 3, 4, 5, 6, 7, 8, 9, 10, 11, 12, 13, 14, 15, 16, 17, 18] (by decide) rfl) rfl rfl) rfl rfl hl.1 rfl (lv_room (Nat.le_of_ble_eq_true rfl)) dM_commonBits_1 ⟨Nat.le_of_ble_eq_true rfl, Nat.le_of_ble_eq_true rfl⟩) (fun u9 H locs hpu1 hP hD hS => ?_)
  obtain ⟨zr7u1, gc7u1, ru7u1, rl7u1, f7u1, g7u1, f8u1, g8u1⟩ := u9
  have hpu1 : LOK gc7u1 bb ∧ COMM ru7u1 gc7u1 n zr7u1 (fun j8 => X j8 T) (Pp T) := hpu1
  have hP : va_P D vwCl [(y, .inr (11, MO yr yi ysb ybs)), (yr 0, .inl (cT 0, 19, .inl fp)), (yr 29, .inl (cT 0, 302, .inl f7u1)), (yr 40, .inl (cT 0, 19, .inl g7u1)), (yr 30, .inl (cT 0, 302, .inl f8u1)), (yr 41, .inl (cT 0, 19, .inl g8u1)), (yr 44, .inl (cT 0, 19, .inl gc7u1)), (yr 45, .inl (cT 0, 6336, .inl ru7u1)), (yr 46, .inl (cT 0, 912, .inl rl7u1)), (yr 4, .inl (cT 0, 48, .inl tg)), (yr 27, .inl (cT 0, 65472, .inl up)), (yr 28, .inl (cT 0, 9424, .inl lw)), (yr 19, .inl (cT 0, 496, .inl nc)), (yr 22, .inl (cT 0, 496, .inl nl)), (yr 23, .inl (cT 0, 496, .inl nr)), (yr 5, .inl (cT 0, 288, .inl vv)), (yr 21, .inl (cT 3, 496, .inl tl)), (yr 26, .inl (cT 3, 496, .inl kd)), (yr 20, .inl (cT 0, 496, .inl ed))] _ := hP
  have hD : va_D A [(y, .inr (11, MO yr yi ysb ybs)), (yr 0, .inl (cT 0, 19, .inl fp)), (yr 29, .inl (cT 0, 302, .inl f7u1)), (yr 40, .inl (cT 0, 19, .inl g7u1)), (yr 30, .inl (cT 0, 302, .inl f8u1)), (yr 41, .inl (cT 0, 19, .inl g8u1)), (yr 44, .inl (cT 0, 19, .inl gc7u1)), (yr 45, .inl (cT 0, 6336, .inl ru7u1)), (yr 46, .inl (cT 0, 912, .inl rl7u1)), (yr 4, .inl (cT 0, 48, .inl tg)), (yr 27, .inl (cT 0, 65472, .inl up)), (yr 28, .inl (cT 0, 9424, .inl lw)), (yr 19, .inl (cT 0, 496, .inl nc)), (yr 22, .inl (cT 0, 496, .inl nl)), (yr 23, .inl (cT 0, 496, .inl nr)), (yr 5, .inl (cT 0, 288, .inl vv)), (yr 21, .inl (cT 3, 496, .inl tl)), (yr 26, .inl (cT 3, 496, .inl kd)), (yr 20, .inl (cT 0, 496, .inl ed))] := hD
  obtain ⟨cL, cM⟩ := hpu1
  refine lv_aload_n hx hb dM_commonBits_4 rfl (lv_at hl 0 rfl) ?_
  refine va_get (D := D) (ci := 11) (v := .ref (yr 29)) (C := R_M) (T := T_M) (N := 60) hx hb hT in_M hown hK hP 0 rfl rfl 29 (by decide) (hT _ w1133) (fun _ h9 => h9) rfl dM_commonBits_5 ?_
  refine lv_lconst (v := 1) hx hb dM_commonBits_8 (by decide) ?_
  refine rw_v (wc := [(yr 29, .inl (cT 0, 302, .inl f7u1))]) (wr := [(y, .inr (11, MO yr yi ysb ybs)), (yr 0, .inl (cT 0, 19, .inl fp)), (yr 40, .inl (cT 0, 19, .inl g7u1)), (yr 30, .inl (cT 0, 302, .inl f8u1)), (yr 41, .inl (cT 0, 19, .inl g8u1)), (yr 44, .inl (cT 0, 19, .inl gc7u1)), (yr 45, .inl (cT 0, 6336, .inl ru7u1)), (yr 46, .inl (cT 0, 912, .inl rl7u1)), (yr 4, .inl (cT 0, 48, .inl tg)), (yr 27, .inl (cT 0, 65472, .inl up)), (yr 28, .inl (cT 0, 9424, .inl lw)), (yr 19, .inl (cT 0, 496, .inl nc)), (yr 22, .inl (cT 0, 496, .inl nl)), (yr 23, .inl (cT 0, 496, .inl nr)), (yr 5, .inl (cT 0, 288, .inl vv)), (yr 21, .inl (cT 3, 496, .inl tl)), (yr 26, .inl (cT 3, 496, .inl kd)), (yr 20, .inl (cT 0, 496, .inl ed))]) hP hD hS hA [2] [0, 1, 3, 4, 5, 6, 7, 8, 9, 10, 11, 12, 13, 14, 15, 16, 17, 18] rfl rfl (by decide) (by decide) (va_runS (As := [.ref (yr 29), .long 1]) (rest := []) ⟨hx, hb, hml, hown, hT⟩ (m_setInt l D cT (yr 29) f7u1 1 (by decide) _) ⟨callB_of 2 hT (tb_gd w1387) rfl rfl rfl (hT _ w13) (hT _ w1385) hM_setInt ⟨Nat.le_of_ble_eq_true rfl, Nat.le_of_ble_eq_true rfl⟩, (hT _ w1386)⟩ (RW.preS hZ hS (va_free (wc := [(yr 29, .inl (cT 0, 302, .inl f7u1))]) hD hS hA [2] rfl) (hP.sub (ws' := [(yr 29, .inl (cT 0, 302, .inl f7u1))]) [2] rfl) hK (hD.sub (ws' := [(yr 29, .inl (cT 0, 302, .inl f7u1))]) [2] (by decide) rfl)) rfl rfl hl.1 rfl (lv_room (Nat.le_of_ble_eq_true rfl)) dM_commonBits_9 ⟨Nat.le_of_ble_eq_true rfl, Nat.le_of_ble_eq_true rfl⟩) (fun u9 H locs hpu2 hP hD hS => ?_)
  obtain ⟨f1u2, rfl⟩ : ∃ q9, q9 = u9 := ⟨_, rfl⟩
  have hpu2 : MN f1u2 (1 : Int64).toInt := hpu2
  have hP : va_P D vwCl [(y, .inr (11, MO yr yi ysb ybs)), (yr 0, .inl (cT 0, 19, .inl fp)), (yr 40, .inl (cT 0, 19, .inl g7u1)), (yr 30, .inl (cT 0, 302, .inl f8u1)), (yr 41, .inl (cT 0, 19, .inl g8u1)), (yr 44, .inl (cT 0, 19, .inl gc7u1)), (yr 45, .inl (cT 0, 6336, .inl ru7u1)), (yr 46, .inl (cT 0, 912, .inl rl7u1)), (yr 4, .inl (cT 0, 48, .inl tg)), (yr 27, .inl (cT 0, 65472, .inl up)), (yr 28, .inl (cT 0, 9424, .inl lw)), (yr 19, .inl (cT 0, 496, .inl nc)), (yr 22, .inl (cT 0, 496, .inl nl)), (yr 23, .inl (cT 0, 496, .inl nr)), (yr 5, .inl (cT 0, 288, .inl vv)), (yr 21, .inl (cT 3, 496, .inl tl)), (yr 26, .inl (cT 3, 496, .inl kd)), (yr 20, .inl (cT 0, 496, .inl ed)), (yr 29, .inl (cT 0, 302, .inl f1u2))] _ := hP
  have hD : va_D A [(y, .inr (11, MO yr yi ysb ybs)), (yr 0, .inl (cT 0, 19, .inl fp)), (yr 40, .inl (cT 0, 19, .inl g7u1)), (yr 30, .inl (cT 0, 302, .inl f8u1)), (yr 41, .inl (cT 0, 19, .inl g8u1)), (yr 44, .inl (cT 0, 19, .inl gc7u1)), (yr 45, .inl (cT 0, 6336, .inl ru7u1)), (yr 46, .inl (cT 0, 912, .inl rl7u1)), (yr 4, .inl (cT 0, 48, .inl tg)), (yr 27, .inl (cT 0, 65472, .inl up)), (yr 28, .inl (cT 0, 9424, .inl lw)), (yr 19, .inl (cT 0, 496, .inl nc)), (yr 22, .inl (cT 0, 496, .inl nl)), (yr 23, .inl (cT 0, 496, .inl nr)), (yr 5, .inl (cT 0, 288, .inl vv)), (yr 21, .inl (cT 3, 496, .inl tl)), (yr 26, .inl (cT 3, 496, .inl kd)), (yr 20, .inl (cT 0, 496, .inl ed)), (yr 29, .inl (cT 0, 302, .inl f1u2))] := hD
  have aN : MN f1u2 1 := hpu2
  refine lv_aload_n hx hb dM_commonBits_12 rfl (lv_at hl 0 rfl) ?_
  refine va_get (D := D) (ci := 11) (v := .ref (yr 40)) (C := R_M) (T := T_M) (N := 60) hx hb hT in_M hown hK hP 0 rfl rfl 40 (by decide) (hT _ w1144) (fun _ h9 => h9) rfl dM_commonBits_13 ?_
  refine rw_v (wc := [(yr 40, .inl (cT 0, 19, .inl g7u1))]) (wr := [(y, .inr (11, MO yr yi ysb ybs)), (yr 0, .inl (cT 0, 19, .inl fp)), (yr 30, .inl (cT 0, 302, .inl f8u1)), (yr 41, .inl (cT 0, 19, .inl g8u1)), (yr 44, .inl (cT 0, 19, .inl gc7u1)), (yr 45, .inl (cT 0, 6336, .inl ru7u1)), (yr 46, .inl (cT 0, 912, .inl rl7u1)), (yr 4, .inl (cT 0, 48, .inl tg)), (yr 27, .inl (cT 0, 65472, .inl up)), (yr 28, .inl (cT 0, 9424, .inl lw)), (yr 19, .inl (cT 0, 496, .inl nc)), (yr 22, .inl (cT 0, 496, .inl nl)), (yr 23, .inl (cT 0, 496, .inl nr)), (yr 5, .inl (cT 0, 288, .inl vv)), (yr 21, .inl (cT 3, 496, .inl tl)), (yr 26, .inl (cT 3, 496, .inl kd)), (yr 20, .inl (cT 0, 496, .inl ed)), (yr 29, .inl (cT 0, 302, .inl f1u2))]) hP hD hS hA [2] [0, 1, 3, 4, 5, 6, 7, 8, 9, 10, 11, 12, 13, 14, 15, 16, 17, 18] rfl rfl (by decide) (by decide) (va_runS (As := [.ref (yr 40)]) (rest := []) ⟨hx, hb, hml, hown, hT⟩ (m_zero l D cT (yr 40) g7u1 _) ⟨callB_of 1 hT (tb_gd w1380) rfl rfl rfl (hT _ w13) (hT _ w1378) hM_zero ⟨Nat.le_of_ble_eq_true rfl, Nat.le_of_ble_eq_true rfl⟩, (hT _ w1379)⟩ (RW.preS hZ hS (va_free (wc := [(yr 40, .inl (cT 0, 19, .inl g7u1))]) hD hS hA [2] rfl) (hP.sub (ws' := [(yr 40, .inl (cT 0, 19, .inl g7u1))]) [2] rfl) hK (hD.sub (ws' := [(yr 40, .inl (cT 0, 19, .inl g7u1))]) [2] (by decide) rfl)) rfl rfl hl.1 rfl (lv_room (Nat.le_of_ble_eq_true rfl)) dM_commonBits_16 ⟨Nat.le_of_ble_eq_true rfl, Nat.le_of_ble_eq_true rfl⟩) (fun u9 H locs hpu3 hP hD hS => ?_)
  obtain ⟨f1u3, rfl⟩ : ∃ q9, q9 = u9 := ⟨_, rfl⟩
  have hpu3 : ∀ q8, q8 < 19 → f1u3 q8 = 0 := hpu3
  have hP : va_P D vwCl [(y, .inr (11, MO yr yi ysb ybs)), (yr 0, .inl (cT 0, 19, .inl fp)), (yr 30, .inl (cT 0, 302, .inl f8u1)), (yr 41, .inl (cT 0, 19, .inl g8u1)), (yr 44, .inl (cT 0, 19, .inl gc7u1)), (yr 45, .inl (cT 0, 6336, .inl ru7u1)), (yr 46, .inl (cT 0, 912, .inl rl7u1)), (yr 4, .inl (cT 0, 48, .inl tg)), (yr 27, .inl (cT 0, 65472, .inl up)), (yr 28, .inl (cT 0, 9424, .inl lw)), (yr 19, .inl (cT 0, 496, .inl nc)), (yr 22, .inl (cT 0, 496, .inl nl)), (yr 23, .inl (cT 0, 496, .inl nr)), (yr 5, .inl (cT 0, 288, .inl vv)), (yr 21, .inl (cT 3, 496, .inl tl)), (yr 26, .inl (cT 3, 496, .inl kd)), (yr 20, .inl (cT 0, 496, .inl ed)), (yr 29, .inl (cT 0, 302, .inl f1u2)), (yr 40, .inl (cT 0, 19, .inl f1u3))] _ := hP
  have hD : va_D A [(y, .inr (11, MO yr yi ysb ybs)), (yr 0, .inl (cT 0, 19, .inl fp)), (yr 30, .inl (cT 0, 302, .inl f8u1)), (yr 41, .inl (cT 0, 19, .inl g8u1)), (yr 44, .inl (cT 0, 19, .inl gc7u1)), (yr 45, .inl (cT 0, 6336, .inl ru7u1)), (yr 46, .inl (cT 0, 912, .inl rl7u1)), (yr 4, .inl (cT 0, 48, .inl tg)), (yr 27, .inl (cT 0, 65472, .inl up)), (yr 28, .inl (cT 0, 9424, .inl lw)), (yr 19, .inl (cT 0, 496, .inl nc)), (yr 22, .inl (cT 0, 496, .inl nl)), (yr 23, .inl (cT 0, 496, .inl nr)), (yr 5, .inl (cT 0, 288, .inl vv)), (yr 21, .inl (cT 3, 496, .inl tl)), (yr 26, .inl (cT 3, 496, .inl kd)), (yr 20, .inl (cT 0, 496, .inl ed)), (yr 29, .inl (cT 0, 302, .inl f1u2)), (yr 40, .inl (cT 0, 19, .inl f1u3))] := hD
  have zL := hpu3
  refine lv_aload_n hx hb dM_commonBits_19 rfl (lv_at hl 0 rfl) ?_
  refine lv_aload_n hx hb dM_commonBits_20 rfl (lv_at hl 0 rfl) ?_
  refine va_get (D := D) (ci := 11) (v := .ref (yr 29)) (C := R_M) (T := T_M) (N := 60) hx hb hT in_M hown hK hP 0 rfl rfl 29 (by decide) (hT _ w1133) (fun _ h9 => h9) rfl dM_commonBits_21 ?_
  refine lv_aload_n hx hb dM_commonBits_24 rfl (lv_at hl 0 rfl) ?_
  refine va_get (D := D) (ci := 11) (v := .ref (yr 40)) (C := R_M) (T := T_M) (N := 60) hx hb hT in_M hown hK hP 0 rfl rfl 40 (by decide) (hT _ w1144) (fun _ h9 => h9) rfl dM_commonBits_25 ?_
  refine lv_aload_n hx hb dM_commonBits_28 rfl (lv_at hl 0 rfl) ?_
  refine va_get (D := D) (ci := 11) (v := .ref (yr 44)) (C := R_M) (T := T_M) (N := 60) hx hb hT in_M hown hK hP 0 rfl rfl 44 (by decide) (hT _ w1148) (fun _ h9 => h9) rfl dM_commonBits_29 ?_
  refine rw_v (wc := [(y, .inr (11, MO yr yi ysb ybs)), (yr 0, .inl (cT 0, 19, .inl fp)), (yr 29, .inl (cT 0, 302, .inl f1u2)), (yr 40, .inl (cT 0, 19, .inl f1u3)), (yr 44, .inl (cT 0, 19, .inl gc7u1))]) (wr := [(yr 30, .inl (cT 0, 302, .inl f8u1)), (yr 41, .inl (cT 0, 19, .inl g8u1)), (yr 45, .inl (cT 0, 6336, .inl ru7u1)), (yr 46, .inl (cT 0, 912, .inl rl7u1)), (yr 4, .inl (cT 0, 48, .inl tg)), (yr 27, .inl (cT 0, 65472, .inl up)), (yr 28, .inl (cT 0, 9424, .inl lw)), (yr 19, .inl (cT 0, 496, .inl nc)), (yr 22, .inl (cT 0, 496, .inl nl)), (yr 23, .inl (cT 0, 496, .inl nr)), (yr 5, .inl (cT 0, 288, .inl vv)), (yr 21, .inl (cT 3, 496, .inl tl)), (yr 26, .inl (cT 3, 496, .inl kd)), (yr 20, .inl (cT 0, 496, .inl ed))]) hP hD hS hA [0, 1, 17, 18, 4] [2, 3, 5, 6, 7, 8, 9, 10, 11, 12, 13, 14, 15, 16] rfl rfl (by decide) (by decide) (va_runV (As := [.ref (yr 29), .ref (yr 40), .ref (yr 44)]) (rest := []) ⟨hx, hb, hml, hown, hT⟩ (m_raise l D cT y yr yi ysb ybs fp (yr 29) f1u2 1 (yr 40) f1u3 (yr 44) gc7u1 bb hPR aN (lok_0 zL) cL hbb (by rw [show (1 : Int).natAbs = 1 from rfl, Nat.one_mul]; exact hCfit _ _ _ cL cM) _) ⟨callB_of 3 hT (tb_gd w1414) rfl rfl rfl (hT _ w13) (hT _ w1411) hM_raise ⟨Nat.le_of_ble_eq_true rfl, Nat.le_of_ble_eq_true rfl⟩, (hT _ w1413), (hT _ wp41)⟩ (RW.preV (ci := 11) (q0 := 0) hZ hS (va_free (wc := [(y, .inr (11, MO yr yi ysb ybs)), (yr 0, .inl (cT 0, 19, .inl fp)), (yr 29, .inl (cT 0, 302, .inl f1u2)), (yr 40, .inl (cT 0, 19, .inl f1u3)), (yr 44, .inl (cT 0, 19, .inl gc7u1))]) hD hS hA [0, 1, 17, 18, 4] rfl) (hP.sub (ws' := [(y, .inr (11, MO yr yi ysb ybs)), (yr 0, .inl (cT 0, 19, .inl fp)), (yr 29, .inl (cT 0, 302, .inl f1u2)), (yr 40, .inl (cT 0, 19, .inl f1u3)), (yr 44, .inl (cT 0, 19, .inl gc7u1))]) [0, 1, 17, 18, 4] rfl) hK (hD.sub (ws' := [(y, .inr (11, MO yr yi ysb ybs)), (yr 0, .inl (cT 0, 19, .inl fp)), (yr 29, .inl (cT 0, 302, .inl f1u2)), (yr 40, .inl (cT 0, 19, .inl f1u3)), (yr 44, .inl (cT 0, 19, .inl gc7u1))]) [0, 1, 17, 18, 4] (by decide) rfl) rfl rfl) rfl rfl hl.1 rfl (lv_room (Nat.le_of_ble_eq_true rfl)) dM_commonBits_32 ⟨Nat.le_of_ble_eq_true rfl, Nat.le_of_ble_eq_true rfl⟩) (fun u9 H locs hpu4 hP hD hS => ?_)
  obtain ⟨z9u4, f9u4, g9u4⟩ := u9
  have hpu4 : MN f9u4 z9u4 ∧ LOK g9u4 bb ∧ (∀ q8, q8 < 19 → dg g9u4 q8 = max (dg f1u3 q8) (dg gc7u1 q8)) ∧ z9u4 * (dn f1u3 : Int) = 1 * (dn g9u4 : Int) := hpu4
  have hP : va_P D vwCl [(yr 30, .inl (cT 0, 302, .inl f8u1)), (yr 41, .inl (cT 0, 19, .inl g8u1)), (yr 45, .inl (cT 0, 6336, .inl ru7u1)), (yr 46, .inl (cT 0, 912, .inl rl7u1)), (yr 4, .inl (cT 0, 48, .inl tg)), (yr 27, .inl (cT 0, 65472, .inl up)), (yr 28, .inl (cT 0, 9424, .inl lw)), (yr 19, .inl (cT 0, 496, .inl nc)), (yr 22, .inl (cT 0, 496, .inl nl)), (yr 23, .inl (cT 0, 496, .inl nr)), (yr 5, .inl (cT 0, 288, .inl vv)), (yr 21, .inl (cT 3, 496, .inl tl)), (yr 26, .inl (cT 3, 496, .inl kd)), (yr 20, .inl (cT 0, 496, .inl ed)), (y, .inr (11, MO yr yi ysb ybs)), (yr 0, .inl (cT 0, 19, .inl fp)), (yr 29, .inl (cT 0, 302, .inl f9u4)), (yr 40, .inl (cT 0, 19, .inl g9u4)), (yr 44, .inl (cT 0, 19, .inl gc7u1))] _ := hP
  have hD : va_D A [(yr 30, .inl (cT 0, 302, .inl f8u1)), (yr 41, .inl (cT 0, 19, .inl g8u1)), (yr 45, .inl (cT 0, 6336, .inl ru7u1)), (yr 46, .inl (cT 0, 912, .inl rl7u1)), (yr 4, .inl (cT 0, 48, .inl tg)), (yr 27, .inl (cT 0, 65472, .inl up)), (yr 28, .inl (cT 0, 9424, .inl lw)), (yr 19, .inl (cT 0, 496, .inl nc)), (yr 22, .inl (cT 0, 496, .inl nl)), (yr 23, .inl (cT 0, 496, .inl nr)), (yr 5, .inl (cT 0, 288, .inl vv)), (yr 21, .inl (cT 3, 496, .inl tl)), (yr 26, .inl (cT 3, 496, .inl kd)), (yr 20, .inl (cT 0, 496, .inl ed)), (y, .inr (11, MO yr yi ysb ybs)), (yr 0, .inl (cT 0, 19, .inl fp)), (yr 29, .inl (cT 0, 302, .inl f9u4)), (yr 40, .inl (cT 0, 19, .inl g9u4)), (yr 44, .inl (cT 0, 19, .inl gc7u1))] := hD
  obtain ⟨rN, rL, rm, rv⟩ := hpu4
  have rD : dn g9u4 = dn gc7u1 := dnk_cg (fun q hq => by rw [rm q hq, dg_eq0 (zL q hq)]; omega)
  rw [dn_0 zL, rD, Int.one_mul] at rv
  obtain ⟨K, h300, hk, hd, htop, hs, hva⟩ := rN
  have hz9 : z9u4 = (dn gc7u1 : Int) := by rw [← rv]; exact (Int.mul_one _).symm
  have hCn : vM f9u4 K = dn gc7u1 := by rw [← hva, hz9]; exact Int.natAbs_natCast _
  have hK0 : 0 < K := by rcases Nat.eq_zero_or_pos K with q | q; (rw [q] at hCn; have q1 := dn_pos (f := gc7u1); rw [← hCn] at q1; exact absurd q1 (Nat.lt_irrefl 0)); (exact q)
  have hbt := bl_M hd htop hK0
  rw [hCn] at hbt
  have htd := hd (K - 1) (by omega)
  obtain ⟨tp, htp⟩ : ∃ q9 : Nat, q9 = dg f9u4 (K - 1) := ⟨_, rfl⟩
  rw [← htp] at hbt htd
  refine lv_aload_n hx hb dM_commonBits_35 rfl (lv_at hl 0 rfl) ?_
  refine va_get (D := D) (ci := 11) (v := .ref (yr 29)) (C := R_M) (T := T_M) (N := 60) hx hb hT in_M hown hK hP 14 rfl rfl 29 (by decide) (hT _ w1133) (fun _ h9 => h9) rfl dM_commonBits_36 ?_
  refine lv_aload_n hx hb dM_commonBits_39 rfl (lv_at hl 0 rfl) ?_
  refine va_get (D := D) (ci := 11) (v := .ref (yr 29)) (C := R_M) (T := T_M) (N := 60) hx hb hT in_M hown hK hP 14 rfl rfl 29 (by decide) (hT _ w1133) (fun _ h9 => h9) rfl dM_commonBits_40 ?_
  refine lv_sipush (v := 300) hx hb dM_commonBits_43 (by decide) ?_
  refine lq_iald (j := 300) hx hb hK hP 16 0 rfl rfl rfl (by decide) (by decide) dM_commonBits_46 ?_
  refine lv_topi (fun y9 e9 => ?_)
  cases (show y9 = nI K from e9.trans h300)
  refine lv_iconst (v := 1) hx hb dM_commonBits_47 (by decide) ?_
  refine lv_isub hx hb dM_commonBits_48 ?_
  refine lv_topi (fun y9 e9 => ?_)
  cases (show y9 = nI (K - 1) from e9.trans (pk_sub (a := K) (b := 1) (by omega)))
  refine lq_iald (j := K - 1) hx hb hK hP 16 0 rfl rfl rfl (by omega) (by omega) dM_commonBits_49 ?_
  refine lv_topi (fun y9 e9 => ?_)
  cases (show y9 = nI tp from e9.trans htd.1)
  refine lv_istore_n hx hb dM_commonBits_50 rfl hl (by decide) rfl (fun ls hl => ?_)
  have hl : lv_has ls 3 [(1, .int (nI tp)), (0, .ref y)] := hl
  refine lv_bipush (v := 28) hx hb dM_commonBits_51 (by decide) ?_
  refine lv_aload_n hx hb dM_commonBits_53 rfl (lv_at hl 1 rfl) ?_
  refine va_get (D := D) (ci := 11) (v := .ref (yr 29)) (C := R_M) (T := T_M) (N := 60) hx hb hT in_M hown hK hP 14 rfl rfl 29 (by decide) (hT _ w1133) (fun _ h9 => h9) rfl dM_commonBits_54 ?_
  refine lv_sipush (v := 300) hx hb dM_commonBits_57 (by decide) ?_
  refine lq_iald (j := 300) hx hb hK hP 16 0 rfl rfl rfl (by decide) (by decide) dM_commonBits_60 ?_
  refine lv_topi (fun y9 e9 => ?_)
  cases (show y9 = nI K from e9.trans h300)
  refine lv_iconst (v := 1) hx hb dM_commonBits_61 (by decide) ?_
  refine lv_isub hx hb dM_commonBits_62 ?_
  refine lv_topi (fun y9 e9 => ?_)
  cases (show y9 = nI (K - 1) from e9.trans (pk_sub (a := K) (b := 1) (by omega)))
  refine lv_imul hx hb dM_commonBits_63 ?_
  refine lv_topi (fun y9 e9 => ?_)
  cases (show y9 = nI (28 * (K - 1)) from e9.trans (pk_mul 28 (K - 1)))
  refine lv_istore_n hx hb dM_commonBits_64 rfl hl (by decide) rfl (fun ls hl => ?_)
  have hl : lv_has ls 3 [(2, .int (nI (28 * (K - 1)))), (1, .int (nI tp)), (0, .ref y)] := hl
  refine lp_r (α := Nat × Nat) (fun a9 => a9.1 ≤ tp ∧ a9.2 + bl a9.1 = 28 * (K - 1) + bl tp) (fun a9 => a9.1) (fun a9 => [(0, .ref y), (1, .int (nI a9.1)), (2, .int (nI a9.2))]) 65 ?_ (tp, 28 * (K - 1)) (show tp ≤ tp ∧ (28 * (K - 1)) + bl tp = 28 * (K - 1) + bl tp from ⟨Nat.le_refl _, rfl⟩) (lv_sub hl [2, 1, 0] rfl)
  intro a9 hI65 ih65 ls hl
  obtain ⟨x, bt⟩ := a9
  have hI65 : x ≤ tp ∧ bt + bl x = 28 * (K - 1) + bl tp := hI65
  obtain ⟨jx, jb⟩ := hI65
  have hl : lv_has ls 3 [(0, .ref y), (1, .int (nI x)), (2, .int (nI bt))] := hl
  refine lv_iload_n hx hb dM_commonBits_65 rfl (lv_at hl 1 rfl) ?_
  refine lv_if_le (tgt := 79) hx hb dM_commonBits_66 rfl (fun h5 => ?_) (fun h5 => ?_)
  · have gh5 : x ≤ 0 := (nI_leI (a := x) (b := 0) (by have := htd.2; omega) (by decide)).mp h5
    refine lv_iload_n hx hb dM_commonBits_79 rfl (lv_at hl 2 rfl) ?_
    have hP9 := hP.sub (ws' := [(y, .inr (11, MO yr yi ysb ybs)), (yr 0, .inl (cT 0, 19, .inl fp)), (yr 29, .inl (cT 0, 302, .inl f9u4)), (yr 40, .inl (cT 0, 19, .inl g9u4)), (yr 30, .inl (cT 0, 302, .inl f8u1)), (yr 41, .inl (cT 0, 19, .inl g8u1)), (yr 44, .inl (cT 0, 19, .inl gc7u1)), (yr 45, .inl (cT 0, 6336, .inl ru7u1)), (yr 46, .inl (cT 0, 912, .inl rl7u1)), (yr 4, .inl (cT 0, 48, .inl tg)), (yr 27, .inl (cT 0, 65472, .inl up)), (yr 28, .inl (cT 0, 9424, .inl lw)), (yr 19, .inl (cT 0, 496, .inl nc)), (yr 22, .inl (cT 0, 496, .inl nl)), (yr 23, .inl (cT 0, 496, .inl nr)), (yr 5, .inl (cT 0, 288, .inl vv)), (yr 21, .inl (cT 3, 496, .inl tl)), (yr 26, .inl (cT 3, 496, .inl kd)), (yr 20, .inl (cT 0, 496, .inl ed))]) [14, 15, 16, 17, 0, 1, 18, 2, 3, 4, 5, 6, 7, 8, 9, 10, 11, 12, 13] rfl
    have hD9 := hD.sub (ws' := [(y, .inr (11, MO yr yi ysb ybs)), (yr 0, .inl (cT 0, 19, .inl fp)), (yr 29, .inl (cT 0, 302, .inl f9u4)), (yr 40, .inl (cT 0, 19, .inl g9u4)), (yr 30, .inl (cT 0, 302, .inl f8u1)), (yr 41, .inl (cT 0, 19, .inl g8u1)), (yr 44, .inl (cT 0, 19, .inl gc7u1)), (yr 45, .inl (cT 0, 6336, .inl ru7u1)), (yr 46, .inl (cT 0, 912, .inl rl7u1)), (yr 4, .inl (cT 0, 48, .inl tg)), (yr 27, .inl (cT 0, 65472, .inl up)), (yr 28, .inl (cT 0, 9424, .inl lw)), (yr 19, .inl (cT 0, 496, .inl nc)), (yr 22, .inl (cT 0, 496, .inl nl)), (yr 23, .inl (cT 0, 496, .inl nr)), (yr 5, .inl (cT 0, 288, .inl vv)), (yr 21, .inl (cT 3, 496, .inl tl)), (yr 26, .inl (cT 3, 496, .inl kd)), (yr 20, .inl (cT 0, 496, .inl ed))]) [14, 15, 16, 17, 0, 1, 18, 2, 3, 4, 5, 6, 7, 8, 9, 10, 11, 12, 13] (by decide) rfl
    refine W.widen (k := 0) (n := 0) (Nat.le_of_ble_eq_true rfl) (Nat.le_of_ble_eq_true rfl) ?_
    exact W.iret (v := nI bt) hx hb hr (fun t9 ht9 hW9 => ⟨⟨nI bt, (zr7u1, gc7u1, ru7u1, rl7u1, f9u4, g9u4, f8u1, g8u1), rfl, (show (nI bt) = nI (bl (dn gc7u1)) ∧ LOK gc7u1 bb ∧ COMM ru7u1 gc7u1 n zr7u1 (fun j8 => X j8 T) (Pp T) from ⟨by rw [hbt, ← jb, show x = 0 by omega, show bl 0 = 0 from rfl, Nat.add_zero], cL, cM⟩), by rw [ht9]; exact hP9, hD9⟩, hS.F ht9⟩) hS.2.2 dM_commonBits_80
  · have gh5 : 0 < x := Nat.not_le.mp (fun q => h5 ((nI_leI (a := x) (b := 0) (by have := htd.2; omega) (by decide)).mpr q))
    refine lv_iload_n hx hb dM_commonBits_69 rfl (lv_at hl 1 rfl) ?_
    refine lv_iconst (v := 1) hx hb dM_commonBits_70 (by decide) ?_
    refine lv_ishr hx hb dM_commonBits_71 ?_
    refine lv_topi (fun y9 e9 => ?_)
    cases (show y9 = nI (x / 2) from e9.trans (pk_shrN (by omega) _ 1 (by decide)))
    refine lv_istore_n hx hb dM_commonBits_72 rfl hl (by decide) rfl (fun ls hl => ?_)
    have hl : lv_has ls 3 [(1, .int (nI (x / 2))), (0, .ref y), (2, .int (nI bt))] := hl
    refine lv_iinc (k := 2) (v := nI (bt + 1)) hx hb dM_commonBits_73 hl rfl (nI_1 bt) (by decide) rfl (fun ls hl => ?_)
    have hl : lv_has ls 3 [(2, .int (nI (bt + 1))), (1, .int (nI (x / 2))), (0, .ref y)] := hl
    refine lv_goto (tgt := 65) hx hb dM_commonBits_76 rfl ?_
    exact ih65 (x / 2, bt + 1) (show (x / 2) ≤ tp ∧ (bt + 1) + bl (x / 2) = 28 * (K - 1) + bl tp from ⟨by omega, by have := bl_half (show 0 < x by omega); omega⟩) (show (x / 2) < x from (by omega)) ls (lv_sub hl [2, 1, 0] rfl)
set_option maxHeartbeats 4000000 in
set_option maxRecDepth 100000 in
theorem m_keep (l : Launch) (D : va_G) (cT : Nat → ClassId) (y : Nat) (yr : Nat → Nat) (yi : Nat → Int32) (ysb : Int64) (ybs : Int64) (fp : Nat → Int32) (up : Nat → Int32) (lw : Nat → Int32) (gl : Nat → Int32) (nd : Nat) (bb : Nat) (X : Int) (Dn : Nat) (a : Nat) (f : Nat → Int32) (z : Int) (hPR : PRI fp) (hN : MN f z) (hL : LOK gl bb) (hbb : bb < 2 ^ 30) (hnd : nd < 496) (hfit : z.natAbs < 268435456 ^ 130) (hv9 : z * (Dn : Int) = X * (dn gl : Int)) (sz : Nat) : Met l yM_keep WM_keep ({ frames := 3, cells := 0, slots := 0, locals := 72 } : Room) (RW D vwCl [.ref y, .int (nI nd), .ref a] [(y, .inr (11, MO yr yi ysb ybs)), (yr 0, .inl (cT 0, 19, .inl fp)), (yr 27, .inl (cT 0, 65472, .inl up)), (yr 28, .inl (cT 0, 9424, .inl lw)), (yr 40, .inl (cT 0, 19, .inl gl)), (a, .inl (cT 0, 302, .inl f))] (TY cT) sz) (va_Qv (fun u9 : (Nat → Int32) × (Nat → Int32) × (Nat → Int32) × (Nat → Int32) => NF u9.2.2.1 u9.2.2.2 bb nd X Dn ∧ (∀ q8, q8 < 132 * nd ∨ 132 * nd + 132 ≤ q8 → u9.2.2.1 q8 = up q8) ∧ ∀ q8, q8 < 19 * nd ∨ 19 * nd + 19 ≤ q8 → u9.2.2.2 q8 = lw q8) (BW D vwCl (va_A [(y, .inr (11, MO yr yi ysb ybs)), (yr 0, .inl (cT 0, 19, .inl fp)), (yr 27, .inl (cT 0, 65472, .inl up)), (yr 28, .inl (cT 0, 9424, .inl lw)), (yr 40, .inl (cT 0, 19, .inl gl)), (a, .inl (cT 0, 302, .inl f))] sz) (fun u9 : (Nat → Int32) × (Nat → Int32) × (Nat → Int32) × (Nat → Int32) => [(y, .inr (11, MO yr yi ysb ybs)), (yr 0, .inl (cT 0, 19, .inl fp)), (yr 27, .inl (cT 0, 65472, .inl u9.2.2.1)), (yr 28, .inl (cT 0, 9424, .inl u9.2.2.2)), (yr 40, .inl (cT 0, 19, .inl u9.2.1)), (a, .inl (cT 0, 302, .inl u9.1))])) (va_A [(y, .inr (11, MO yr yi ysb ybs)), (yr 0, .inl (cT 0, 19, .inl fp)), (yr 27, .inl (cT 0, 65472, .inl up)), (yr 28, .inl (cT 0, 9424, .inl lw)), (yr 40, .inl (cT 0, 19, .inl gl)), (a, .inl (cT 0, 302, .inl f))] sz)) 0 0 (va_A [(y, .inr (11, MO yr yi ysb ybs)), (yr 0, .inl (cT 0, 19, .inl fp)), (yr 27, .inl (cT 0, 65472, .inl up)), (yr 28, .inl (cT 0, 9424, .inl lw)), (yr 40, .inl (cT 0, 19, .inl gl)), (a, .inl (cT 0, 302, .inl f))] sz) := by
  refine Met.ofW (cc := cM_keep) (maxL := 3) (ret := none) (by decide) rfl ?_
  intro p e s m args below meth c s₁ B hml hv
  obtain ⟨rfl, hsz, hZ, hP, hK, hD0⟩ := hv
  have hx := B.exec
  have hb := B.bytes
  have hr := B.returns
  have hts := atoms_spec (ws := WM_keep) B.pre
  have hT : ∀ w ∈ TB, w.before _ s = true := fun w h => hts w (List.mem_cons_of_mem _ h)
  have hown : s.vm.findClass R_M = some m.cls := findClass_of_methodNamed B.named
  have hlocks := B.notSynchronized
  subst hsz
  have hD := hD0.self (sz := s.heap.size)
  generalize hAe : va_A [(y, .inr (11, MO yr yi ysb ybs)), (yr 0, .inl (cT 0, 19, .inl fp)), (yr 27, .inl (cT 0, 65472, .inl up)), (yr 28, .inl (cT 0, 9424, .inl lw)), (yr 40, .inl (cT 0, 19, .inl gl)), (a, .inl (cT 0, 302, .inl f))] s.heap.size = A at hD hZ ⊢
  have hA : ∀ q : Nat, s.heap.size ≤ q → A q := fun q h => by rw [← hAe]; exact Or.inr h
  have hS : va_S A s.heap s.heap [] := va_S.rf
  have hl := lv_entry ([.ref y, .int (nI nd), .ref a]) (n := 3) (Nat.le_of_ble_eq_true rfl)
  rw [lg_entry_eq]
  generalize (lg_sl ([.ref y, .int (nI nd), .ref a]) ++ List.replicate (3 - (lg_sl ([.ref y, .int (nI nd), .ref a])).length) Slot.unset).toArray = ls at hl ⊢
  have hl : lv_has ls 3 [(0, .ref y), (1, .int (nI nd)), (2, .ref a)] := hl
  refine lv_aload_n hx hb dM_keep_0 rfl (lv_at hl 0 rfl) ?_
  refine lv_aload_n hx hb dM_keep_1 rfl (lv_at hl 2 rfl) ?_
  refine lv_aload_n hx hb dM_keep_2 rfl (lv_at hl 0 rfl) ?_
  refine va_get (D := D) (ci := 11) (v := .ref (yr 40)) (C := R_M) (T := T_M) (N := 60) hx hb hT in_M hown hK hP 0 rfl rfl 40 (by decide) (hT _ w1144) (fun _ h9 => h9) rfl dM_keep_3 ?_
  refine rw_v (wc := [(y, .inr (11, MO yr yi ysb ybs)), (yr 0, .inl (cT 0, 19, .inl fp)), (a, .inl (cT 0, 302, .inl f)), (yr 40, .inl (cT 0, 19, .inl gl))]) (wr := [(yr 27, .inl (cT 0, 65472, .inl up)), (yr 28, .inl (cT 0, 9424, .inl lw))]) hP hD hS hA [0, 1, 5, 4] [2, 3] rfl rfl (by decide) (by decide) (va_runV (As := [.ref a, .ref (yr 40)]) (rest := []) ⟨hx, hb, hml, hown, hT⟩ (m_reduce l D cT y yr yi ysb ybs fp a f z (yr 40) gl bb hPR hN hL hbb _) ⟨callB_of 2 hT (tb_gd w1440) rfl rfl rfl (hT _ w13) (hT _ w1437) hM_reduce ⟨Nat.le_of_ble_eq_true rfl, Nat.le_of_ble_eq_true rfl⟩, (hT _ w1439), (hT _ wp42)⟩ (RW.preV (ci := 11) (q0 := 0) hZ hS (va_free (wc := [(y, .inr (11, MO yr yi ysb ybs)), (yr 0, .inl (cT 0, 19, .inl fp)), (a, .inl (cT 0, 302, .inl f)), (yr 40, .inl (cT 0, 19, .inl gl))]) hD hS hA [0, 1, 5, 4] rfl) (hP.sub (ws' := [(y, .inr (11, MO yr yi ysb ybs)), (yr 0, .inl (cT 0, 19, .inl fp)), (a, .inl (cT 0, 302, .inl f)), (yr 40, .inl (cT 0, 19, .inl gl))]) [0, 1, 5, 4] rfl) hK (hD.sub (ws' := [(y, .inr (11, MO yr yi ysb ybs)), (yr 0, .inl (cT 0, 19, .inl fp)), (a, .inl (cT 0, 302, .inl f)), (yr 40, .inl (cT 0, 19, .inl gl))]) [0, 1, 5, 4] (by decide) rfl) rfl rfl) rfl rfl hl.1 rfl (lv_room (Nat.le_of_ble_eq_true rfl)) dM_keep_6 ⟨Nat.le_of_ble_eq_true rfl, Nat.le_of_ble_eq_true rfl⟩) (fun u9 H locs hpu1 hP hD hS => ?_)
  obtain ⟨z9u1, f9u1, g9u1⟩ := u9
  have hpu1 : MN f9u1 z9u1 ∧ LOK g9u1 bb ∧ RED z9u1 g9u1 ∧ z9u1 * (dn gl : Int) = z * (dn g9u1 : Int) := hpu1
  have hP : va_P D vwCl [(yr 27, .inl (cT 0, 65472, .inl up)), (yr 28, .inl (cT 0, 9424, .inl lw)), (y, .inr (11, MO yr yi ysb ybs)), (yr 0, .inl (cT 0, 19, .inl fp)), (a, .inl (cT 0, 302, .inl f9u1)), (yr 40, .inl (cT 0, 19, .inl g9u1))] _ := hP
  have hD : va_D A [(yr 27, .inl (cT 0, 65472, .inl up)), (yr 28, .inl (cT 0, 9424, .inl lw)), (y, .inr (11, MO yr yi ysb ybs)), (yr 0, .inl (cT 0, 19, .inl fp)), (a, .inl (cT 0, 302, .inl f9u1)), (yr 40, .inl (cT 0, 19, .inl g9u1))] := hD
  obtain ⟨kN, kL, kR, kv⟩ := hpu1
  have kb := red_le dn_pos kR kv
  refine lv_aload_n hx hb dM_keep_9 rfl (lv_at hl 2 rfl) ?_
  refine lv_aload_n hx hb dM_keep_10 rfl (lv_at hl 0 rfl) ?_
  refine va_get (D := D) (ci := 11) (v := .ref (yr 27)) (C := R_M) (T := T_M) (N := 60) hx hb hT in_M hown hK hP 2 rfl rfl 27 (by decide) (hT _ w1131) (fun _ h9 => h9) rfl dM_keep_11 ?_
  refine lv_sipush (v := 132) hx hb dM_keep_14 (by decide) ?_
  refine lv_iload_n hx hb dM_keep_17 rfl (lv_at hl 1 rfl) ?_
  refine lv_imul hx hb dM_keep_18 ?_
  refine lv_topi (fun y9 e9 => ?_)
  cases (show y9 = nI (132 * nd) from e9.trans (pk_mul 132 nd))
  refine rw_v (wc := [(a, .inl (cT 0, 302, .inl f9u1)), (yr 27, .inl (cT 0, 65472, .inl up))]) (wr := [(yr 28, .inl (cT 0, 9424, .inl lw)), (y, .inr (11, MO yr yi ysb ybs)), (yr 0, .inl (cT 0, 19, .inl fp)), (yr 40, .inl (cT 0, 19, .inl g9u1))]) hP hD hS hA [4, 0] [1, 2, 3, 5] rfl rfl (by decide) (by decide) (va_runS (As := [.ref a, .ref (yr 27), .int (nI (132 * nd))]) (rest := []) ⟨hx, hb, hml, hown, hT⟩ (m_store l D cT a f9u1 z9u1 (yr 27) 65472 up (132 * nd) kN (Nat.lt_of_le_of_lt kb.1 hfit) (by omega) (by decide) _) ⟨callB_of 3 hT (tb_gd w1449) rfl rfl rfl (hT _ w13) (hT _ w1447) hM_store ⟨Nat.le_of_ble_eq_true rfl, Nat.le_of_ble_eq_true rfl⟩, (hT _ w1448)⟩ (RW.preS hZ hS (va_free (wc := [(a, .inl (cT 0, 302, .inl f9u1)), (yr 27, .inl (cT 0, 65472, .inl up))]) hD hS hA [4, 0] rfl) (hP.sub (ws' := [(a, .inl (cT 0, 302, .inl f9u1)), (yr 27, .inl (cT 0, 65472, .inl up))]) [4, 0] rfl) hK (hD.sub (ws' := [(a, .inl (cT 0, 302, .inl f9u1)), (yr 27, .inl (cT 0, 65472, .inl up))]) [4, 0] (by decide) rfl)) rfl rfl hl.1 rfl (lv_room (Nat.le_of_ble_eq_true rfl)) dM_keep_19 ⟨Nat.le_of_ble_eq_true rfl, Nat.le_of_ble_eq_true rfl⟩) (fun u9 H locs hpu2 hP hD hS => ?_)
  obtain ⟨f1u2, rfl⟩ : ∃ q9, q9 = u9 := ⟨_, rfl⟩
  have hpu2 : MR f1u2 (132 * nd) z9u1 ∧ ∀ q8, q8 < (132 * nd) ∨ (132 * nd) + 132 ≤ q8 → f1u2 q8 = up q8 := hpu2
  have hP : va_P D vwCl [(yr 28, .inl (cT 0, 9424, .inl lw)), (y, .inr (11, MO yr yi ysb ybs)), (yr 0, .inl (cT 0, 19, .inl fp)), (yr 40, .inl (cT 0, 19, .inl g9u1)), (a, .inl (cT 0, 302, .inl f9u1)), (yr 27, .inl (cT 0, 65472, .inl f1u2))] _ := hP
  have hD : va_D A [(yr 28, .inl (cT 0, 9424, .inl lw)), (y, .inr (11, MO yr yi ysb ybs)), (yr 0, .inl (cT 0, 19, .inl fp)), (yr 40, .inl (cT 0, 19, .inl g9u1)), (a, .inl (cT 0, 302, .inl f9u1)), (yr 27, .inl (cT 0, 65472, .inl f1u2))] := hD
  obtain ⟨sM, sO⟩ := hpu2
  refine lv_aload_n hx hb dM_keep_22 rfl (lv_at hl 0 rfl) ?_
  refine va_get (D := D) (ci := 11) (v := .ref (yr 40)) (C := R_M) (T := T_M) (N := 60) hx hb hT in_M hown hK hP 1 rfl rfl 40 (by decide) (hT _ w1144) (fun _ h9 => h9) rfl dM_keep_23 ?_
  refine lv_aload_n hx hb dM_keep_26 rfl (lv_at hl 0 rfl) ?_
  refine va_get (D := D) (ci := 11) (v := .ref (yr 28)) (C := R_M) (T := T_M) (N := 60) hx hb hT in_M hown hK hP 1 rfl rfl 28 (by decide) (hT _ w1132) (fun _ h9 => h9) rfl dM_keep_27 ?_
  refine lv_bipush (v := 19) hx hb dM_keep_30 (by decide) ?_
  refine lv_iload_n hx hb dM_keep_32 rfl (lv_at hl 1 rfl) ?_
  refine lv_imul hx hb dM_keep_33 ?_
  refine lv_topi (fun y9 e9 => ?_)
  cases (show y9 = nI (19 * nd) from e9.trans (pk_mul 19 nd))
  refine rw_v (wc := [(yr 40, .inl (cT 0, 19, .inl g9u1)), (yr 28, .inl (cT 0, 9424, .inl lw))]) (wr := [(y, .inr (11, MO yr yi ysb ybs)), (yr 0, .inl (cT 0, 19, .inl fp)), (a, .inl (cT 0, 302, .inl f9u1)), (yr 27, .inl (cT 0, 65472, .inl f1u2))]) hP hD hS hA [3, 0] [1, 2, 4, 5] rfl rfl (by decide) (by decide) (va_runS (As := [.ref (yr 40), .ref (yr 28), .int (nI (19 * nd))]) (rest := []) ⟨hx, hb, hml, hown, hT⟩ (m_storeL l D cT (yr 40) g9u1 (yr 28) 9424 lw (19 * nd) (by omega) (by decide) _) ⟨callB_of 3 hT (tb_gd w1452) rfl rfl rfl (hT _ w13) (hT _ w1450) hM_storeLows ⟨Nat.le_of_ble_eq_true rfl, Nat.le_of_ble_eq_true rfl⟩, (hT _ w1451)⟩ (RW.preS hZ hS (va_free (wc := [(yr 40, .inl (cT 0, 19, .inl g9u1)), (yr 28, .inl (cT 0, 9424, .inl lw))]) hD hS hA [3, 0] rfl) (hP.sub (ws' := [(yr 40, .inl (cT 0, 19, .inl g9u1)), (yr 28, .inl (cT 0, 9424, .inl lw))]) [3, 0] rfl) hK (hD.sub (ws' := [(yr 40, .inl (cT 0, 19, .inl g9u1)), (yr 28, .inl (cT 0, 9424, .inl lw))]) [3, 0] (by decide) rfl)) rfl rfl hl.1 rfl (lv_room (Nat.le_of_ble_eq_true rfl)) dM_keep_34 ⟨Nat.le_of_ble_eq_true rfl, Nat.le_of_ble_eq_true rfl⟩) (fun u9 H locs hpu3 hP hD hS => ?_)
  obtain ⟨f1u3, rfl⟩ : ∃ q9, q9 = u9 := ⟨_, rfl⟩
  have hpu3 : (∀ q8, q8 < 19 → f1u3 ((19 * nd) + q8) = g9u1 q8) ∧ ∀ q8, q8 < (19 * nd) ∨ (19 * nd) + 19 ≤ q8 → f1u3 q8 = lw q8 := hpu3
  have hP : va_P D vwCl [(y, .inr (11, MO yr yi ysb ybs)), (yr 0, .inl (cT 0, 19, .inl fp)), (a, .inl (cT 0, 302, .inl f9u1)), (yr 27, .inl (cT 0, 65472, .inl f1u2)), (yr 40, .inl (cT 0, 19, .inl g9u1)), (yr 28, .inl (cT 0, 9424, .inl f1u3))] _ := hP
  have hD : va_D A [(y, .inr (11, MO yr yi ysb ybs)), (yr 0, .inl (cT 0, 19, .inl fp)), (a, .inl (cT 0, 302, .inl f9u1)), (yr 27, .inl (cT 0, 65472, .inl f1u2)), (yr 40, .inl (cT 0, 19, .inl g9u1)), (yr 28, .inl (cT 0, 9424, .inl f1u3))] := hD
  have hP9 := hP.sub (ws' := [(y, .inr (11, MO yr yi ysb ybs)), (yr 0, .inl (cT 0, 19, .inl fp)), (yr 27, .inl (cT 0, 65472, .inl f1u2)), (yr 28, .inl (cT 0, 9424, .inl f1u3)), (yr 40, .inl (cT 0, 19, .inl g9u1)), (a, .inl (cT 0, 302, .inl f9u1))]) [0, 1, 3, 5, 4, 2] rfl
  have hD9 := hD.sub (ws' := [(y, .inr (11, MO yr yi ysb ybs)), (yr 0, .inl (cT 0, 19, .inl fp)), (yr 27, .inl (cT 0, 65472, .inl f1u2)), (yr 28, .inl (cT 0, 9424, .inl f1u3)), (yr 40, .inl (cT 0, 19, .inl g9u1)), (a, .inl (cT 0, 302, .inl f9u1))]) [0, 1, 3, 5, 4, 2] (by decide) rfl
  refine W.widen (k := 0) (n := 0) (Nat.le_of_ble_eq_true rfl) (Nat.le_of_ble_eq_true rfl) ?_
  exact W.vret hx hb hr (fun t9 ht9 hW9 => ⟨⟨(f9u1, g9u1, f1u2, f1u3), rfl, (show NF f1u2 f1u3 bb nd X Dn ∧ (∀ q8, q8 < 132 * nd ∨ 132 * nd + 132 ≤ q8 → f1u2 q8 = up q8) ∧ ∀ q8, q8 < 19 * nd ∨ 19 * nd + 19 ≤ q8 → f1u3 q8 = lw q8 from ⟨nf_mk sM hpu3.1 kL kR hv9 kv, sO, hpu3.2⟩), by rw [ht9]; exact hP9, hD9⟩, hS.F ht9⟩) hS.2.2 dM_keep_37
