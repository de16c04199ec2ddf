/-! Comparing, adding, multiplying numbers by digits. -/
def ic (x y : Int32) : Int32 := if x < y then -1 else if x = y then 0 else 1
def cz (x y : Int) : Int32 := if x < y then -1 else if x = y then 0 else 1
def cn (x y : Nat) : Int32 := if x < y then -1 else if x = y then 0 else 1
theorem ic_eq {x y : Int32} (h : ic x y = 0) : x = y := by
  unfold ic at h
  split at h
  · exact absurd h (by decide)
  · split at h
    · assumption
    · exact absurd h (by decide)
theorem ic_rf (x : Int32) : ic x x = 0 := by
  unfold ic
  rw [if_neg (Int32.lt_irrefl _), if_pos rfl]
theorem cn_lt {a b : Nat} (h : a < b) : cn a b = -1 := if_pos h
theorem cn_gt {a b : Nat} (h : b < a) : cn a b = 1 := by
  unfold cn
  rw [if_neg (by omega), if_neg (by omega)]
theorem cn_rf {a b : Nat} (h : a = b) : cn a b = 0 := by
  unfold cn
  rw [if_neg (by omega), if_pos h]
theorem cn_eq {a b : Nat} (h : cn a b = 0) : a = b := by
  rcases Nat.lt_trichotomy a b with q | q | q
  · rw [cn_lt q] at h; exact absurd h (by decide)
  · exact q
  · rw [cn_gt q] at h; exact absurd h (by decide)
theorem ic_nI {a b : Nat} (ha : a < 2 ^ 31) (hb : b < 2 ^ 31) : ic (nI a) (nI b) = cn a b := by
  unfold ic
  rcases Nat.lt_trichotomy a b with h | h | h
  · rw [if_pos ((nI_ltI ha hb).mpr h), cn_lt h]
  · subst h
    rw [if_neg (Int32.lt_irrefl _), if_pos rfl, cn_rf rfl]
  · rw [if_neg (fun q => absurd ((nI_ltI ha hb).mp q) (by omega)), if_neg (fun q => absurd ((nI_eq ha hb).mp q) (by omega)), cn_gt h]
theorem cz_lt {x y : Int} (h : x < y) : cz x y = -1 := if_pos h
theorem cz_gt {x y : Int} (h : y < x) : cz x y = 1 := by
  unfold cz
  rw [if_neg (by omega), if_neg (by omega)]
theorem cz_rf {x y : Int} (h : x = y) : cz x y = 0 := by
  unfold cz
  rw [if_neg (by omega), if_pos h]
theorem sgN {x : Int} (h : x < 0) : sg x = -1 := by
  unfold sg
  rw [if_neg (by omega), if_pos h]
theorem sgZ {x : Int} (h : x = 0) : sg x = 0 := if_pos h
theorem sgP {x : Int} (h : 0 < x) : sg x = 1 := by
  unfold sg
  rw [if_neg (by omega), if_neg (by omega)]
theorem cz_sg {x y : Int} (h : ¬ ic (sg x) (sg y) = 0) : ic (sg x) (sg y) = cz x y := by
  rcases (show x < 0 ∨ x = 0 ∨ 0 < x by omega) with hx | hx | hx
  · rcases (show y < 0 ∨ y = 0 ∨ 0 < y by omega) with hy | hy | hy
    · rw [sgN hx, sgN hy] at h; exact absurd (ic_rf _) h
    · rw [sgN hx, sgZ hy, cz_lt (by omega)]; decide
    · rw [sgN hx, sgP hy, cz_lt (by omega)]; decide
  · rcases (show y < 0 ∨ y = 0 ∨ 0 < y by omega) with hy | hy | hy
    · rw [sgZ hx, sgN hy, cz_gt (by omega)]; decide
    · rw [sgZ hx, sgZ hy] at h; exact absurd (ic_rf _) h
    · rw [sgZ hx, sgP hy, cz_lt (by omega)]; decide
  · rcases (show y < 0 ∨ y = 0 ∨ 0 < y by omega) with hy | hy | hy
    · rw [sgP hx, sgN hy, cz_gt (by omega)]; decide
    · rw [sgP hx, sgZ hy, cz_gt (by omega)]; decide
    · rw [sgP hx, sgP hy] at h; exact absurd (ic_rf _) h
theorem sg_inj0 {x y : Int} (h : sg x = sg y) (hx : 0 ≤ x) (hy : y ≤ 0) : x = 0 ∧ y = 0 := by
  rcases (show x = 0 ∨ 0 < x by omega) with q | q
  · rcases (show y = 0 ∨ y < 0 by omega) with r | r
    · exact ⟨q, r⟩
    · rw [sgZ q, sgN r] at h; exact absurd h (by decide)
  · rcases (show y = 0 ∨ y < 0 by omega) with r | r
    · rw [sgP q, sgZ r] at h; exact absurd h (by decide)
    · rw [sgP q, sgN r] at h; exact absurd h (by decide)
theorem cz_fin {b b2 : Int32} {V V2 : Nat} (hs : sg (wz b V) = sg (wz b2 V2)) : cz (wz b V) (wz b2 V2) = if b = 0 then cn V V2 else -(cn V V2) := by
  have c1 : cz (V : Int) (V2 : Int) = cn V V2 := by
    rcases Nat.lt_trichotomy V V2 with h | h | h
    · rw [cn_lt h, cz_lt (by omega)]
    · rw [cn_rf h, cz_rf (by omega)]
    · rw [cn_gt h, cz_gt (by omega)]
  have c2 : cz (-(V : Int)) (-(V2 : Int)) = -(cn V V2) := by
    rcases Nat.lt_trichotomy V V2 with h | h | h
    · rw [cn_lt h, cz_gt (by omega)]; decide
    · rw [cn_rf h, cz_rf (by omega)]; decide
    · rw [cn_gt h, cz_lt (by omega)]
  by_cases q : b = 0
  · rw [if_pos q]
    by_cases q2 : b2 = 0
    · unfold wz
      rw [if_pos q, if_pos q2, c1]
    · have e1 : wz b V = (V : Int) := if_pos q
      have e2 : wz b2 V2 = -(V2 : Int) := if_neg q2
      rw [e1, e2] at hs ⊢
      obtain ⟨r1, r2⟩ := sg_inj0 hs (by omega) (by omega)
      rw [cz_rf (by omega), cn_rf (by omega)]
  · rw [if_neg q]
    by_cases q2 : b2 = 0
    · have e1 : wz b V = -(V : Int) := if_neg q
      have e2 : wz b2 V2 = (V2 : Int) := if_pos q2
      rw [e1, e2] at hs ⊢
      obtain ⟨r1, r2⟩ := sg_inj0 hs.symm (by omega) (by omega)
      rw [cz_rf (by omega), cn_rf (by omega)]
      decide
    · unfold wz
      rw [if_neg q, if_neg q2, c2]
theorem vW_b {f : Nat → Int32} {K : Nat} (hd : dok 1000000000 f K) : vW f K < 1000000000 ^ K := hv_lt (fun j _ hj => (hd j (by omega)).2)
theorem vW_lt {f f2 : Nat → Int32} {K K2 : Nat} (hd : dok 1000000000 f K) (ht : top0 f2 K2) (h : K < K2) : vW f K < vW f2 K2 := by
  have h1 := vW_b hd
  have h2 : 1000000000 ^ (K2 - 1) ≤ vW f2 K2 := hv_top (by omega) (ht (by omega))
  have h3 : 1000000000 ^ K ≤ 1000000000 ^ (K2 - 1) := Nat.pow_le_pow_right (by decide) (by omega)
  omega
theorem cmp_len {f f2 : Nat → Int32} {K K2 : Nat} (hK : K < 2 ^ 31) (hK2 : K2 < 2 ^ 31) (hd : dok 1000000000 f K) (hd2 : dok 1000000000 f2 K2) (ht : top0 f K) (ht2 : top0 f2 K2) (q : ¬ ic (nI K) (nI K2) = 0) : ic (nI K) (nI K2) = cn (vW f K) (vW f2 K2) := by
  rw [ic_nI hK hK2] at q ⊢
  rcases Nat.lt_trichotomy K K2 with h | h | h
  · rw [cn_lt h, cn_lt (vW_lt hd ht2 h)]
  · exact absurd (cn_rf h) q
  · rw [cn_gt h, cn_gt (vW_lt hd2 ht h)]
theorem hv_cmp {B : Nat} {d d2 : Nat → Nat} {k K : Nat} (h0 : 0 < k) (hk : k ≤ K) (hb : ∀ j, j < K → d j < B) (hU : hv B d k (K - k) = hv B d2 k (K - k)) (hl : d (k - 1) < d2 (k - 1)) : hv B d 0 K < hv B d2 0 K := by
  have e : K = (k - 1) + (K - (k - 1)) := by omega
  have s1 := hv_split B d (K - (k - 1)) (k - 1) 0
  have s2 := hv_split B d2 (K - (k - 1)) (k - 1) 0
  rw [← e, Nat.zero_add, hv_dn h0 hk] at s1 s2
  rw [s1, s2, ← hU]
  have l1 : hv B d 0 (k - 1) < B ^ (k - 1) := hv_lt (fun j _ hj => hb j (by omega))
  have m1 : B ^ (k - 1) * (d (k - 1) + 1 + B * hv B d k (K - k)) ≤ B ^ (k - 1) * (d2 (k - 1) + B * hv B d k (K - k)) := Nat.mul_le_mul_left _ (by omega)
  rw [Nat.add_right_comm, Nat.mul_add _ _ 1, Nat.mul_one] at m1
  omega
theorem cmp_dig0 {f f2 : Nat → Int32} {K k : Nat} (h0 : 0 < k) (hk : k ≤ K) (hU : hv 1000000000 (dg f) k (K - k) = hv 1000000000 (dg f2) k (K - k)) (q : ic (f (k - 1)) (f2 (k - 1)) = 0) : hv 1000000000 (dg f) (k - 1) (K - (k - 1)) = hv 1000000000 (dg f2) (k - 1) (K - (k - 1)) := by
  rw [hv_dn h0 hk, hv_dn h0 hk, hU, show dg f (k - 1) = dg f2 (k - 1) by unfold dg; rw [ic_eq q]]
theorem cmp_dig {f f2 : Nat → Int32} {K K2 k : Nat} (e : K = K2) (h0 : 0 < k) (hk : k ≤ K) (hd : dok 1000000000 f K) (hd2 : dok 1000000000 f2 K2) (hU : hv 1000000000 (dg f) k (K - k) = hv 1000000000 (dg f2) k (K - k)) (q : ¬ ic (f (k - 1)) (f2 (k - 1)) = 0) : ic (f (k - 1)) (f2 (k - 1)) = cn (vW f K) (vW f2 K2) := by
  subst e
  obtain ⟨a1, a2⟩ := hd (k - 1) (by omega)
  obtain ⟨b1, b2⟩ := hd2 (k - 1) (by omega)
  rw [a1, b1, ic_nI (by omega) (by omega)] at q ⊢
  rcases Nat.lt_trichotomy (dg f (k - 1)) (dg f2 (k - 1)) with h | h | h
  · rw [cn_lt h, cn_lt (hv_cmp h0 hk (fun j hj => (hd j hj).2) hU h)]
  · exact absurd (cn_rf h) q
  · rw [cn_gt h, cn_gt (hv_cmp h0 hk (fun j hj => (hd2 j hj).2) hU.symm h)]
theorem cmp_end {f f2 : Nat → Int32} {K K2 k : Nat} {od : Int32} (h1 : od = 0 → K = K2 ∧ hv 1000000000 (dg f) k (K - k) = hv 1000000000 (dg f2) k (K - k)) (h2 : ¬ od = 0 → od = cn (vW f K) (vW f2 K2)) (h : k = 0 ∨ ¬ od = 0) : od = cn (vW f K) (vW f2 K2) := by
  by_cases q : od = 0
  · rcases h with r | r
    · obtain ⟨e, u⟩ := h1 q
      subst e r
      rw [q]
      exact (cn_rf u).symm
    · exact absurd q r
  · exact h2 q
/-! signed ints in the sum's loops -/
theorem ng_add (a b : Nat) : -(nI a) - nI b = -(nI (a + b)) := by rw [← nI_add, Int32.neg_add, Int32.sub_eq_add_neg]
theorem ng_ge {a : Nat} (h : a < 2 ^ 31) : 0 ≤ -(nI a) ↔ a = 0 := by
  have e : (-(nI a)).toInt = -(a : Int) := by
    rw [Int32.toInt_neg, nI_toInt h]
    exact Int.bmod_eq_of_le (by omega) (by omega)
  rw [Int32.le_iff_toInt_le, e]
  show (0 : Int) ≤ _ ↔ _
  omega
theorem ng_up {a n : Nat} (h : a ≤ n) : -(nI a) + nI n = nI (n - a) := by rw [Int32.add_comm, ← Int32.sub_eq_add_neg, pk_sub h]
theorem sb_ti {x y o : Nat} (hx : x < 2 ^ 30) (hy : y < 2 ^ 30) (ho : o ≤ 1) : (nI x + -(nI y) + -(nI o)).toInt = (x : Int) - y - o := by
  rw [Int32.add_assoc, ← Int32.neg_add, nI_add, ← Int32.sub_eq_add_neg, Int32.toInt_sub, nI_toInt (by omega), nI_toInt (by omega)]
  have : ((y + o : Nat) : Int) = (y : Int) + o := by omega
  rw [this, Int.bmod_eq_of_le (by omega) (by omega)]
  omega
theorem nI_ofI {x : Int32} {v : Nat} (h : x.toInt = (v : Int)) (hv : v < 2 ^ 31) : x = nI v := by
  apply Int32.toInt_inj.mp
  rw [h, nI_toInt hv]
theorem sb_m {x : Int32} {n : Nat} {i : Int} (h : x.toInt = i) (h1 : -1000000000 ≤ i) (h2 : i < 0) (hv : (n : Int) = i + 1000000000) : x - (-1000000000) = nI n := by
  apply nI_ofI _ (by omega)
  rw [Int32.toInt_sub, h]
  have : ((-1000000000 : Int32)).toInt = -1000000000 := by decide
  rw [this, Int.bmod_eq_of_le (by omega) (by omega)]
  omega
theorem sb_z {x : Int32} {n : Nat} {i : Int} (h : x.toInt = i) (h1 : 0 ≤ i) (h2 : i < 1000000000) (hv : (n : Int) = i) : x - 0 = nI n := by
  rw [Int32.sub_zero]
  exact nI_ofI (by rw [h, hv]) (by omega)
/-- the complement's loop -/
theorem cpl_s {B g f pj o o' e d : Nat} (h : g + f = o * pj) (hs : e + d + o = o' * B) : (g + pj * e) + (f + pj * d) = o' * (pj * B) := by
  have h1 : pj * (e + d + o) = o' * (pj * B) := by rw [hs, Nat.mul_left_comm]
  rw [Nat.mul_add, Nat.mul_add, Nat.mul_comm pj o] at h1
  omega
/-- the sum's loop -/
theorem add_s {B g a b pj c c' e x y : Nat} (h : g + pj * c = a + b) (hs : e + c' * B = x + y + c) : (g + pj * e) + pj * B * c' = (a + pj * x) + (b + pj * y) := by
  have h1 : pj * (e + c' * B) = pj * (x + y + c) := by rw [hs]
  rw [Nat.mul_add, Nat.mul_add, Nat.mul_add, Nat.mul_comm c' B, ← Nat.mul_assoc] at h1
  omega
/-- the difference's loop -/
theorem sub_s {B g a b pj o o' e x y : Nat} (h : g + b = a + pj * o) (hs : e + y + o = x + o' * B) : (g + pj * e) + (b + pj * y) = (a + pj * x) + pj * B * o' := by
  have h1 : pj * (e + y + o) = pj * (x + o' * B) := by rw [hs]
  rw [Nat.mul_add, Nat.mul_add, Nat.mul_add, Nat.mul_comm o' B, ← Nat.mul_assoc] at h1
  omega
theorem K_le {f : Nat → Int32} {K R : Nat} (ht : top0 f K) (h : vW f K < 1000000000 ^ R) : K ≤ R := by
  rcases Nat.lt_or_ge R K with q | q
  · have h2 : 1000000000 ^ (K - 1) ≤ vW f K := hv_top (by omega) (ht (by omega))
    have h3 : 1000000000 ^ R ≤ 1000000000 ^ (K - 1) := Nat.pow_le_pow_right (by decide) (by omega)
    omega
  · exact q
theorem mmin_nI {a b : Nat} (ha : a < 2 ^ 31) (hb : b < 2 ^ 31) : (if nI b < nI a then nI b else nI a) = nI (min a b) := by
  by_cases h : b < a
  · rw [if_pos ((nI_ltI hb ha).mpr h), Nat.min_eq_right (by omega)]
  · rw [if_neg (fun q => h ((nI_ltI hb ha).mp q)), Nat.min_eq_left (by omega)]
theorem fl01 {b : Int32} (h : b = 0 ∨ b = 1) (hn : ¬ b = 0) : b = 1 := h.resolve_left hn
/-- signs of sums -/
theorem wz_add {b : Int32} {v w : Nat} : wz b v + wz b w = wz b (v + w) := by
  unfold wz
  split <;> omega
theorem wz_sub {b : Int32} {v w : Nat} (h : w ≤ v) : wz b v - wz b w = wz b (v - w) := by
  unfold wz
  split <;> omega
/-- the other sign -/
def fl (b : Int32) : Int32 := if b = 0 then 1 else 0
theorem fl_01 (b : Int32) : fl b = 0 ∨ fl b = 1 := by
  unfold fl
  split
  · exact Or.inr rfl
  · exact Or.inl rfl
theorem wz_fl {b : Int32} {v : Nat} : wz (fl b) v = -(wz b v) := by
  unfold wz fl
  by_cases h : b = 0
  · rw [if_pos h, if_neg (by decide), if_pos h]
  · rw [if_neg h, if_pos rfl, if_neg h, Int.neg_neg]
theorem fl_ne {b b2 : Int32} (h : b = 0 ∨ b = 1) (h2 : b2 = 0 ∨ b2 = 1) (hn : ¬ b = b2) : b2 = fl b := by
  rcases h with rfl | rfl
  · rcases h2 with rfl | rfl
    · exact absurd rfl hn
    · rfl
  · rcases h2 with rfl | rfl
    · rfl
    · exact absurd rfl hn
section LOOP2
variable {p : Program} {l : Launch} {e : Env} {R : Room} {s : State} {m : MethodId} {args : Array Value} {below : List Frame} {meth : Method} {c : Code} {H0 H : Heap} {locs : List Loc} {cells slots : Nat} {Q : State → Prop} {D : va_G} {cl : List vw_C} {A : Nat → Prop} {cc : ByteArray} {pc : Nat} {ls : Array Slot} {rest : List Value} {tys : List (ClassId × FieldType)} {ws : va_W} {a : Addr}
/-- arraycopy of the first K ints -/
theorem lq_copy (hexec : p.tables.exec = Jvm.exec) (hb : c.code = cc) (hml : c.maxLocals = ls.size) {own : String} {index : Nat} (hown : s.vm.findClass own = some m.cls) (hlink : (Cond.methodLink own index arraycopyName).before args s = true) (hnat : (Cond.native arraycopyName).before args s = true) (hstat : (Cond.static arraycopyName).before args s = true) (hini : (Cond.initialized "java/lang/System").before args s = true)
    (hK : va_K D cl tys s) (hP : va_P D cl ws H) (hD : va_D A ws) (hS : va_S A H0 H locs) (q0 q1 t0 : Nat) {a0 : Nat} {c0 : ClassId} {n0 n1 : Nat} {f g : Nat → Int32} (ha0 : ws[q0]? = some (a0, .inl (c0, n0, .inl f))) (ha1 : ws[q1]? = some (a, .inl (c0, n1, .inl g))) (ht0 : tys[t0]? = some (c0, .int))
    {K : Nat} (h4 : K ≤ n0) (h5 : K ≤ n1) (hn : n0 < 2 ^ 31)
    (hframes : 1 ≤ R.frames) (hlocals : (rest.map fun v => v.category).sum + (nativeFrameWords "java/lang/System" "arraycopy" 5 + 11) ≤ R.locals) (hdg : decode cc pc = .ok (.invokestatic index, 3))
    (kk : ∀ (H1 : Heap) (locs1 : List Loc), va_P D cl (ws.set q1 (a, .inl (c0, n1, .inl (va_cpy f g 0 0 K)))) H1 → va_D A (ws.set q1 (a, .inl (c0, n1, .inl (va_cpy f g 0 0 K)))) → va_S A H0 H1 locs1 → W p l e R s m args below meth c H1 locs1 cells slots Q (F0 m (pc + 3) ls rest)) : W p l e R s m args below meth c H locs cells slots Q (F0 m pc ls (.int (nI K) :: .int 0 :: .ref a :: .int 0 :: .ref a0 :: rest)) := by
  have e0 : (0 : Int32).toNatClampNeg = 0 := rfl
  have eK : (nI K).toNatClampNeg = K := nI_clamp (by omega)
  refine va_copyi (ty := .int) hexec hb hml hown hlink hnat hstat hini hK hP hD hS q0 q1 t0 t0 ha0 ha1 ht0 ht0 rfl (by decide) (by decide) (nI_pos (by omega)) (by rw [e0, eK]; omega) (by rw [e0, eK]; omega) (fun i _ => rfl) hframes hlocals hdg ?_
  rw [e0, eK]
  exact kk
end LOOP2
theorem cpy_lt {f g : Nat → Int32} {K j : Nat} (h : j < K) : va_cpy f g 0 0 K j = f j := by
  rw [pk_cpy_in (Nat.zero_le _) (by omega), Nat.zero_add, Nat.sub_zero]
theorem wn_cpy {R : Nat} {b : Int32} {f g : Nat → Int32} {z : Int} {K : Nat} (hk : K ≤ R) (hd : dok 1000000000 f K) (ht : top0 f K) (hb : b = 0 ∨ b = 1) (hz : z = wz b (vW f K)) : WN R (nI K) b (va_cpy f g 0 0 K) z := by
  have hj : ∀ j, j < K → dg (va_cpy f g 0 0 K) j = dg f j := fun j h => by unfold dg; rw [cpy_lt h]
  refine ⟨K, rfl, hk, fun j h => ?_, fun h => ?_, hb, ?_⟩
  · rw [hj j h, cpy_lt h]
    exact hd j h
  · rw [hj _ (by omega)]
    exact ht h
  · rw [hz]
    show _ = wz b (hv _ _ _ _)
    rw [hv_congr (d' := dg f) (fun j h1 h2 => hj j (by omega))]
