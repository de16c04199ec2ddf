/-! Loops, joins, and array places that are numbers. -/
section LOOP
variable {p : Program} {l : Launch} {e : Env} {R : Room} {s : State} {m : MethodId} {args : Array Value} {below : List Frame} {meth : Method} {c : Code} {H0 : Heap} {cells slots : Nat} {Q : State → Prop} {D : va_G} {cl : List vw_C} {A : Nat → Prop} {nL : Nat}
/-- a loop whose cells change: the state is a, its measure falls -/
theorem lp_w {α : Type} (I : α → Prop) (mu : α → Nat) (L : α → List (Nat × Value)) (ws : α → va_W) (pc : Nat)
    (step : ∀ a, I a → (∀ b, I b → mu b < mu a → ∀ (ls : Array Slot) (H : Heap) (locs : List Loc), lv_has ls nL (L b) → va_P D cl (ws b) H → va_D A (ws b) → va_S A H0 H locs → W p l e R s m args below meth c H locs cells slots Q (F0 m pc ls [])) →
      ∀ (ls : Array Slot) (H : Heap) (locs : List Loc), lv_has ls nL (L a) → va_P D cl (ws a) H → va_D A (ws a) → va_S A H0 H locs → W p l e R s m args below meth c H locs cells slots Q (F0 m pc ls []))
    (a : α) (ha : I a) {ls : Array Slot} {H : Heap} {locs : List Loc} (hl : lv_has ls nL (L a)) (hP : va_P D cl (ws a) H) (hD : va_D A (ws a)) (hS : va_S A H0 H locs) :
    W p l e R s m args below meth c H locs cells slots Q (F0 m pc ls []) := by
  suffices h : ∀ n a, mu a < n → I a → ∀ (ls : Array Slot) (H : Heap) (locs : List Loc), lv_has ls nL (L a) → va_P D cl (ws a) H → va_D A (ws a) → va_S A H0 H locs → W p l e R s m args below meth c H locs cells slots Q (F0 m pc ls []) from
    h (mu a + 1) a (Nat.lt_succ_self _) ha ls H locs hl hP hD hS
  intro n
  induction n with
  | zero => intro a h; exact absurd h (Nat.not_lt_zero _)
  | succ n ih =>
    intro a h ha
    exact step a ha (fun b hb hm => ih b (by omega) hb)
/-- a loop that changes locals alone -/
theorem lp_r {α : Type} {H : Heap} {locs : List Loc} (I : α → Prop) (mu : α → Nat) (L : α → List (Nat × Value)) (pc : Nat)
    (step : ∀ a, I a → (∀ b, I b → mu b < mu a → ∀ (ls : Array Slot), lv_has ls nL (L b) → W p l e R s m args below meth c H locs cells slots Q (F0 m pc ls [])) →
      ∀ (ls : Array Slot), lv_has ls nL (L a) → W p l e R s m args below meth c H locs cells slots Q (F0 m pc ls []))
    (a : α) (ha : I a) {ls : Array Slot} (hl : lv_has ls nL (L a)) : W p l e R s m args below meth c H locs cells slots Q (F0 m pc ls []) := by
  suffices h : ∀ n a, mu a < n → I a → ∀ (ls : Array Slot), lv_has ls nL (L a) → W p l e R s m args below meth c H locs cells slots Q (F0 m pc ls []) from
    h (mu a + 1) a (Nat.lt_succ_self _) ha ls hl
  intro n
  induction n with
  | zero => intro a h; exact absurd h (Nat.not_lt_zero _)
  | succ n ih =>
    intro a h ha
    exact step a ha (fun b hb hm => ih b (by omega) hb)
/-- roads that meet at pc, with a value on the stack -/
theorem lp_cut {α : Type} {H : Heap} {locs : List Loc} (K : α → Prop) (st : α → List Value) (pc : Nat) (ls : Array Slot) {g : JFrame} (k : ∀ a, K a → W p l e R s m args below meth c H locs cells slots Q (F0 m pc ls (st a)))
    (h : (∀ a, K a → W p l e R s m args below meth c H locs cells slots Q (F0 m pc ls (st a))) → W p l e R s m args below meth c H locs cells slots Q g) : W p l e R s m args below meth c H locs cells slots Q g := h k
variable {H : Heap} {locs : List Loc} {cc : ByteArray} {pc : Nat} {ls : Array Slot} {rest : List Value} {tys : List (ClassId × FieldType)} {ws : va_W} {a : Addr}
theorem lq_iald (hexec : p.tables.exec = Jvm.exec) (hb : c.code = cc) (hK : va_K D cl tys s) (hP : va_P D cl ws H) (q0 t0 : Nat) {cA : ClassId} {n : Nat} {f : Nat → Int32} (ha : ws[q0]? = some (a, .inl (cA, n, .inl f))) (ht : tys[t0]? = some (cA, .int)) {i : Int32} {j : Nat} (hi : i = nI j) (hj : j < n) (hn : n < 2 ^ 31) (hdg : decode cc pc = .ok (.iaload, 1))
    (kk : W p l e R s m args below meth c H locs cells slots Q (F0 m (pc + 1) ls (.int (f j) :: rest))) : W p l e R s m args below meth c H locs cells slots Q (F0 m pc ls (.int i :: .ref a :: rest)) := by
  subst hi
  exact va_iald hexec hb hK hP q0 t0 ha ht (vp_in_nI hj hn) hdg (by rw [nI_clamp (by omega)]; exact kk)
theorem lq_bald (hexec : p.tables.exec = Jvm.exec) (hb : c.code = cc) (hK : va_K D cl tys s) (hP : va_P D cl ws H) (q0 t0 : Nat) {cA : ClassId} {n : Nat} {f : Nat → Int32} (ha : ws[q0]? = some (a, .inl (cA, n, .inl f))) (ht : tys[t0]? = some (cA, .byte)) {i : Int32} {j : Nat} (hi : i = nI j) (hj : j < n) (hn : n < 2 ^ 31) (hdg : decode cc pc = .ok (.baload, 1))
    (kk : W p l e R s m args below meth c H locs cells slots Q (F0 m (pc + 1) ls (.int (f j) :: rest))) : W p l e R s m args below meth c H locs cells slots Q (F0 m pc ls (.int i :: .ref a :: rest)) := by
  subst hi
  exact va_bald hexec hb hK hP q0 t0 ha ht (vp_in_nI hj hn) hdg (by rw [nI_clamp (by omega)]; exact kk)
theorem lq_zald (hexec : p.tables.exec = Jvm.exec) (hb : c.code = cc) (hK : va_K D cl tys s) (hP : va_P D cl ws H) (q0 t0 : Nat) {cA : ClassId} {n : Nat} {f : Nat → Int32} (ha : ws[q0]? = some (a, .inl (cA, n, .inl f))) (ht : tys[t0]? = some (cA, .boolean)) {i : Int32} {j : Nat} (hi : i = nI j) (hj : j < n) (hn : n < 2 ^ 31) (hdg : decode cc pc = .ok (.baload, 1))
    (kk : W p l e R s m args below meth c H locs cells slots Q (F0 m (pc + 1) ls (.int (f j) :: rest))) : W p l e R s m args below meth c H locs cells slots Q (F0 m pc ls (.int i :: .ref a :: rest)) := by
  subst hi
  exact va_zald hexec hb hK hP q0 t0 ha ht (vp_in_nI hj hn) hdg (by rw [nI_clamp (by omega)]; exact kk)
theorem lq_lald (hexec : p.tables.exec = Jvm.exec) (hb : c.code = cc) (hK : va_K D cl tys s) (hP : va_P D cl ws H) (q0 t0 : Nat) {cA : ClassId} {n : Nat} {f : Nat → Int64} (ha : ws[q0]? = some (a, .inl (cA, n, .inr (.inl f)))) (ht : tys[t0]? = some (cA, .long)) {i : Int32} {j : Nat} (hi : i = nI j) (hj : j < n) (hn : n < 2 ^ 31) (hdg : decode cc pc = .ok (.laload, 1))
    (kk : W p l e R s m args below meth c H locs cells slots Q (F0 m (pc + 1) ls (.long (f j) :: rest))) : W p l e R s m args below meth c H locs cells slots Q (F0 m pc ls (.int i :: .ref a :: rest)) := by
  subst hi
  exact va_lald hexec hb hK hP q0 t0 ha ht (vp_in_nI hj hn) hdg (by rw [nI_clamp (by omega)]; exact kk)
theorem lq_iast (hexec : p.tables.exec = Jvm.exec) (hb : c.code = cc) (hK : va_K D cl tys s) (hP : va_P D cl ws H) (hD : va_D A ws) (hS : va_S A H0 H locs) (q0 t0 : Nat) {cA : ClassId} {n : Nat} {f : Nat → Int32} (ha : ws[q0]? = some (a, .inl (cA, n, .inl f))) (ht : tys[t0]? = some (cA, .int)) {i x : Int32} {j : Nat} (hi : i = nI j) (hj : j < n) (hn : n < 2 ^ 31) (hdg : decode cc pc = .ok (.iastore, 1))
    (kk : ∀ (H1 : Heap) (locs1 : List Loc), va_P D cl (ws.set q0 (a, .inl (cA, n, .inl (upd f j x)))) H1 → va_D A (ws.set q0 (a, .inl (cA, n, .inl (upd f j x)))) → va_S A H0 H1 locs1 → W p l e R s m args below meth c H1 locs1 cells slots Q (F0 m (pc + 1) ls rest)) : W p l e R s m args below meth c H locs cells slots Q (F0 m pc ls (.int x :: .int i :: .ref a :: rest)) := by
  subst hi
  refine va_iast hexec hb hK hP hD hS q0 t0 ha ht (vp_in_nI hj hn) hdg ?_
  rw [nI_clamp (by omega)]
  exact kk
theorem lq_bast (hexec : p.tables.exec = Jvm.exec) (hb : c.code = cc) (hK : va_K D cl tys s) (hP : va_P D cl ws H) (hD : va_D A ws) (hS : va_S A H0 H locs) (q0 t0 : Nat) {cA : ClassId} {n : Nat} {f : Nat → Int32} (ha : ws[q0]? = some (a, .inl (cA, n, .inl f))) (ht : tys[t0]? = some (cA, .byte)) {i x : Int32} {j : Nat} (hi : i = nI j) (hj : j < n) (hn : n < 2 ^ 31) (hdg : decode cc pc = .ok (.bastore, 1))
    (kk : ∀ (H1 : Heap) (locs1 : List Loc), va_P D cl (ws.set q0 (a, .inl (cA, n, .inl (upd f j (vp_nar .byte x))))) H1 → va_D A (ws.set q0 (a, .inl (cA, n, .inl (upd f j (vp_nar .byte x))))) → va_S A H0 H1 locs1 → W p l e R s m args below meth c H1 locs1 cells slots Q (F0 m (pc + 1) ls rest)) : W p l e R s m args below meth c H locs cells slots Q (F0 m pc ls (.int x :: .int i :: .ref a :: rest)) := by
  subst hi
  refine va_bast hexec hb hK hP hD hS q0 t0 ha ht (vp_in_nI hj hn) hdg ?_
  rw [nI_clamp (by omega)]
  exact kk
theorem lq_zast (hexec : p.tables.exec = Jvm.exec) (hb : c.code = cc) (hK : va_K D cl tys s) (hP : va_P D cl ws H) (hD : va_D A ws) (hS : va_S A H0 H locs) (q0 t0 : Nat) {cA : ClassId} {n : Nat} {f : Nat → Int32} (ha : ws[q0]? = some (a, .inl (cA, n, .inl f))) (ht : tys[t0]? = some (cA, .boolean)) {i x : Int32} {j : Nat} (hi : i = nI j) (hj : j < n) (hn : n < 2 ^ 31) (hdg : decode cc pc = .ok (.bastore, 1))
    (kk : ∀ (H1 : Heap) (locs1 : List Loc), va_P D cl (ws.set q0 (a, .inl (cA, n, .inl (upd f j (vp_nar .boolean x))))) H1 → va_D A (ws.set q0 (a, .inl (cA, n, .inl (upd f j (vp_nar .boolean x))))) → va_S A H0 H1 locs1 → W p l e R s m args below meth c H1 locs1 cells slots Q (F0 m (pc + 1) ls rest)) : W p l e R s m args below meth c H locs cells slots Q (F0 m pc ls (.int x :: .int i :: .ref a :: rest)) := by
  subst hi
  refine va_zast hexec hb hK hP hD hS q0 t0 ha ht (vp_in_nI hj hn) hdg ?_
  rw [nI_clamp (by omega)]
  exact kk
theorem lq_last (hexec : p.tables.exec = Jvm.exec) (hb : c.code = cc) (hK : va_K D cl tys s) (hP : va_P D cl ws H) (hD : va_D A ws) (hS : va_S A H0 H locs) (q0 t0 : Nat) {cA : ClassId} {n : Nat} {f : Nat → Int64} (ha : ws[q0]? = some (a, .inl (cA, n, .inr (.inl f)))) (ht : tys[t0]? = some (cA, .long)) {i : Int32} {x : Int64} {j : Nat} (hi : i = nI j) (hj : j < n) (hn : n < 2 ^ 31) (hdg : decode cc pc = .ok (.lastore, 1))
    (kk : ∀ (H1 : Heap) (locs1 : List Loc), va_P D cl (ws.set q0 (a, .inl (cA, n, .inr (.inl (vp_updL f j x))))) H1 → va_D A (ws.set q0 (a, .inl (cA, n, .inr (.inl (vp_updL f j x))))) → va_S A H0 H1 locs1 → W p l e R s m args below meth c H1 locs1 cells slots Q (F0 m (pc + 1) ls rest)) : W p l e R s m args below meth c H locs cells slots Q (F0 m pc ls (.long x :: .int i :: .ref a :: rest)) := by
  subst hi
  refine va_last hexec hb hK hP hD hS q0 t0 ha ht (vp_in_nI hj hn) hdg ?_
  rw [nI_clamp (by omega)]
  exact kk
end LOOP
/-- a number's index that counts down: nI k - 1 -/
theorem nI_sub1 {k : Nat} (h : 0 < k) : nI k - 1 = nI (k - 1) := by
  obtain ⟨n, rfl⟩ : ∃ n, k = n + 1 := ⟨k - 1, by omega⟩
  exact nI_pred n
theorem dn_lt {k : Nat} (hk : k < 2 ^ 31) : nI k - 1 < 0 ↔ k = 0 := by
  constructor
  · intro h
    rcases Nat.eq_zero_or_pos k with q | q
    · exact q
    · rw [nI_sub1 q] at h
      exact absurd h (nI_pos (by omega))
  · intro h
    subst h
    decide
theorem dn_m1 {k : Nat} (h : 0 < k) : nI k - 1 + (-1) = nI (k - 1) - 1 := by rw [nI_sub1 h, Int32.sub_eq_add_neg]
theorem lc_0 {a : Nat} (h : a < 2 ^ 63) : lg_cmp (lN a) 0 = 0 ↔ a = 0 := by
  rw [lg_cmp_eq]
  exact pk_lEQ (b := 0) h (by decide)
/-! Numbers by digits. hv B d i k: the number of the k digits of d from place i on, the lowest first, to the base B. -/
def hv (B : Nat) (d : Nat → Nat) : Nat → Nat → Nat
  | _, 0 => 0
  | i, k + 1 => d i + B * hv B d (i + 1) k
theorem hv_0 (B : Nat) (d : Nat → Nat) (i : Nat) : hv B d i 0 = 0 := rfl
theorem hv_s (B : Nat) (d : Nat → Nat) (i k : Nat) : hv B d i (k + 1) = d i + B * hv B d (i + 1) k := rfl
theorem hv_snoc (B : Nat) (d : Nat → Nat) : ∀ k i, hv B d i (k + 1) = hv B d i k + B ^ k * d (i + k)
  | 0, i => by simp [hv]
  | k + 1, i => by
    rw [hv_s, hv_snoc B d k (i + 1), hv_s B d i k, Nat.mul_add, Nat.pow_succ, show i + 1 + k = i + (k + 1) by omega, ← Nat.mul_assoc, Nat.mul_comm (B ^ k) B]
    omega
theorem hv_congr {B : Nat} {d d' : Nat → Nat} : ∀ {k i : Nat}, (∀ j, i ≤ j → j < i + k → d j = d' j) → hv B d i k = hv B d' i k
  | 0, _, _ => rfl
  | k + 1, i, h => by rw [hv_s, hv_s, h i (Nat.le_refl _) (by omega), hv_congr (k := k) (i := i + 1) (fun j h1 h2 => h j (by omega) (by omega))]
theorem hv_lt {B : Nat} {d : Nat → Nat} : ∀ {k i : Nat}, (∀ j, i ≤ j → j < i + k → d j < B) → hv B d i k < B ^ k
  | 0, _, _ => by simp [hv]
  | k + 1, i, h => by
    have h1 := h i (Nat.le_refl _) (by omega)
    have h2 := hv_lt (k := k) (i := i + 1) (fun j h1 h2 => h j (by omega) (by omega))
    have h3 : B * (hv B d (i + 1) k + 1) ≤ B * B ^ k := Nat.mul_le_mul_left B h2
    rw [hv_s, Nat.pow_succ, Nat.mul_comm (B ^ k) B]
    rw [Nat.mul_add] at h3
    omega
theorem hv_split (B : Nat) (d : Nat → Nat) (b : Nat) : ∀ a i, hv B d i (a + b) = hv B d i a + B ^ a * hv B d (i + a) b
  | 0, i => by simp [hv]
  | a + 1, i => by
    rw [Nat.add_right_comm, hv_s, hv_split B d b a (i + 1), hv_s B d i a, Nat.mul_add, Nat.pow_succ, show i + 1 + a = i + (a + 1) by omega, ← Nat.mul_assoc, Nat.mul_comm (B ^ a) B]
    omega
theorem hv_zero {B : Nat} {d : Nat → Nat} : ∀ {k i : Nat}, (∀ j, i ≤ j → j < i + k → d j = 0) → hv B d i k = 0
  | 0, _, _ => rfl
  | k + 1, i, h => by rw [hv_s, h i (Nat.le_refl _) (by omega), hv_zero (k := k) (i := i + 1) (fun j h1 h2 => h j (by omega) (by omega)), Nat.mul_zero]
/-- digits above k are as if they were 0 -/
def ct (k : Nat) (d : Nat → Nat) : Nat → Nat := fun j => if j < k then d j else 0
theorem ct_lt {k j : Nat} {d : Nat → Nat} (h : j < k) : ct k d j = d j := if_pos h
theorem ct_ge {k j : Nat} {d : Nat → Nat} (h : k ≤ j) : ct k d j = 0 := if_neg (by omega)
theorem hv_ct {B k j : Nat} {d : Nat → Nat} (h : k ≤ j) : hv B (ct k d) 0 j = hv B d 0 k := by
  obtain ⟨b, rfl⟩ : ∃ b, j = k + b := ⟨j - k, by omega⟩
  rw [hv_split, hv_zero (i := 0 + k) (k := b) (fun j h1 h2 => ct_ge (by omega)), Nat.mul_zero, Nat.add_zero]
  exact hv_congr (fun j h1 h2 => ct_lt (by omega))
theorem hv_top {B : Nat} {d : Nat → Nat} {k : Nat} (hk : 0 < k) (h : d (k - 1) ≠ 0) : B ^ (k - 1) ≤ hv B d 0 k := by
  obtain ⟨n, rfl⟩ : ∃ n, k = n + 1 := ⟨k - 1, by omega⟩
  rw [hv_snoc, Nat.zero_add]
  rw [Nat.add_sub_cancel] at h ⊢
  have := Nat.mul_le_mul_left (B ^ n) (show 1 ≤ d n by omega)
  omega
/-- the digits of an int array -/
def dg (f : Nat → Int32) (j : Nat) : Nat := (f j).toNatClampNeg
theorem dg_nI {f : Nat → Int32} {j v : Nat} (h : f j = nI v) (hv : v < 2 ^ 31) : dg f j = v := by
  unfold dg
  rw [h, nI_clamp hv]
theorem dg_us {f : Nat → Int32} {j v : Nat} (hv : v < 2 ^ 31) : dg (upd f j (nI v)) j = v := dg_nI pk_us hv
theorem dg_un {f : Nat → Int32} {j k : Nat} {x : Int32} (h : j ≠ k) : dg (upd f k x) j = dg f j := by
  unfold dg
  rw [pk_un h]
/-- the first k places hold digits to the base B -/
def dok (B : Nat) (f : Nat → Int32) (k : Nat) : Prop := ∀ j, j < k → f j = nI (dg f j) ∧ dg f j < B
theorem dok_s {B : Nat} {f : Nat → Int32} {k v : Nat} (h : dok B f k) (hv : v < B) (hB : B < 2 ^ 31) : dok B (upd f k (nI v)) (k + 1) := by
  intro j hj
  by_cases q : j = k
  · subst q
    rw [pk_us, dg_us (by omega)]
    exact ⟨rfl, hv⟩
  · rw [pk_un q, dg_un q]
    exact h j (by omega)
theorem dok_le {B : Nat} {f : Nat → Int32} {k k' : Nat} (h : dok B f k) (hk : k' ≤ k) : dok B f k' := fun j hj => h j (by omega)
theorem hv_us {B : Nat} {f : Nat → Int32} {k v : Nat} (hv2 : v < 2 ^ 31) : hv B (dg (upd f k (nI v))) 0 (k + 1) = hv B (dg f) 0 k + B ^ k * v := by
  rw [hv_snoc, Nat.zero_add, dg_us hv2]
  congr 1
  exact hv_congr (fun j h1 h2 => dg_un (by omega))
theorem dg_ne {B : Nat} {f : Nat → Int32} {k j : Nat} (h : dok B f k) (hj : j < k) (hn : ¬ f j = 0) : dg f j ≠ 0 := fun q => hn (by rw [(h j hj).1, q]; rfl)
theorem dg_eq0 {f : Nat → Int32} {j : Nat} (hn : f j = 0) : dg f j = 0 := by
  unfold dg
  rw [hn]
  rfl
/-- trimmed: the highest digit isn't 0 -/
def top0 (f : Nat → Int32) (k : Nat) : Prop := 0 < k → dg f (k - 1) ≠ 0
/-- a number of the class: sign and words of nine digits -/
def wz (b : Int32) (v : Nat) : Int := if b = 0 then (v : Int) else -(v : Int)
abbrev vW (f : Nat → Int32) (k : Nat) : Nat := hv 1000000000 (dg f) 0 k
def WN (R : Nat) (n b : Int32) (f : Nat → Int32) (z : Int) : Prop := ∃ k : Nat, n = nI k ∧ k ≤ R ∧ dok 1000000000 f k ∧ top0 f k ∧ (b = 0 ∨ b = 1) ∧ z = wz b (vW f k)
theorem wz_abs {b : Int32} {v : Nat} : (wz b v).natAbs = v := by
  unfold wz
  split <;> omega
theorem wz_mul {b : Int32} {v F : Nat} : wz b (v * F) = wz b v * (F : Int) := by
  unfold wz
  split
  · rw [Int.natCast_mul]
  · rw [Int.natCast_mul, Int.neg_mul]
theorem bz01 {b : Int32} (h : b = 0 ∨ b = 1) : narrow .boolean (.int b) = .int b ∧ fits .boolean (.int b) = true := by
  rcases h with rfl | rfl
  · exact ⟨rfl, rfl⟩
  · exact ⟨rfl, rfl⟩
theorem mulb {a b A B : Nat} (ha : a < A) (hb : b < B) : a * b ≤ (A - 1) * (B - 1) := Nat.mul_le_mul (by omega) (by omega)
theorem hv_dec {B : Nat} {d : Nat → Nat} {k : Nat} (hk : 0 < k) (h : d (k - 1) = 0) : hv B d 0 (k - 1) = hv B d 0 k := by
  obtain ⟨n, rfl⟩ : ∃ n, k = n + 1 := ⟨k - 1, by omega⟩
  rw [Nat.add_sub_cancel] at h ⊢
  rw [hv_snoc, Nat.zero_add, h, Nat.mul_zero, Nat.add_zero]
theorem wn_trim {R k k0 : Nat} {b : Int32} {f : Nat → Int32} (hk0 : k0 ≤ R) (hd : dok 1000000000 f k0) (hb : b = 0 ∨ b = 1) (hp : k ≤ k0 ∧ top0 f k ∧ vW f k = vW f k0) : WN R (nI k) b f (wz b (vW f k0)) :=
  ⟨k, rfl, by omega, dok_le hd hp.1, hp.2.1, hb, by rw [hp.2.2]⟩
theorem x_neg {x : Int32} (h : x < 0) (hb : -1000000000 < x.toInt) : ∃ j : Nat, j < 1000000000 ∧ -x = nI j ∧ x.toInt = -(j : Int) := by
  have h0 : x.toInt < 0 := Int32.lt_iff_toInt_lt.mp h
  refine ⟨(-x.toInt).toNat, by omega, ?_, by omega⟩
  apply Int32.toInt_inj.mp
  rw [nI_toInt (by omega), Int32.toInt_neg]
  have : ((-x.toInt).toNat : Int) = -x.toInt := by omega
  rw [this]
  exact Int.bmod_eq_of_le (by omega) (by omega)
theorem x_pos {x : Int32} (h : ¬ x < 0) (hb : x.toInt < 1000000000) : ∃ j : Nat, j < 1000000000 ∧ x = nI j ∧ x.toInt = (j : Int) := by
  obtain ⟨j, hj, rfl⟩ := nI_of h
  rw [nI_toInt hj] at hb
  exact ⟨j, by omega, rfl, nI_toInt hj⟩
theorem dok_1 {B v : Nat} {f : Nat → Int32} (hv : v < B) (hB : B < 2 ^ 31) : dok B (upd f 0 (nI v)) 1 := dok_s (k := 0) (fun j hj => absurd hj (by omega)) hv hB
theorem vW_1 {v : Nat} {f : Nat → Int32} (h : v < 2 ^ 31) : vW (upd f 0 (nI v)) 1 = v := by
  show hv _ _ _ (0 + 1) = _
  rw [hv_us h, hv_0]
  simp
/-- the sign of a number, as an int -/
def sg (z : Int) : Int32 := if z = 0 then 0 else if z < 0 then -1 else 1
theorem vW_pos {f : Nat → Int32} {k : Nat} (h : top0 f k) (hk : 0 < k) : 0 < vW f k := Nat.lt_of_lt_of_le (Nat.pow_pos (by decide)) (hv_top hk (h hk))
/-- the rest's step: one digit lower -/
theorem hv_dn {B : Nat} {d : Nat → Nat} {k K : Nat} (h0 : 0 < k) (hk : k ≤ K) : hv B d (k - 1) (K - (k - 1)) = d (k - 1) + B * hv B d k (K - k) := by
  obtain ⟨n, rfl⟩ : ∃ n, k = n + 1 := ⟨k - 1, by omega⟩
  rw [Nat.add_sub_cancel, show K - n = (K - (n + 1)) + 1 by omega, hv_s]
theorem rest_s {B d r w X : Nat} (h : r = X % d) : (r * B + w) % d = (w + B * X) % d := by
  subst h
  rw [Nat.add_comm w, Nat.mul_comm B X, Nat.add_mod, Nat.mul_mod, Nat.mod_mod, ← Nat.mul_mod, ← Nat.add_mod]
theorem div_s {B d r w q r' X Q : Nat} (h : X = d * Q + r) (hq : q = (r * B + w) / d) (hr : r' = (r * B + w) % d) : w + B * X = d * (q + B * Q) + r' := by
  have h1 := Nat.div_add_mod (r * B + w) d
  rw [← hq, ← hr] at h1
  rw [h, Nat.mul_add, Nat.mul_add, Nat.mul_left_comm d B Q, Nat.mul_comm B r]
  omega
theorem div_lt {B d r w : Nat} (hr : r < d) (hw : w < B) : (r * B + w) / d < B := by
  have h : r * B + w < d * B := by
    have := Nat.mul_le_mul_right B (show r + 1 ≤ d by omega)
    rw [Nat.add_mul] at this
    omega
  exact Nat.div_lt_of_lt_mul h
theorem wz_tdiv {b : Int32} {v d : Nat} : wz b (v / d) = (wz b v).tdiv (d : Int) := by
  unfold wz
  split
  · rw [← Int.ofNat_tdiv]
  · rw [Int.neg_tdiv, ← Int.ofNat_tdiv]
theorem vW_uq {V d V' r : Nat} (h : V = d * V' + r) (hr : r < d) : V' = V / d := by
  rw [h, Nat.mul_add_div (by omega), Nat.div_eq_of_lt hr, Nat.add_zero]
/-- what the division's loop keeps above k -/
def dab (B : Nat) (g : Nat → Int32) (k K : Nat) : Prop := ∀ m, k ≤ m → m < K → g m = nI (dg g m) ∧ dg g m < B
theorem dab_s {B k K v : Nat} {g : Nat → Int32} (h0 : 0 < k) (h : dab B g k K) (hv : v < B) (hB : B < 2 ^ 31) : dab B (upd g (k - 1) (nI v)) (k - 1) K := by
  intro m h1 h2
  by_cases q : m = k - 1
  · subst q
    rw [pk_us, dg_us (by omega)]
    exact ⟨rfl, hv⟩
  · rw [pk_un q, dg_un q]
    exact h m (by omega) h2
theorem dab_dok {B K : Nat} {g : Nat → Int32} (h : dab B g 0 K) : dok B g K := fun j hj => h j (Nat.zero_le _) hj
theorem hv_ud {B k K v : Nat} {g : Nat → Int32} (h0 : 0 < k) (hk : k ≤ K) (hv2 : v < 2 ^ 31) : hv B (dg (upd g (k - 1) (nI v))) (k - 1) (K - (k - 1)) = v + B * hv B (dg g) k (K - k) := by
  rw [hv_dn h0 hk, dg_us hv2]
  congr 2
  exact hv_congr (fun j h1 h2 => dg_un (by omega))
/-- the product's loop -/
theorem times_s {B F V S w lo hi bf ca pj e : Nat} (h : e + pj * (bf * hi + ca) = F * V) (hS : S = w * lo + bf * hi + ca) (hF : F = hi * B + lo) :
    (e + pj * (S % B)) + pj * B * (w * hi + S / B) = F * (V + pj * w) := by
  have h1 := Nat.div_add_mod S B
  have h2 : pj * (S % B) + pj * B * (S / B) = pj * S := by
    rw [Nat.mul_assoc, ← Nat.mul_add, Nat.add_comm, h1]
  have h3 : pj * S = pj * (w * lo) + pj * (bf * hi + ca) := by rw [hS, Nat.add_assoc, Nat.mul_add]
  have h4 : F * (pj * w) = pj * (w * lo) + pj * B * (w * hi) := by
    rw [hF, Nat.add_mul, Nat.add_comm]
    congr 1
    · ac_rfl
    · ac_rfl
  rw [Nat.mul_add, Nat.mul_add F, h4, ← h]
  omega
theorem wz_1 {v : Nat} : wz 1 v = -(v : Int) := if_neg (by decide)
theorem wz_0 {v : Nat} : wz 0 v = (v : Int) := if_pos rfl
theorem sg_0 {b : Int32} : sg (wz b 0) = 0 := by
  unfold sg wz
  split <;> rfl
theorem sg_p {v : Nat} (h : 0 < v) : sg (wz 0 v) = 1 := by
  rw [wz_0]
  unfold sg
  rw [if_neg (by omega), if_neg (by omega)]
theorem sg_n {b : Int32} {v : Nat} (hb : ¬ b = 0) (h : 0 < v) : sg (wz b v) = -1 := by
  unfold sg wz
  rw [if_neg hb, if_neg (by omega), if_pos (by omega)]
/-! Comparing, adding, multiplying numbers by digits. -/
def ic (x y : Int32) : Int32 := if x < y then -1 else if x = y then 0 else 1
def cz (x y : Int) : Int32 := if x < y then -1 else if x = y then 0 else 1
def cn (x y : Nat) : Int32 := if x < y then -1 else if x = y then 0 else 1
theorem ic_eq {x y : Int32} (h : ic x y = 0) : x = y := by
  unfold ic at h
  split at h
  · exact absurd h (by decide)
  · split at h
    · assumption
    · exact absurd h (by decide)
theorem ic_rf (x : Int32) : ic x x = 0 := by
  unfold ic
  rw [if_neg Int32.lt_irrefl, if_pos rfl]
theorem cn_lt {a b : Nat} (h : a < b) : cn a b = -1 := if_pos h
theorem cn_gt {a b : Nat} (h : b < a) : cn a b = 1 := by
  unfold cn
  rw [if_neg (by omega), if_neg (by omega)]
theorem cn_rf {a b : Nat} (h : a = b) : cn a b = 0 := by
  unfold cn
  rw [if_neg (by omega), if_pos h]
theorem cn_eq {a b : Nat} (h : cn a b = 0) : a = b := by
  rcases Nat.lt_trichotomy a b with q | q | q
  · rw [cn_lt q] at h; exact absurd h (by decide)
  · exact q
  · rw [cn_gt q] at h; exact absurd h (by decide)
theorem ic_nI {a b : Nat} (ha : a < 2 ^ 31) (hb : b < 2 ^ 31) : ic (nI a) (nI b) = cn a b := by
  unfold ic
  rcases Nat.lt_trichotomy a b with h | h | h
  · rw [if_pos ((nI_ltI ha hb).mpr h), cn_lt h]
  · subst h
    rw [if_neg Int32.lt_irrefl, if_pos rfl, cn_rf rfl]
  · rw [if_neg (fun q => absurd ((nI_ltI ha hb).mp q) (by omega)), if_neg (fun q => absurd ((nI_eq ha hb).mp q) (by omega)), cn_gt h]
theorem cz_lt {x y : Int} (h : x < y) : cz x y = -1 := if_pos h
theorem cz_gt {x y : Int} (h : y < x) : cz x y = 1 := by
  unfold cz
  rw [if_neg (by omega), if_neg (by omega)]
theorem cz_rf {x y : Int} (h : x = y) : cz x y = 0 := by
  unfold cz
  rw [if_neg (by omega), if_pos h]
theorem sgN {x : Int} (h : x < 0) : sg x = -1 := by
  unfold sg
  rw [if_neg (by omega), if_pos h]
theorem sgZ {x : Int} (h : x = 0) : sg x = 0 := if_pos h
theorem sgP {x : Int} (h : 0 < x) : sg x = 1 := by
  unfold sg
  rw [if_neg (by omega), if_neg (by omega)]
theorem cz_sg {x y : Int} (h : ¬ ic (sg x) (sg y) = 0) : ic (sg x) (sg y) = cz x y := by
  rcases (show x < 0 ∨ x = 0 ∨ 0 < x by omega) with hx | hx | hx
  · rcases (show y < 0 ∨ y = 0 ∨ 0 < y by omega) with hy | hy | hy
    · rw [sgN hx, sgN hy] at h; exact absurd (ic_rf _) h
    · rw [sgN hx, sgZ hy, cz_lt (by omega)]; decide
    · rw [sgN hx, sgP hy, cz_lt (by omega)]; decide
  · rcases (show y < 0 ∨ y = 0 ∨ 0 < y by omega) with hy | hy | hy
    · rw [sgZ hx, sgN hy, cz_gt (by omega)]; decide
    · rw [sgZ hx, sgZ hy] at h; exact absurd (ic_rf _) h
    · rw [sgZ hx, sgP hy, cz_lt (by omega)]; decide
  · rcases (show y < 0 ∨ y = 0 ∨ 0 < y by omega) with hy | hy | hy
    · rw [sgP hx, sgN hy, cz_gt (by omega)]; decide
    · rw [sgP hx, sgZ hy, cz_gt (by omega)]; decide
    · rw [sgP hx, sgP hy] at h; exact absurd (ic_rf _) h
theorem sg_inj0 {x y : Int} (h : sg x = sg y) (hx : 0 ≤ x) (hy : y ≤ 0) : x = 0 ∧ y = 0 := by
  rcases (show x = 0 ∨ 0 < x by omega) with q | q
  · rcases (show y = 0 ∨ y < 0 by omega) with r | r
    · exact ⟨q, r⟩
    · rw [sgZ q, sgN r] at h; exact absurd h (by decide)
  · rcases (show y = 0 ∨ y < 0 by omega) with r | r
    · rw [sgP q, sgZ r] at h; exact absurd h (by decide)
    · rw [sgP q, sgN r] at h; exact absurd h (by decide)
theorem cz_fin {b b2 : Int32} {V V2 : Nat} (hs : sg (wz b V) = sg (wz b2 V2)) : cz (wz b V) (wz b2 V2) = if b = 0 then cn V V2 else -(cn V V2) := by
  have c1 : cz (V : Int) (V2 : Int) = cn V V2 := by
    rcases Nat.lt_trichotomy V V2 with h | h | h
    · rw [cn_lt h, cz_lt (by omega)]
    · rw [cn_rf h, cz_rf (by omega)]
    · rw [cn_gt h, cz_gt (by omega)]
  have c2 : cz (-(V : Int)) (-(V2 : Int)) = -(cn V V2) := by
    rcases Nat.lt_trichotomy V V2 with h | h | h
    · rw [cn_lt h, cz_gt (by omega)]; decide
    · rw [cn_rf h, cz_rf (by omega)]; decide
    · rw [cn_gt h, cz_lt (by omega)]
  by_cases q : b = 0
  · rw [if_pos q]
    by_cases q2 : b2 = 0
    · unfold wz
      rw [if_pos q, if_pos q2, c1]
    · have e1 : wz b V = (V : Int) := if_pos q
      have e2 : wz b2 V2 = -(V2 : Int) := if_neg q2
      rw [e1, e2] at hs ⊢
      obtain ⟨r1, r2⟩ := sg_inj0 hs (by omega) (by omega)
      rw [cz_rf (by omega), cn_rf (by omega)]
  · rw [if_neg q]
    by_cases q2 : b2 = 0
    · have e1 : wz b V = -(V : Int) := if_neg q
      have e2 : wz b2 V2 = (V2 : Int) := if_pos q2
      rw [e1, e2] at hs ⊢
      obtain ⟨r1, r2⟩ := sg_inj0 hs.symm (by omega) (by omega)
      rw [cz_rf (by omega), cn_rf (by omega)]
      decide
    · unfold wz
      rw [if_neg q, if_neg q2, c2]
theorem vW_b {f : Nat → Int32} {K : Nat} (hd : dok 1000000000 f K) : vW f K < 1000000000 ^ K := hv_lt (fun j _ hj => (hd j (by omega)).2)
theorem vW_lt {f f2 : Nat → Int32} {K K2 : Nat} (hd : dok 1000000000 f K) (ht : top0 f2 K2) (h : K < K2) : vW f K < vW f2 K2 := by
  have h1 := vW_b hd
  have h2 : 1000000000 ^ (K2 - 1) ≤ vW f2 K2 := hv_top (by omega) (ht (by omega))
  have h3 : 1000000000 ^ K ≤ 1000000000 ^ (K2 - 1) := Nat.pow_le_pow_right (by decide) (by omega)
  omega
theorem cmp_len {f f2 : Nat → Int32} {K K2 : Nat} (hK : K < 2 ^ 31) (hK2 : K2 < 2 ^ 31) (hd : dok 1000000000 f K) (hd2 : dok 1000000000 f2 K2) (ht : top0 f K) (ht2 : top0 f2 K2) (q : ¬ ic (nI K) (nI K2) = 0) : ic (nI K) (nI K2) = cn (vW f K) (vW f2 K2) := by
  rw [ic_nI hK hK2] at q ⊢
  rcases Nat.lt_trichotomy K K2 with h | h | h
  · rw [cn_lt h, cn_lt (vW_lt hd ht2 h)]
  · exact absurd (cn_rf h) q
  · rw [cn_gt h, cn_gt (vW_lt hd2 ht h)]
theorem hv_cmp {B : Nat} {d d2 : Nat → Nat} {k K : Nat} (h0 : 0 < k) (hk : k ≤ K) (hb : ∀ j, j < K → d j < B) (hU : hv B d k (K - k) = hv B d2 k (K - k)) (hl : d (k - 1) < d2 (k - 1)) : hv B d 0 K < hv B d2 0 K := by
  have e : K = (k - 1) + (K - (k - 1)) := by omega
  have s1 := hv_split B d (K - (k - 1)) (k - 1) 0
  have s2 := hv_split B d2 (K - (k - 1)) (k - 1) 0
  rw [← e, Nat.zero_add, hv_dn h0 hk] at s1 s2
  rw [s1, s2, ← hU]
  have l1 : hv B d 0 (k - 1) < B ^ (k - 1) := hv_lt (fun j _ hj => hb j (by omega))
  have m1 : B ^ (k - 1) * (d (k - 1) + 1 + B * hv B d k (K - k)) ≤ B ^ (k - 1) * (d2 (k - 1) + B * hv B d k (K - k)) := Nat.mul_le_mul_left _ (by omega)
  rw [Nat.add_right_comm, Nat.mul_add _ _ 1, Nat.mul_one] at m1
  omega
theorem cmp_dig0 {f f2 : Nat → Int32} {K k : Nat} (h0 : 0 < k) (hk : k ≤ K) (hU : hv 1000000000 (dg f) k (K - k) = hv 1000000000 (dg f2) k (K - k)) (q : ic (f (k - 1)) (f2 (k - 1)) = 0) : hv 1000000000 (dg f) (k - 1) (K - (k - 1)) = hv 1000000000 (dg f2) (k - 1) (K - (k - 1)) := by
  rw [hv_dn h0 hk, hv_dn h0 hk, hU, show dg f (k - 1) = dg f2 (k - 1) by unfold dg; rw [ic_eq q]]
theorem cmp_dig {f f2 : Nat → Int32} {K K2 k : Nat} (e : K = K2) (h0 : 0 < k) (hk : k ≤ K) (hd : dok 1000000000 f K) (hd2 : dok 1000000000 f2 K2) (hU : hv 1000000000 (dg f) k (K - k) = hv 1000000000 (dg f2) k (K - k)) (q : ¬ ic (f (k - 1)) (f2 (k - 1)) = 0) : ic (f (k - 1)) (f2 (k - 1)) = cn (vW f K) (vW f2 K2) := by
  subst e
  obtain ⟨a1, a2⟩ := hd (k - 1) (by omega)
  obtain ⟨b1, b2⟩ := hd2 (k - 1) (by omega)
  rw [a1, b1, ic_nI (by omega) (by omega)] at q ⊢
  rcases Nat.lt_trichotomy (dg f (k - 1)) (dg f2 (k - 1)) with h | h | h
  · rw [cn_lt h, cn_lt (hv_cmp h0 hk (fun j hj => (hd j hj).2) hU h)]
  · exact absurd (cn_rf h) q
  · rw [cn_gt h, cn_gt (hv_cmp h0 hk (fun j hj => (hd2 j hj).2) hU.symm h)]
theorem cmp_end {f f2 : Nat → Int32} {K K2 k : Nat} {od : Int32} (h1 : od = 0 → K = K2 ∧ hv 1000000000 (dg f) k (K - k) = hv 1000000000 (dg f2) k (K - k)) (h2 : ¬ od = 0 → od = cn (vW f K) (vW f2 K2)) (h : k = 0 ∨ ¬ od = 0) : od = cn (vW f K) (vW f2 K2) := by
  by_cases q : od = 0
  · rcases h with r | r
    · obtain ⟨e, u⟩ := h1 q
      subst e r
      rw [q]
      exact (cn_rf u).symm
    · exact absurd q r
  · exact h2 q
/-! signed ints in the sum's loops -/
theorem ng_add (a b : Nat) : -(nI a) - nI b = -(nI (a + b)) := by rw [← nI_add, Int32.neg_add, Int32.sub_eq_add_neg]
theorem ng_ge {a : Nat} (h : a < 2 ^ 31) : 0 ≤ -(nI a) ↔ a = 0 := by
  have e : (-(nI a)).toInt = -(a : Int) := by
    rw [Int32.toInt_neg, nI_toInt h]
    exact Int.bmod_eq_of_le (by omega) (by omega)
  rw [Int32.le_iff_toInt_le, e]
  show (0 : Int) ≤ _ ↔ _
  omega
theorem ng_up {a n : Nat} (h : a ≤ n) : -(nI a) + nI n = nI (n - a) := by rw [Int32.add_comm, ← Int32.sub_eq_add_neg, pk_sub h]
theorem sb_ti {x y o : Nat} (hx : x < 2 ^ 30) (hy : y < 2 ^ 30) (ho : o ≤ 1) : (nI x + -(nI y) + -(nI o)).toInt = (x : Int) - y - o := by
  have e1 : ((x : Int) - y).bmod (2 ^ 32) = (x : Int) - y := Int.bmod_eq_of_le (by omega) (by omega)
  have e2 : ((x : Int) - y - o).bmod (2 ^ 32) = (x : Int) - y - o := Int.bmod_eq_of_le (by omega) (by omega)
  rw [← Int32.sub_eq_add_neg, ← Int32.sub_eq_add_neg, Int32.toInt_sub, Int32.toInt_sub, nI_toInt (n := x) (by omega), nI_toInt (n := y) (by omega), nI_toInt (n := o) (by omega), e1, e2]
theorem nI_ofI {x : Int32} {v : Nat} (h : x.toInt = (v : Int)) (hv : v < 2 ^ 31) : x = nI v := by
  apply Int32.toInt_inj.mp
  rw [h, nI_toInt hv]
theorem sb_m {x : Int32} {n : Nat} {i : Int} (h : x.toInt = i) (h1 : -1000000000 ≤ i) (h2 : i < 0) (hv : (n : Int) = i + 1000000000) : x - (-1000000000) = nI n := by
  apply nI_ofI _ (by omega)
  rw [Int32.toInt_sub, h]
  have : ((-1000000000 : Int32)).toInt = -1000000000 := by decide
  rw [this, Int.bmod_eq_of_le (by omega) (by omega)]
  omega
theorem sb_z {x : Int32} {n : Nat} {i : Int} (h : x.toInt = i) (h1 : 0 ≤ i) (h2 : i < 1000000000) (hv : (n : Int) = i) : x - 0 = nI n := by
  rw [Int32.sub_zero]
  exact nI_ofI (by rw [h, hv]) (by omega)
/-- the complement's loop -/
theorem cpl_s {B g f pj o o' e d : Nat} (h : g + f = o * pj) (hs : e + d + o = o' * B) : (g + pj * e) + (f + pj * d) = o' * (pj * B) := by
  have h1 : pj * (e + d + o) = o' * (pj * B) := by rw [hs, Nat.mul_left_comm]
  rw [Nat.mul_add, Nat.mul_add, Nat.mul_comm pj o] at h1
  omega
/-- the sum's loop -/
theorem add_s {B g a b pj c c' e x y : Nat} (h : g + pj * c = a + b) (hs : e + c' * B = x + y + c) : (g + pj * e) + pj * B * c' = (a + pj * x) + (b + pj * y) := by
  have h1 : pj * (e + c' * B) = pj * (x + y + c) := by rw [hs]
  rw [Nat.mul_add, Nat.mul_add, Nat.mul_add, Nat.mul_comm c' B, ← Nat.mul_assoc] at h1
  omega
/-- the difference's loop -/
theorem sub_s {B g a b pj o o' e x y : Nat} (h : g + b = a + pj * o) (hs : e + y + o = x + o' * B) : (g + pj * e) + (b + pj * y) = (a + pj * x) + pj * B * o' := by
  have h1 : pj * (e + y + o) = pj * (x + o' * B) := by rw [hs]
  rw [Nat.mul_add, Nat.mul_add, Nat.mul_add, Nat.mul_comm o' B, ← Nat.mul_assoc] at h1
  omega
theorem K_le {f : Nat → Int32} {K R : Nat} (ht : top0 f K) (h : vW f K < 1000000000 ^ R) : K ≤ R := by
  rcases Nat.lt_or_ge R K with q | q
  · have h2 : 1000000000 ^ (K - 1) ≤ vW f K := hv_top (by omega) (ht (by omega))
    have h3 : 1000000000 ^ R ≤ 1000000000 ^ (K - 1) := Nat.pow_le_pow_right (by decide) (by omega)
    omega
  · exact q
theorem mmin_nI {a b : Nat} (ha : a < 2 ^ 31) (hb : b < 2 ^ 31) : (if nI b < nI a then nI b else nI a) = nI (min a b) := by
  by_cases h : b < a
  · rw [if_pos ((nI_ltI hb ha).mpr h), Nat.min_eq_right (by omega)]
  · rw [if_neg (fun q => h ((nI_ltI hb ha).mp q)), Nat.min_eq_left (by omega)]
theorem fl01 {b : Int32} (h : b = 0 ∨ b = 1) (hn : ¬ b = 0) : b = 1 := h.resolve_left hn
/-- signs of sums -/
theorem wz_add {b : Int32} {v w : Nat} : wz b v + wz b w = wz b (v + w) := by
  unfold wz
  split <;> omega
theorem wz_sub {b : Int32} {v w : Nat} (h : w ≤ v) : wz b v - wz b w = wz b (v - w) := by
  unfold wz
  split <;> omega
/-- the other sign -/
def fl (b : Int32) : Int32 := if b = 0 then 1 else 0
theorem fl_01 (b : Int32) : fl b = 0 ∨ fl b = 1 := by
  unfold fl
  split
  · exact Or.inr rfl
  · exact Or.inl rfl
theorem wz_fl {b : Int32} {v : Nat} : wz (fl b) v = -(wz b v) := by
  unfold wz fl
  by_cases h : b = 0
  · rw [if_pos h, if_neg (by decide), if_pos h]
  · rw [if_neg h, if_pos rfl, if_neg h, Int.neg_neg]
theorem fl_ne {b b2 : Int32} (h : b = 0 ∨ b = 1) (h2 : b2 = 0 ∨ b2 = 1) (hn : ¬ b = b2) : b2 = fl b := by
  rcases h with rfl | rfl
  · rcases h2 with rfl | rfl
    · exact absurd rfl hn
    · rfl
  · rcases h2 with rfl | rfl
    · rfl
    · exact absurd rfl hn
section LOOP2
variable {p : Program} {l : Launch} {e : Env} {R : Room} {s : State} {m : MethodId} {args : Array Value} {below : List Frame} {meth : Method} {c : Code} {H0 H : Heap} {locs : List Loc} {cells slots : Nat} {Q : State → Prop} {D : va_G} {cl : List vw_C} {A : Nat → Prop} {cc : ByteArray} {pc : Nat} {ls : Array Slot} {rest : List Value} {tys : List (ClassId × FieldType)} {ws : va_W} {a : Addr}
/-- arraycopy of the first K ints -/
theorem lq_copy (hexec : p.tables.exec = Jvm.exec) (hb : c.code = cc) (hml : c.maxLocals = ls.size) {own : String} {index : Nat} (hown : s.vm.findClass own = some m.cls) (hlink : (Cond.methodLink own index arraycopyName).before args s = true) (hnat : (Cond.native arraycopyName).before args s = true) (hstat : (Cond.static arraycopyName).before args s = true) (hini : (Cond.initialized "java/lang/System").before args s = true)
    (hK : va_K D cl tys s) (hP : va_P D cl ws H) (hD : va_D A ws) (hS : va_S A H0 H locs) (q0 q1 t0 : Nat) {a0 : Nat} {c0 : ClassId} {n0 n1 : Nat} {f g : Nat → Int32} (ha0 : ws[q0]? = some (a0, .inl (c0, n0, .inl f))) (ha1 : ws[q1]? = some (a, .inl (c0, n1, .inl g))) (ht0 : tys[t0]? = some (c0, .int))
    {K : Nat} (h4 : K ≤ n0) (h5 : K ≤ n1) (hn : n0 < 2 ^ 31)
    (hframes : 1 ≤ R.frames) (hlocals : (rest.map fun v => v.category).sum + (nativeFrameWords "java/lang/System" "arraycopy" 5 + 11) ≤ R.locals) (hdg : decode cc pc = .ok (.invokestatic index, 3))
    (kk : ∀ (H1 : Heap) (locs1 : List Loc), va_P D cl (ws.set q1 (a, .inl (c0, n1, .inl (va_cpy f g 0 0 K)))) H1 → va_D A (ws.set q1 (a, .inl (c0, n1, .inl (va_cpy f g 0 0 K)))) → va_S A H0 H1 locs1 → W p l e R s m args below meth c H1 locs1 cells slots Q (F0 m (pc + 3) ls rest)) : W p l e R s m args below meth c H locs cells slots Q (F0 m pc ls (.int (nI K) :: .int 0 :: .ref a :: .int 0 :: .ref a0 :: rest)) := by
  have e0 : (0 : Int32).toNatClampNeg = 0 := rfl
  have eK : (nI K).toNatClampNeg = K := nI_clamp (by omega)
  refine va_copyi (ty := .int) hexec hb hml hown hlink hnat hstat hini hK hP hD hS q0 q1 t0 t0 ha0 ha1 ht0 ht0 rfl (by decide) (by decide) (nI_pos (by omega)) (by rw [e0, eK]; omega) (by rw [e0, eK]; omega) (fun i _ => rfl) hframes hlocals hdg ?_
  rw [e0, eK]
  exact kk
end LOOP2
theorem cpy_lt {f g : Nat → Int32} {K j : Nat} (h : j < K) : va_cpy f g 0 0 K j = f j := by
  rw [pk_cpy_in (Nat.zero_le _) (by omega), Nat.zero_add, Nat.sub_zero]
theorem wn_cpy {R : Nat} {b : Int32} {f g : Nat → Int32} {z : Int} {K : Nat} (hk : K ≤ R) (hd : dok 1000000000 f K) (ht : top0 f K) (hb : b = 0 ∨ b = 1) (hz : z = wz b (vW f K)) : WN R (nI K) b (va_cpy f g 0 0 K) z := by
  have hj : ∀ j, j < K → dg (va_cpy f g 0 0 K) j = dg f j := fun j h => by unfold dg; rw [cpy_lt h]
  refine ⟨K, rfl, hk, fun j h => ?_, fun h => ?_, hb, ?_⟩
  · rw [hj j h, cpy_lt h]
    exact hd j h
  · rw [hj _ (by omega)]
    exact ht h
  · rw [hz]
    show _ = wz b (hv _ _ _ _)
    rw [hv_congr (d' := dg f) (fun j h1 h2 => hj j (by omega))]
/-! ===== lN n to 2^64: shifts, and, or, masks, one bit ===== -/
theorem wb_tb (n : Nat) : (lN n).toBitVec = BitVec.ofNat 64 n := rfl
theorem wb_inj {a b : Int64} (h : a.toBitVec = b.toBitVec) : a = b := Int64.toBitVec_inj.mp h
theorem wb_tn {n : Nat} (h : n < 2 ^ 64) : (lN n).toBitVec.toNat = n := by rw [wb_tb, BitVec.toNat_ofNat, Nat.mod_eq_of_lt h]
theorem wb_of (x : Int64) : ∃ n, n < 2 ^ 64 ∧ x = lN n := ⟨x.toBitVec.toNat, x.toBitVec.isLt, wb_inj (by rw [wb_tb]; simp)⟩
theorem wb_of32 (x : Int32) : ∃ n, n < 2 ^ 32 ∧ x = nI n := ⟨x.toBitVec.toNat, x.toBitVec.isLt, Int32.toBitVec_inj.mp (by show _ = BitVec.ofNat 32 _; simp)⟩
theorem wb_c : ∀ k, k < 64 → ((nI k).toInt64 &&& 63) = lN k := by decide +kernel
theorem wb_cu : ∀ k, k < 64 → ((nI k).toInt64.toUInt64 &&& Int64.toUInt64 63) = UInt64.ofNat k := by decide +kernel
theorem wb_sm : ∀ k, k < 64 → (BitVec.ofNat 64 k).smod 64 = BitVec.ofNat 64 k := by decide +kernel
theorem wb_pw {a b : Nat} (h : a ≤ b) : 2 ^ b = 2 ^ a * 2 ^ (b - a) := by rw [← Nat.pow_add]; congr 1; omega
theorem wb_lt2 {a b : Nat} (h : a < b) : 2 ^ a < 2 ^ b := Nat.pow_lt_pow_right (by decide) h
theorem wb_mod (n : Nat) : lN n = lN (n % 2 ^ 64) := wb_inj (by rw [wb_tb, wb_tb]; apply BitVec.eq_of_toNat_eq; rw [BitVec.toNat_ofNat, BitVec.toNat_ofNat, Nat.mod_mod])
theorem wb_shr {n k : Nat} (hn : n < 2 ^ 64) (hk : k < 64) : ((lN n).toUInt64 >>> ((nI k).toInt64.toUInt64 &&& Int64.toUInt64 63)).toInt64 = lN (n / 2 ^ k) := by
  rw [wb_cu k hk]
  apply wb_inj
  apply BitVec.eq_of_toNat_eq
  show ((lN n).toUInt64 >>> UInt64.ofNat k).toNat = (BitVec.ofNat 64 _).toNat
  have h1 : (UInt64.ofNat k).toNat = k := by
    show (BitVec.ofNat 64 k).toNat = k
    rw [BitVec.toNat_ofNat, Nat.mod_eq_of_lt (by omega)]
  have h2 : (lN n).toUInt64.toNat = n := wb_tn hn
  rw [UInt64.toNat_shiftRight, h1, h2, Nat.mod_eq_of_lt hk, Nat.shiftRight_eq_div_pow, BitVec.toNat_ofNat, Nat.mod_eq_of_lt (Nat.lt_of_le_of_lt (Nat.div_le_self _ _) hn)]
theorem wb_shl (n : Nat) {k : Nat} (hk : k < 64) : lN n <<< ((nI k).toInt64 &&& 63) = lN (n * 2 ^ k) := by
  rw [wb_c k hk]
  apply wb_inj
  rw [Int64.toBitVec_shiftLeft, wb_tb, wb_tb, wb_tb, wb_sm k hk]
  apply BitVec.eq_of_toNat_eq
  rw [BitVec.shiftLeft_eq', BitVec.toNat_shiftLeft, BitVec.toNat_ofNat, BitVec.toNat_ofNat, BitVec.toNat_ofNat, Nat.mod_eq_of_lt (show k < 2 ^ 64 by omega), Nat.shiftLeft_eq, Nat.mul_mod, Nat.mod_mod, ← Nat.mul_mod]
theorem wb_and {a b : Nat} (ha : a < 2 ^ 64) (hb : b < 2 ^ 64) : lN a &&& lN b = lN (a &&& b) := by
  apply wb_inj
  rw [Int64.toBitVec_and, wb_tb, wb_tb, wb_tb]
  apply BitVec.eq_of_toNat_eq
  rw [BitVec.toNat_and, BitVec.toNat_ofNat, BitVec.toNat_ofNat, BitVec.toNat_ofNat, Nat.mod_eq_of_lt ha, Nat.mod_eq_of_lt hb, Nat.mod_eq_of_lt (Nat.and_lt_two_pow _ hb)]
theorem wb_or {a b : Nat} (ha : a < 2 ^ 64) (hb : b < 2 ^ 64) : lN a ||| lN b = lN (a ||| b) := by
  apply wb_inj
  rw [Int64.toBitVec_or, wb_tb, wb_tb, wb_tb]
  apply BitVec.eq_of_toNat_eq
  rw [BitVec.toNat_or, BitVec.toNat_ofNat, BitVec.toNat_ofNat, BitVec.toNat_ofNat, Nat.mod_eq_of_lt ha, Nat.mod_eq_of_lt hb, Nat.mod_eq_of_lt (Nat.or_lt_two_pow ha hb)]
theorem wb_mask {n k : Nat} (hn : n < 2 ^ 64) (hk : k < 64) : lN n &&& lN (2 ^ k - 1) = lN (n % 2 ^ k) := by
  rw [wb_and hn (by have := wb_lt2 hk; omega), Nat.and_two_pow_sub_one_eq_mod]
theorem wb_a1 {n : Nat} (hn : n < 2 ^ 64) : lN n &&& 1 = lN (n % 2) := wb_mask (k := 1) hn (by decide)
theorem wb_bit {n k : Nat} (hn : n < 2 ^ 64) (hk : k < 64) : ((lN n).toUInt64 >>> ((nI k).toInt64.toUInt64 &&& Int64.toUInt64 63)).toInt64 &&& 1 = lN (n / 2 ^ k % 2) := by
  rw [wb_shr hn hk, wb_a1 (Nat.lt_of_le_of_lt (Nat.div_le_self _ _) hn)]
theorem wb_xor {q k : Nat} (hk : k < 63) (h : 2 ^ k ≤ q) (h2 : q < 2 ^ (k + 1)) : lN q ^^^ lN (2 ^ k) = lN (q - 2 ^ k) := by
  obtain ⟨r, rfl⟩ : ∃ r, q = 2 ^ k + r := ⟨q - 2 ^ k, by omega⟩
  have hr : r < 2 ^ k := by rw [Nat.pow_succ] at h2; omega
  have hx : (2 ^ k + r) ^^^ 2 ^ k = r := by
    apply Nat.eq_of_testBit_eq
    intro i
    rw [Nat.testBit_xor, Nat.testBit_two_pow]
    rcases Nat.lt_trichotomy i k with h | h | h
    · rw [Nat.testBit_two_pow_add_gt h]
      simp [show ¬ k = i by omega]
    · subst h
      rw [Nat.testBit_two_pow_add_eq]
      simp
    · have a1 : 2 ^ (k + 1) ≤ 2 ^ i := Nat.pow_le_pow_right (by decide) h
      rw [Nat.testBit_lt_two_pow (show 2 ^ k + r < 2 ^ i by omega), Nat.testBit_lt_two_pow (show r < 2 ^ i by omega)]
      simp [show ¬ k = i by omega]
  have b1 := wb_lt2 (show k + 1 < 64 by omega)
  have b2 := wb_lt2 (show k < 64 by omega)
  apply wb_inj
  rw [Int64.toBitVec_xor, wb_tb, wb_tb, wb_tb]
  apply BitVec.eq_of_toNat_eq
  rw [BitVec.toNat_xor, BitVec.toNat_ofNat, BitVec.toNat_ofNat, BitVec.toNat_ofNat, Nat.mod_eq_of_lt (by omega : 2 ^ k + r < 2 ^ 64), Nat.mod_eq_of_lt b2, hx, Nat.add_sub_cancel_left, Nat.mod_eq_of_lt (by omega)]
/-! ===== lN: masks, 'or' of parts that don't overlap is a sum ===== -/
theorem u_tn {n : Nat} (h : n < 2 ^ 64) : (UInt64.ofNat n).toNat = n := Nat.mod_eq_of_lt h
theorem g_and {a b c : Nat} (ha : a < 2 ^ 64) (hb : b < 2 ^ 64) (hc : a &&& b = c) : lN a &&& lN b = lN c := by
  subst hc
  have h : UInt64.ofNat a &&& UInt64.ofNat b = UInt64.ofNat (a &&& b) := UInt64.toNat_inj.mp (by rw [UInt64.toNat_and, u_tn ha, u_tn hb, u_tn (Nat.and_lt_two_pow a hb)])
  have h2 := congrArg UInt64.toInt64 h
  exact h2
theorem g_and1 {a : Nat} (ha : a < 2 ^ 64) : lN a &&& 1 = lN (a % 2) := g_and (b := 1) ha (by decide) (Nat.and_two_pow_sub_one_eq_mod a 1)
theorem g_mask {a s p : Nat} (hp : 2 ^ s = p) (hs : s < 64) (ha : a < 2 ^ 64) : lN a &&& lN (p - 1) = lN (a % p) := by
  subst hp
  have := Nat.pow_lt_pow_right (show 1 < 2 by decide) hs
  exact g_and ha (by omega) (Nat.and_two_pow_sub_one_eq_mod a s)
theorem g_or {k p a b : Nat} (hp : 2 ^ k = p) (ha : a < p) (h : b * p + a < 2 ^ 64) : lN (b * p) ||| lN a = lN (b * p + a) := by
  subst hp
  have h1 : b * 2 ^ k ||| a = b * 2 ^ k + a := by rw [← Nat.shiftLeft_eq, Nat.shiftLeft_add_eq_or_of_lt ha]
  have h3 : UInt64.ofNat (b * 2 ^ k) ||| UInt64.ofNat a = UInt64.ofNat (b * 2 ^ k + a) := UInt64.toNat_inj.mp (by rw [UInt64.toNat_or, u_tn (by omega), u_tn (by omega), u_tn h, h1])
  have h2 := congrArg UInt64.toInt64 h3
  exact h2
theorem g_or' {k p a b : Nat} (hp : 2 ^ k = p) (ha : a < p) (h : a + b * p < 2 ^ 64) : lN a ||| lN (b * p) = lN (a + b * p) := by
  rw [Int64.or_comm, g_or hp ha (by omega), Nat.add_comm]
theorem g_ushr {a k p : Nat} {y : UInt64} (hy : y = UInt64.ofNat k) (hk : k < 64) (hp : 2 ^ k = p) (ha : a < 2 ^ 64) : ((lN a).toUInt64 >>> y).toInt64 = lN (a / p) := by
  subst hy hp
  have h : UInt64.ofNat a >>> UInt64.ofNat k = UInt64.ofNat (a / 2 ^ k) := UInt64.toNat_inj.mp (by rw [UInt64.toNat_shiftRight, u_tn ha, u_tn (by omega), u_tn (Nat.lt_of_le_of_lt (Nat.div_le_self _ _) ha), Nat.mod_eq_of_lt hk, Nat.shiftRight_eq_div_pow])
  have h2 := congrArg UInt64.toInt64 h
  exact h2
theorem g_shl {a k p : Nat} {y : Int64} (hy : y.toBitVec.smod 64 = BitVec.ofNat 64 k) (hk : k < 64) (hp : 2 ^ k = p) (ha : a < 2 ^ 64) : lN a <<< y = lN (a * p) := by
  subst hp
  apply Int64.toBitVec_inj.mp
  rw [Int64.toBitVec_shiftLeft, hy]
  apply BitVec.eq_of_toNat_eq
  have hb : (lN a).toBitVec.toNat = a := Nat.mod_eq_of_lt ha
  have hk' : (BitVec.ofNat 64 k).toNat = k := Nat.mod_eq_of_lt (by omega)
  have h : ((lN a).toBitVec <<< BitVec.ofNat 64 k).toNat = (a * 2 ^ k) % 2 ^ 64 := by simp only [BitVec.shiftLeft_eq', BitVec.toNat_shiftLeft, hb, hk', Nat.shiftLeft_eq]
  exact h
/-! ===== lN to 2^62 under >> and >>> ===== -/
theorem pf_lI {a : Nat} (h : a < 2 ^ 63) : (lN a).toInt = (a : Int) := lg_ofNat_toInt h
theorem pf_shr {a d : Nat} {D : Int64} (hD : (D.toBitVec.smod 64).toNat = d) (h : a < 2 ^ 62) : lN a >>> D = lN (a / 2 ^ d) := by
  have hd : a / 2 ^ d ≤ a := Nat.div_le_self _ _
  apply Int64.toInt_inj.mp
  have e : (lN a >>> D).toInt = (lN a).toInt >>> d := by
    rw [← hD]
    exact BitVec.toInt_sshiftRight ..
  rw [e, Int.shiftRight_eq_div_pow, pf_lI (by omega), pf_lI (by omega)]
  rfl
theorem pf_ushr {a d : Nat} {D : UInt64} (hD : D.toNat % 64 = d) (h : a < 2 ^ 62) : ((lN a).toUInt64 >>> D).toInt64 = lN (a / 2 ^ d) := by
  have hd : a / 2 ^ d ≤ a := Nat.div_le_self _ _
  have e : (lN a).toUInt64 >>> D = UInt64.ofNat (a / 2 ^ d) := UInt64.toNat_inj.mp (by
    rw [UInt64.toNat_shiftRight, hD, Nat.shiftRight_eq_div_pow, UInt64.toNat_ofNat']
    show (UInt64.ofNat a).toNat / 2 ^ d = _
    rw [UInt64.toNat_ofNat', Nat.mod_eq_of_lt (by omega), Nat.mod_eq_of_lt (by omega)])
  rw [e]
  rfl
theorem pf_andw (x : Int64) : ∃ m, m < 2 ^ 32 ∧ x &&& 4294967295 = lN m := ⟨x.toBitVec.toNat % 2 ^ 32, Nat.mod_lt _ (by decide), Int64.toBitVec_inj.mp (BitVec.eq_of_toNat_eq (by
  show (x.toBitVec &&& 4294967295#64).toNat = (BitVec.ofNat 64 (x.toBitVec.toNat % 2 ^ 32)).toNat
  rw [BitVec.toNat_and, show (4294967295#64).toNat = 2 ^ 32 - 1 from by decide, Nat.and_two_pow_sub_one_eq_mod, BitVec.toNat_ofNat]
  omega))⟩
/-! The reference's numbers: limbs of 28 bits in an array of 302 places, their count at 300, the sign at 301. -/
abbrev vM (f : Nat → Int32) (k : Nat) : Nat := hv 268435456 (dg f) 0 k
def MN (f : Nat → Int32) (z : Int) : Prop := ∃ k : Nat, f 300 = nI k ∧ k ≤ 300 ∧ dok 268435456 f k ∧ top0 f k ∧ f 301 = sg z ∧ z.natAbs = vM f k
theorem vM_pos {f : Nat → Int32} {k : Nat} (h : top0 f k) (hk : 0 < k) : 0 < vM f k := Nat.lt_of_lt_of_le (Nat.pow_pos (by decide)) (hv_top hk (h hk))
theorem vM_b {f : Nat → Int32} {K : Nat} (hd : dok 268435456 f K) : vM f K < 268435456 ^ K := hv_lt (fun j _ hj => (hd j (by omega)).2)
theorem M_le {f : Nat → Int32} {K R : Nat} (ht : top0 f K) (h : vM f K < 268435456 ^ R) : K ≤ R := by
  rcases Nat.lt_or_ge R K with q | q
  · have h2 : 268435456 ^ (K - 1) ≤ vM f K := hv_top (by omega) (ht (by omega))
    have h3 : 268435456 ^ R ≤ 268435456 ^ (K - 1) := Nat.pow_le_pow_right (by decide) (by omega)
    omega
  · exact q
theorem dg_cg {f g : Nat → Int32} {j : Nat} (h : f j = g j) : dg f j = dg g j := by
  unfold dg
  rw [h]
/-- behind trim -/
theorem mn_trim {f f1 : Nat → Int32} {k k0 : Nat} {z : Int} (hk0 : k0 ≤ 300) (hd : dok 268435456 f k0) (hp : k ≤ k0 ∧ top0 f k ∧ vM f k = vM f k0 ∧ f1 300 = nI k ∧ f1 301 = (if k = 0 then 0 else f 301) ∧ ∀ j, j < 300 → f1 j = f j) (hv : z.natAbs = vM f k0) (hs : z ≠ 0 → f 301 = sg z) : MN f1 z := by
  obtain ⟨h1, h2, h3, h4, h5, h6⟩ := hp
  have e : ∀ j, j < 300 → dg f1 j = dg f j := fun j hj => dg_cg (h6 j hj)
  refine ⟨k, h4, by omega, fun j hj => ?_, fun hk => ?_, ?_, ?_⟩
  · rw [e j (by omega), h6 j (by omega)]
    exact hd j (by omega)
  · rw [e _ (by omega)]
    exact h2 hk
  · rw [h5]
    by_cases q : k = 0
    · subst q
      rw [if_pos rfl, sgZ]
      rw [← h3] at hv
      exact Int.natAbs_eq_zero.mp hv
    · rw [if_neg q]
      refine hs (fun r => ?_)
      subst r
      have := vM_pos h2 (by omega)
      rw [h3, ← hv] at this
      exact absurd this (by decide)
  · rw [hv, ← h3]
    exact hv_congr (fun j _ hj => (e j (by omega)).symm)
theorem mul_s {B V S w m ca pj e : Nat} (h : e + pj * ca = V * m) (hS : S = w * m + ca) : (e + pj * (S % B)) + pj * B * (S / B) = (V + pj * w) * m := by
  have h1 := Nat.div_add_mod S B
  have h2 : pj * (S % B) + pj * B * (S / B) = pj * S := by
    rw [Nat.mul_assoc, ← Nat.mul_add, Nat.add_comm, h1]
  have h3 : pj * S = pj * w * m + pj * ca := by rw [hS, Nat.mul_add, Nat.mul_assoc]
  rw [Nat.add_mul, ← h]
  omega
theorem car_s {B S pj e : Nat} : (e + pj * (S % B)) + pj * B * (S / B) = e + pj * S := by
  have h1 := Nat.div_add_mod S B
  have h2 : pj * (S % B) + pj * B * (S / B) = pj * S := by
    rw [Nat.mul_assoc, ← Nat.mul_add, Nat.add_comm, h1]
  omega
theorem sg_mul {z : Int} {m : Nat} (hm : 0 < m) : sg (z * m) = sg z := by
  rcases (show z < 0 ∨ z = 0 ∨ 0 < z by omega) with h | h | h
  · rw [sgN h, sgN (Int.mul_neg_of_neg_of_pos h (by omega))]
  · rw [sgZ h, sgZ (by rw [h, Int.zero_mul])]
  · rw [sgP h, sgP (Int.mul_pos h (by omega))]
theorem msk {a : Nat} (ha : a < 2 ^ 63) : lN a &&& 268435455 = lN (a % 268435456) := g_mask (a := a) (s := 28) (p := 268435456) (by decide) (by decide) (by omega)
theorem msh {a : Nat} (ha : a < 2 ^ 62) : lN a >>> ((28 : Int32).toInt64 &&& 63) = lN (a / 268435456) := pf_shr (a := a) (d := 28) (by decide) ha
theorem mor {r w : Nat} (hr : r < 2 ^ 31) (hw : w < 268435456) : (lN r <<< ((28 : Int32).toInt64 &&& 63)) ||| lN w = lN (r * 268435456 + w) := by
  rw [g_shl (a := r) (k := 28) (p := 268435456) (by decide) (by decide) (by decide) (by omega)]
  exact g_or (k := 28) (by decide) hw (by omega)
theorem lc_le {a : Nat} (h : a < 2 ^ 63) : lg_cmp (lN a) 0 ≤ 0 ↔ a = 0 := by
  rw [lg_cmp_le]
  exact (pk_lLE (b := 0) h (by decide)).trans (by omega)
theorem sg_tdiv {z : Int} {d : Nat} (h : z.tdiv d ≠ 0) : sg (z.tdiv d) = sg z := by
  have e := Int.natAbs_tdiv z d
  rcases (show z < 0 ∨ z = 0 ∨ 0 < z by omega) with q | q | q
  · have h1 : z.tdiv d ≤ 0 := by
      rw [show z = -((z.natAbs : Int)) by omega, Int.neg_tdiv, ← Int.ofNat_tdiv]
      generalize z.natAbs / d = q9
      omega
    rw [sgN q, sgN (by omega)]
  · rw [q, Int.zero_tdiv] at h
    exact absurd rfl h
  · have h1 : 0 ≤ z.tdiv d := by
      rw [show z = (z.natAbs : Int) by omega, ← Int.ofNat_tdiv]
      generalize z.natAbs / d = q9
      omega
    rw [sgP q, sgP (by omega)]
/-! Squares, bits. -/
theorem hv_upd {B p n v : Nat} {g : Nat → Int32} (h : p < n) (hv2 : v < 2 ^ 31) : hv B (dg (upd g p (nI v))) 0 n + B ^ p * dg g p = hv B (dg g) 0 n + B ^ p * v := by
  obtain ⟨r, rfl⟩ : ∃ r, n = p + (r + 1) := ⟨n - p - 1, by omega⟩
  have e1 : hv B (dg (upd g p (nI v))) 0 p = hv B (dg g) 0 p := hv_congr (fun j h1 h2 => dg_un (by omega))
  have e2 : hv B (dg (upd g p (nI v))) (p + 1) r = hv B (dg g) (p + 1) r := hv_congr (fun j h1 h2 => dg_un (by omega))
  rw [hv_split B (dg (upd g p (nI v))) (r + 1) p 0, hv_split B (dg g) (r + 1) p 0, Nat.zero_add, hv_s, hv_s, e1, e2, dg_us hv2, Nat.mul_add, Nat.mul_add]
  omega
theorem sq_len {f : Nat → Int32} {K R : Nat} (ht : top0 f K) (h : vW f K * vW f K < 1000000000 ^ R) : 2 * K ≤ R + 1 := by
  rcases Nat.eq_zero_or_pos K with q | q
  · omega
  · have h2 : 1000000000 ^ (K - 1) ≤ vW f K := hv_top q (ht q)
    have h3 := Nat.mul_le_mul h2 h2
    rw [← Nat.pow_add] at h3
    rcases Nat.lt_or_ge (K - 1 + (K - 1)) R with r | r
    · omega
    · have h4 : 1000000000 ^ R ≤ 1000000000 ^ (K - 1 + (K - 1)) := Nat.pow_le_pow_right (by decide) r
      omega
theorem dok_u {B : Nat} {f : Nat → Int32} {n p v : Nat} (h : dok B f n) (hv : v < B) (hB : B < 2 ^ 31) : dok B (upd f p (nI v)) n := by
  intro j hj
  by_cases q : j = p
  · subst q
    rw [pk_us, dg_us (by omega)]
    exact ⟨rfl, hv⟩
  · rw [pk_un q, dg_un q]
    exact h j hj
/-- one place of the product -/
theorem sq_s {B T T' X ai h bk wk ca S pi pk : Nat} (h1 : T + pi * pk * ca = X + pi * ai * h) (hS : S = ai * bk + wk + ca) (h2 : T' + pi * pk * wk = T + pi * pk * (S % B)) : T' + pi * pk * B * (S / B) = X + pi * ai * (h + pk * bk) := by
  have e1 := Nat.div_add_mod S B
  have e2 : pi * pk * (S % B) + pi * pk * B * (S / B) = pi * pk * S := by
    rw [Nat.mul_assoc (pi * pk) B, ← Nat.mul_add, Nat.add_comm, e1]
  have e3 : pi * pk * S = pi * ai * (pk * bk) + pi * pk * wk + pi * pk * ca := by
    rw [hS, Nat.mul_add, Nat.mul_add]
    congr 2
    rw [Nat.mul_assoc, Nat.mul_assoc]
    congr 1
    rw [Nat.mul_left_comm]
  rw [Nat.mul_add]
  omega
theorem sq_b {B ai bk wk ca S : Nat} (h1 : ai < B) (h2 : bk < B) (h3 : wk < B) (h4 : ca < B) (hS : S = ai * bk + wk + ca) : S / B < B := by
  apply Nat.div_lt_of_lt_mul
  have h5 := Nat.mul_le_mul (show ai ≤ B - 1 by omega) (show bk ≤ B - 1 by omega)
  obtain ⟨c, rfl⟩ : ∃ c, B = c + 1 := ⟨B - 1, by omega⟩
  rw [Nat.add_sub_cancel] at h5
  rw [Nat.add_mul, Nat.mul_add]
  omega
/-- how many bits a number has -/
def bl (v : Nat) : Nat := if v = 0 then 0 else Nat.log2 v + 1
theorem bl_le {v k : Nat} : bl v ≤ k ↔ v < 2 ^ k := by
  unfold bl
  by_cases h : v = 0
  · rw [if_pos h, h]
    have := Nat.pow_pos (n := k) (show 0 < 2 by decide)
    omega
  · rw [if_neg h]
    exact (Nat.log2_lt h)
theorem bl_half {v : Nat} (h : 0 < v) : bl v = bl (v / 2) + 1 := by
  have h1 : ∀ k, bl v ≤ k + 1 ↔ bl (v / 2) ≤ k := fun k => by
    rw [bl_le, bl_le, Nat.pow_succ, Nat.div_lt_iff_lt_mul (by decide)]
  have h2 : ¬ bl v ≤ 0 := fun q => by
    have := bl_le.mp q
    rw [Nat.pow_zero] at this
    omega
  have h3 := (h1 (bl (v / 2))).mpr (Nat.le_refl _)
  have h4 := (h1 (bl v - 1)).mp (by omega)
  omega
theorem bl_0 {v : Nat} : bl v = 0 ↔ v = 0 := by
  have : bl v ≤ 0 ↔ v < 2 ^ 0 := bl_le
  rw [Nat.pow_zero] at this
  omega
theorem bl_R {f : Nat → Int32} {K R : Nat} (hd : dok 1000000000 f K) (hk : K ≤ R) : bl (vW f K) ≤ R * 30 := by
  rw [bl_le, Nat.mul_comm, Nat.pow_mul]
  have h1 := vW_b hd
  have h2 : 1000000000 ^ K ≤ 1000000000 ^ R := Nat.pow_le_pow_right (by decide) hk
  have h3 : 1000000000 ^ R ≤ (2 ^ 30) ^ R := Nat.pow_le_pow_left (by decide) R
  omega
theorem wz_sq {b : Int32} {v : Nat} : wz b v * wz b v = ((v * v : Nat) : Int) := by
  unfold wz
  split
  · rw [Int.natCast_mul]
  · rw [Int.neg_mul_neg, Int.natCast_mul]
theorem hv_mono {B : Nat} {d : Nat → Nat} {i K : Nat} (h : i ≤ K) : hv B d 0 i ≤ hv B d 0 K := by
  obtain ⟨r, rfl⟩ : ∃ r, K = i + r := ⟨K - i, by omega⟩
  rw [hv_split]
  omega
theorem sq_le {i K : Nat} {f : Nat → Int32} (h : i ≤ K) : hv 1000000000 (dg f) 0 i * vW f K ≤ vW f K * vW f K := Nat.mul_le_mul_right _ (hv_mono h)
/-! The reference's numbers: copying, comparing, adding. -/
theorem vM_lt {f f2 : Nat → Int32} {K K2 : Nat} (hd : dok 268435456 f K) (ht : top0 f2 K2) (h : K < K2) : vM f K < vM f2 K2 := by
  have h1 := vM_b hd
  have h2 : 268435456 ^ (K2 - 1) ≤ vM f2 K2 := hv_top (by omega) (ht (by omega))
  have h3 : 268435456 ^ K ≤ 268435456 ^ (K2 - 1) := Nat.pow_le_pow_right (by decide) (by omega)
  omega
theorem mn_cpy {f g : Nat → Int32} {K : Nat} {z : Int} (h300 : f 300 = nI K) (hk : K ≤ 300) (hd : dok 268435456 f K) (ht : top0 f K) (hs : f 301 = sg z) (hva : z.natAbs = vM f K) (hg : ∀ q, q < K → g q = f q) {s : Int32} {z' : Int} (hs' : s = sg z') (hz' : z'.natAbs = z.natAbs) : MN (upd (upd g 300 (nI K)) 301 s) z' := by
  have e : ∀ j, j < K → upd (upd g 300 (nI K)) 301 s j = f j := fun j hj => (pk_un (by omega)).trans ((pk_un (by omega)).trans (hg j hj))
  have e2 : ∀ j, j < K → dg (upd (upd g 300 (nI K)) 301 s) j = dg f j := fun j hj => dg_cg (e j hj)
  refine ⟨K, (pk_un (by decide)).trans pk_us, hk, fun j hj => ?_, fun hj => ?_, pk_us.trans hs', ?_⟩
  · rw [e2 j hj, e j hj]
    exact hd j hj
  · rw [e2 _ (by omega)]
    exact ht hj
  · rw [hz', hva]
    exact hv_congr (fun j _ hj => (e2 j (by omega)).symm)
theorem mc_lt {f f2 : Nat → Int32} {K K2 k : Nat} (e : K = K2) (h0 : 0 < k) (hk : k ≤ K) (hd : dok 268435456 f K) (hd2 : dok 268435456 f2 K2) (hU : hv 268435456 (dg f) k (K - k) = hv 268435456 (dg f2) k (K - k)) (h : f (k - 1) < f2 (k - 1)) : vM f K < vM f2 K2 := by
  subst e
  obtain ⟨a1, a2⟩ := hd (k - 1) (by omega)
  obtain ⟨b1, b2⟩ := hd2 (k - 1) (by omega)
  rw [a1, b1] at h
  exact hv_cmp h0 hk (fun j hj => (hd j hj).2) hU ((nI_ltI (by omega) (by omega)).mp h)
theorem mc_s {f f2 : Nat → Int32} {K k : Nat} (h0 : 0 < k) (hk : k ≤ K) (hU : hv 268435456 (dg f) k (K - k) = hv 268435456 (dg f2) k (K - k)) (q : f (k - 1) = f2 (k - 1)) : hv 268435456 (dg f) (k - 1) (K - (k - 1)) = hv 268435456 (dg f2) (k - 1) (K - (k - 1)) := by
  rw [hv_dn h0 hk, hv_dn h0 hk, hU, dg_cg q]
theorem cn_ge {a b : Nat} : 0 ≤ cn a b ↔ b ≤ a := by
  rcases Nat.lt_trichotomy a b with h | h | h
  · rw [cn_lt h]
    constructor
    · intro q; exact absurd q (by decide)
    · intro q; omega
  · rw [cn_rf h]
    constructor
    · intro _; omega
    · intro _; decide
  · rw [cn_gt h]
    constructor
    · intro _; omega
    · intro _; decide
theorem sg_lt {x y : Int} (h : sg x < sg y) : x < y := by
  rcases (show x < 0 ∨ x = 0 ∨ 0 < x by omega) with hx | hx | hx
  · rcases (show y < 0 ∨ y = 0 ∨ 0 < y by omega) with hy | hy | hy
    · rw [sgN hx, sgN hy] at h; exact absurd h (by decide)
    · omega
    · omega
  · rcases (show y < 0 ∨ y = 0 ∨ 0 < y by omega) with hy | hy | hy
    · rw [sgZ hx, sgN hy] at h; exact absurd h (by decide)
    · rw [sgZ hx, sgZ hy] at h; exact absurd h (by decide)
    · omega
  · rcases (show y < 0 ∨ y = 0 ∨ 0 < y by omega) with hy | hy | hy
    · rw [sgP hx, sgN hy] at h; exact absurd h (by decide)
    · rw [sgP hx, sgZ hy] at h; exact absurd h (by decide)
    · rw [sgP hx, sgP hy] at h; exact absurd h (by decide)
theorem sg_ne_lt {x y : Int} (h : sg y ≤ sg x) (hn : ¬ sg x = sg y) : y < x := sg_lt (by
  rcases Int32.le_iff_lt_or_eq.mp h with q | q
  · exact q
  · exact absurd q.symm hn)
theorem cz_mul {x y : Int} (h : sg x = sg y) : sg x * cn x.natAbs y.natAbs = cz x y := by
  rcases (show x < 0 ∨ x = 0 ∨ 0 < x by omega) with hx | hx | hx
  · rcases (show y < 0 ∨ y = 0 ∨ 0 < y by omega) with hy | hy | hy
    · rw [sgN hx]
      rcases Nat.lt_trichotomy x.natAbs y.natAbs with q | q | q
      · rw [cn_lt q, cz_gt (by omega)]; decide
      · rw [cn_rf q, cz_rf (by omega)]; decide
      · rw [cn_gt q, cz_lt (by omega)]; decide
    · rw [sgN hx, sgZ hy] at h; exact absurd h (by decide)
    · rw [sgN hx, sgP hy] at h; exact absurd h (by decide)
  · rcases (show y < 0 ∨ y = 0 ∨ 0 < y by omega) with hy | hy | hy
    · rw [sgZ hx, sgN hy] at h; exact absurd h (by decide)
    · rw [sgZ hx, cn_rf (by omega), cz_rf (by omega)]; decide
    · rw [sgZ hx, sgP hy] at h; exact absurd h (by decide)
  · rcases (show y < 0 ∨ y = 0 ∨ 0 < y by omega) with hy | hy | hy
    · rw [sgP hx, sgN hy] at h; exact absurd h (by decide)
    · rw [sgP hx, sgZ hy] at h; exact absurd h (by decide)
    · rw [sgP hx]
      rcases Nat.lt_trichotomy x.natAbs y.natAbs with q | q | q
      · rw [cn_lt q, cz_lt (by omega)]; decide
      · rw [cn_rf q, cz_rf (by omega)]; decide
      · rw [cn_gt q, cz_gt (by omega)]; decide
theorem sb_ti2 {x y o : Nat} (hx : x < 2 ^ 30) (hy : y < 2 ^ 30) (ho : o ≤ 1) : (nI x - nI y - nI o).toInt = (x : Int) - y - o := by
  rw [Int32.sub_eq_add_neg, Int32.sub_eq_add_neg]
  exact sb_ti hx hy ho
theorem an_m {x : Int32} {n : Nat} {i : Int} (h : x.toInt = i) (h1 : -268435456 ≤ i) (h2 : i < 0) (hv : (n : Int) = i + 268435456) : x &&& 268435455 = nI n := by
  rw [pk_and x (m := 268435455) 28 (by decide)]
  have e : x.toInt = if 2 * x.toBitVec.toNat < 2 ^ 32 then (x.toBitVec.toNat : Int) else (x.toBitVec.toNat : Int) - (2 ^ 32 : Nat) := BitVec.toInt_eq_toNat_cond _
  rw [h] at e
  have hb := x.toBitVec.isLt
  congr 1
  split at e
  · omega
  · omega
theorem an_z {x : Int32} {n : Nat} {i : Int} (h : x.toInt = i) (h1 : 0 ≤ i) (h2 : i < 268435456) (hv : (n : Int) = i) : x &&& 268435455 = nI n := by
  have e : x = nI n := nI_ofI (by rw [h, hv]) (by omega)
  rw [e, pk_andN (by omega) (m := 268435455) 28 (by decide)]
  congr 1
  omega
theorem sg_neg {x : Int} : (-1) * sg x = sg (-x) := by
  rcases (show x < 0 ∨ x = 0 ∨ 0 < x by omega) with h | h | h
  · rw [sgN h, sgP (by omega)]; decide
  · rw [sgZ h, sgZ (by omega)]; decide
  · rw [sgP h, sgN (by omega)]; decide
theorem sg_one {x : Int} : 1 * sg x = sg x := Int32.one_mul _
theorem sg_z {x : Int} (h : sg x = 0) : x = 0 := by
  rcases (show x < 0 ∨ x = 0 ∨ 0 < x by omega) with q | q | q
  · rw [sgN q] at h; exact absurd h (by decide)
  · exact q
  · rw [sgP q] at h; exact absurd h (by decide)
/-- signs of a sum -/
theorem sg_same {x y : Int} (hy : ¬ sg y = 0) (h : sg x = sg y) : (x + y).natAbs = x.natAbs + y.natAbs ∧ sg (x + y) = sg x := by
  rcases (show y < 0 ∨ y = 0 ∨ 0 < y by omega) with q | q | q
  · rw [sgN q] at h
    have hx : x < 0 := by
      rcases (show x < 0 ∨ x = 0 ∨ 0 < x by omega) with r | r | r
      · exact r
      · rw [sgZ r] at h; exact absurd h (by decide)
      · rw [sgP r] at h; exact absurd h (by decide)
    exact ⟨by omega, by rw [sgN hx, sgN (by omega)]⟩
  · exact absurd (sgZ q) hy
  · rw [sgP q] at h
    have hx : 0 < x := by
      rcases (show x < 0 ∨ x = 0 ∨ 0 < x by omega) with r | r | r
      · rw [sgN r] at h; exact absurd h (by decide)
      · rw [sgZ r] at h; exact absurd h (by decide)
      · exact r
    exact ⟨by omega, by rw [sgP hx, sgP (by omega)]⟩
theorem sg_diff {x y : Int} (hx : ¬ sg x = 0) (hy : ¬ sg y = 0) (h : ¬ sg x = sg y) : (x + y).natAbs = (x.natAbs - y.natAbs) + (y.natAbs - x.natAbs) ∧ (x.natAbs < y.natAbs → sg y = sg (x + y)) ∧ (y.natAbs < x.natAbs → sg x = sg (x + y)) := by
  rcases (show x < 0 ∨ x = 0 ∨ 0 < x by omega) with p | p | p
  · rcases (show y < 0 ∨ y = 0 ∨ 0 < y by omega) with q | q | q
    · exact absurd (by rw [sgN p, sgN q]) h
    · exact absurd (sgZ q) hy
    · exact ⟨by omega, fun r => by rw [sgP q, sgP (by omega)], fun r => by rw [sgN p, sgN (by omega)]⟩
  · exact absurd (sgZ p) hx
  · rcases (show y < 0 ∨ y = 0 ∨ 0 < y by omega) with q | q | q
    · exact ⟨by omega, fun r => by rw [sgN q, sgN (by omega)], fun r => by rw [sgP p, sgP (by omega)]⟩
    · exact absurd (sgZ q) hy
    · exact absurd (by rw [sgP p, sgP q]) h
theorem lj_neg {x : Int64} (h : x < 0) (hb : -4611686018427387904 < x.toInt) : ∃ j : Nat, j < 4611686018427387904 ∧ -x = lN j ∧ x.toInt = -(j : Int) := by
  have h0 : x.toInt < 0 := Int64.lt_iff_toInt_lt.mp h
  refine ⟨(-x.toInt).toNat, by omega, ?_, by omega⟩
  apply Int64.toInt_inj.mp
  rw [pf_lI (by omega), Int64.toInt_neg]
  have : ((-x.toInt).toNat : Int) = -x.toInt := by omega
  rw [this]
  exact Int.bmod_eq_of_le (by omega) (by omega)
theorem lj_pos {x : Int64} (h : ¬ x < 0) (hb : x.toInt < 4611686018427387904) : ∃ j : Nat, j < 4611686018427387904 ∧ x = lN j ∧ x.toInt = (j : Int) := by
  obtain ⟨j, hj, rfl⟩ := pk_lOf h
  rw [pf_lI hj] at hb
  exact ⟨j, by omega, rfl, pf_lI hj⟩
/-! rows of numbers in one array: 130 limbs, the count, the sign -/
def sh (p : Nat) (f : Nat → Int32) : Nat → Int32 := fun j => f (p + j)
def MR (f : Nat → Int32) (p : Nat) (z : Int) : Prop := ∃ k : Nat, f (p + 130) = nI k ∧ k ≤ 130 ∧ dok 268435456 (sh p f) k ∧ top0 (sh p f) k ∧ f (p + 131) = sg z ∧ z.natAbs = vM (sh p f) k
theorem dok_cg {B : Nat} {f g : Nat → Int32} {K : Nat} (hd : dok B f K) (h : ∀ j, j < K → g j = f j) : dok B g K := fun j hj => by
  rw [dg_cg (h j hj), h j hj]
  exact hd j hj
theorem top_cg {f g : Nat → Int32} {K : Nat} (ht : top0 f K) (h : ∀ j, j < K → g j = f j) : top0 g K := fun hk => by
  rw [dg_cg (h _ (by omega))]
  exact ht hk
theorem hv_cg {B : Nat} {f g : Nat → Int32} {K : Nat} (h : ∀ j, j < K → g j = f j) : hv B (dg g) 0 K = hv B (dg f) 0 K := hv_congr (fun j _ hj => dg_cg (h j (by omega)))
theorem mr_mk {f g : Nat → Int32} {p K : Nat} {z : Int} (hk : K ≤ 130) (hd : dok 268435456 f K) (ht : top0 f K) (hva : z.natAbs = vM f K) (hg : ∀ q, q < K → g (p + q) = f q) (h1 : g (p + 130) = nI K) (h2 : g (p + 131) = sg z) : MR g p z :=
  ⟨K, h1, hk, dok_cg hd hg, top_cg ht hg, h2, by rw [hva]; exact (hv_cg (f := f) (g := sh p g) hg).symm⟩
theorem mn_mk {f g : Nat → Int32} {K : Nat} {z : Int} (hk : K ≤ 300) (hd : dok 268435456 f K) (ht : top0 f K) (hva : z.natAbs = vM f K) (hg : ∀ q, q < K → g q = f q) (h1 : g 300 = nI K) (h2 : g 301 = sg z) : MN g z :=
  ⟨K, h1, hk, dok_cg hd hg, top_cg ht hg, h2, by rw [hva]; exact (hv_cg hg).symm⟩
theorem lt_of_ne {x y : Int32} (h : y ≤ x) (hn : ¬ x = y) : y < x := by
  rcases Int32.le_iff_lt_or_eq.mp h with q | q
  · exact q
  · exact absurd q.symm hn
/-! Worlds of any number of cells: the list va_pl L fm, a cell an address. -/
section POOL
variable {p : Program} {l : Launch} {e : Env} {R : Room} {s : State} {m : MethodId} {args : Array Value} {below : List Frame} {meth : Method} {c : Code} {H H0 H1 : Heap} {locs : List Loc} {cells slots : Nat} {Q : State → Prop}
variable {pc mc ms : Nat} {ls : Array Slot} {rest st0 : List Value} {D : va_G} {cl : List vw_C} {ws wc w1 : va_W} {A A0 : Nat → Prop} {a : Array Value} {L : List Nat} {fm : Nat → va_E}
theorem pl_P : va_P D cl (va_pl L fm) H ↔ ∀ x ∈ L, va_at D cl (x, fm x) H := by
  constructor
  · intro h x hx
    obtain ⟨k, hk⟩ := va_pl_get (X := []) (f := fm) hx
    exact h k _ hk
  · intro h k q hq
    obtain ⟨x, hx, rfl⟩ := List.mem_map.mp (List.mem_of_getElem? hq)
    exact h x hx
theorem pl_A (hD : va_D A (va_pl L fm)) {x : Nat} (h : x ∈ L) : A x := by
  obtain ⟨k, hk⟩ := va_pl_get (X := []) (f := fm) h
  exact hD.2 k _ hk
theorem pl_D (hD : va_D A (va_pl L fm)) (fm' : Nat → va_E) : va_D A (va_pl L fm') := by
  have at' : ∀ (i : Nat) (q : Nat × va_E), (va_pl L fm')[i]? = some q → (va_pl L fm)[i]? = some (q.1, fm q.1) := by
    intro i q h
    unfold va_pl at h ⊢
    rw [List.getElem?_map] at h ⊢
    cases hi : L[i]? with
    | none => rw [hi] at h; cases h
    | some x =>
      rw [hi] at h
      cases h
      rfl
  exact ⟨fun i j u v h1 h2 h3 => hD.1 i j _ _ (at' i u h1) (at' j v h2) h3, fun k q h => (show A (q.1, fm q.1).1 from hD.2 k (q.1, fm q.1) (at' k q h))⟩
/-- a cell of the pool -/
def pin (L : List Nat) (fm : Nat → va_E) (q : Nat × va_E) : Prop := q.1 ∈ L ∧ fm q.1 = q.2
def pins (L : List Nat) (fm : Nat → va_E) (ws : va_W) : Prop := ∀ q ∈ ws, pin L fm q
theorem pins_0 : pins L fm [] := fun _ h => nomatch h
theorem pins_s {q : Nat × va_E} (h : pin L fm q) (hr : pins L fm ws) : pins L fm (q :: ws) := fun r hm => by
  rcases List.mem_cons.mp hm with z | z
  · rw [z]; exact h
  · exact hr r z
theorem pl_sub (hP : va_P D cl (va_pl L fm) H) (h : pins L fm ws) : va_P D cl ws H := fun k q hq => by
  obtain ⟨h1, h2⟩ := h q (List.mem_of_getElem? hq)
  have := pl_P.mp hP q.1 h1
  rw [h2] at this
  exact this
theorem nd_inj {ws : va_W} (hn : (ws.map Prod.fst).Nodup) {i j : Nat} {u v : Nat × va_E} (h1 : ws[i]? = some u) (h2 : ws[j]? = some v) (h3 : u.1 = v.1) : i = j := by
  have e1 : (ws.map Prod.fst)[i]? = some u.1 := by rw [List.getElem?_map, h1]; rfl
  have e2 : (ws.map Prod.fst)[j]? = some u.1 := by rw [List.getElem?_map, h2, h3]; rfl
  exact (List.getElem?_inj (List.getElem?_eq_some_iff.mp e1).1 hn).mp (e1.trans e2.symm)
theorem pl_subD (hD : va_D A (va_pl L fm)) (h : pins L fm ws) (hn : (ws.map Prod.fst).Nodup) : va_D A ws :=
  ⟨fun i j u v h1 h2 h3 => nd_inj hn h1 h2 h3, fun k q hq => pl_A hD (h q (List.mem_of_getElem? hq)).1⟩
/-- the pool behind a call that wrote some of its cells -/
def upl (fm : Nat → va_E) : va_W → Nat → va_E
  | [] => fm
  | q :: r => va_up (upl fm r) q.1 q.2
theorem upl_out {x : Nat} : ∀ {ws : va_W}, (∀ q ∈ ws, x ≠ q.1) → upl fm ws x = fm x
  | [], _ => rfl
  | q :: r, h => by
    show va_up _ _ _ _ = _
    rw [va_up_ne _ _ (h q List.mem_cons_self)]
    exact upl_out (fun z hz => h z (List.mem_cons_of_mem _ hz))
theorem upl_in : ∀ {ws : va_W} {q : Nat × va_E}, (ws.map Prod.fst).Nodup → q ∈ ws → upl fm ws q.1 = q.2
  | [], _, _, h => nomatch h
  | r :: ws, q, hn, h => by
    rw [List.map_cons, List.nodup_cons] at hn
    show va_up _ _ _ _ = _
    rcases List.mem_cons.mp h with z | z
    · rw [z, va_up_self]
    · have : q.1 ≠ r.1 := fun y => hn.1 (by rw [← y]; exact List.mem_map.mpr ⟨q, z, rfl⟩)
      rw [va_up_ne _ _ this]
      exact upl_in hn.2 z
theorem pl_join (hP : va_P D cl (va_pl L fm) H) (hk : ∀ q : Nat, q < H.size → ¬ va_A wc H.size q → H1[q]? = H[q]?) (hc : ∀ q ∈ wc, ∃ r ∈ w1, r.1 = q.1) (hn : (w1.map Prod.fst).Nodup) (hP1 : va_P D cl w1 H1) : va_P D cl (va_pl L (upl fm w1)) H1 := by
  rw [pl_P]
  intro x hx
  have h0 := pl_P.mp hP x hx
  by_cases h : ∃ r ∈ w1, r.1 = x
  · obtain ⟨r, hr, rfl⟩ := h
    rw [upl_in hn hr]
    obtain ⟨k, hk2⟩ := List.getElem?_of_mem hr
    exact hP1 k _ hk2
  · rw [upl_out (fun q hq z => h ⟨q, hq, z.symm⟩)]
    refine h0.kept (hk x h0.lt (fun z => ?_))
    rcases z with ⟨k, e0, z⟩ | z
    · obtain ⟨r, hr, hr2⟩ := hc _ (List.mem_of_getElem? z)
      exact h ⟨r, hr, hr2⟩
    · exact absurd h0.lt (by show ¬ x < _; omega)
theorem pl_free (hD : va_D A0 (va_pl L fm)) (hS : va_S A0 H0 H locs) (hA : ∀ q, H0.size ≤ q → A0 q) (h : pins L fm wc) : ∀ q, va_A wc H.size q → A0 q := fun q z => by
  rcases z with ⟨k, e0, z⟩ | z
  · exact pl_A hD (h _ (List.mem_of_getElem? z)).1
  · exact hA q (Nat.le_trans hS.1 z)
/-- a call whose cells lie in the pool -/
theorem pg_v {S : Type} {post : S → Prop} {WP : S → va_W} (hP : va_P D cl (va_pl L fm) H) (hD : va_D A0 (va_pl L fm)) (hS : va_S A0 H0 H locs) (hA : ∀ q, H0.size ≤ q → A0 q) (hc : pins L fm wc) (hn : ∀ u, ((WP u).map Prod.fst).Nodup) (hw : ∀ u, ∀ q ∈ wc, ∃ r ∈ WP u, r.1 = q.1)
    (hr : va_Run p l e R s m args below meth c H locs cells slots mc ms (F0 m pc ls st0) rest (va_Qv post (BW D cl (va_A wc H.size) WP) (va_A wc H.size) a) (va_A wc H.size))
    (kk : ∀ (u : S) (H1 : Heap) (locs1 : List Loc), post u → va_P D cl (va_pl L (upl fm (WP u))) H1 → va_D A0 (va_pl L (upl fm (WP u))) → va_S A0 H0 H1 locs1 → W p l e R s m args below meth c H1 locs1 (cells + mc) (slots + ms) Q (F0 m (pc + 3) ls rest)) :
    W p l e R s m args below meth c H locs cells slots Q (F0 m pc ls st0) := by
  have hF := pl_free hD hS hA hc
  refine va_callv hr hS (fun q _ h => hF q h) hF (fun u t H1 locs1 ht hvm hp hB hz1 hk1 hS1 => ?_)
  obtain ⟨hP1, hD1⟩ := hB
  rw [ht] at hP1
  exact kk u H1 locs1 hp (pl_join hP hk1 (hw u) (hn u) hP1) (pl_D hD _) hS1
theorem pg_i {S : Type} {post : Int32 → S → Prop} {WP : S → va_W} (hP : va_P D cl (va_pl L fm) H) (hD : va_D A0 (va_pl L fm)) (hS : va_S A0 H0 H locs) (hA : ∀ q, H0.size ≤ q → A0 q) (hc : pins L fm wc) (hn : ∀ u, ((WP u).map Prod.fst).Nodup) (hw : ∀ u, ∀ q ∈ wc, ∃ r ∈ WP u, r.1 = q.1)
    (hr : va_Run p l e R s m args below meth c H locs cells slots mc ms (F0 m pc ls st0) rest (va_Qi post (BW D cl (va_A wc H.size) WP) (va_A wc H.size) a) (va_A wc H.size))
    (kk : ∀ (r : Int32) (u : S) (H1 : Heap) (locs1 : List Loc), post r u → va_P D cl (va_pl L (upl fm (WP u))) H1 → va_D A0 (va_pl L (upl fm (WP u))) → va_S A0 H0 H1 locs1 → W p l e R s m args below meth c H1 locs1 (cells + mc) (slots + ms) Q (F0 m (pc + 3) ls (.int r :: rest))) :
    W p l e R s m args below meth c H locs cells slots Q (F0 m pc ls st0) := by
  have hF := pl_free hD hS hA hc
  refine va_calli hr hS (fun q _ h => hF q h) hF (fun r u t H1 locs1 ht hvm hp hB hz1 hk1 hS1 => ?_)
  obtain ⟨hP1, hD1⟩ := hB
  rw [ht] at hP1
  exact kk r u H1 locs1 hp (pl_join hP hk1 (hw u) (hn u) hP1) (pl_D hD _) hS1
end POOL
