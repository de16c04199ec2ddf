/-! Training: loops that make cells; what the class has between two rounds. -/
section LPC
variable {p : Program} {l : Launch} {e : Env} {R : Room} {s : State} {m : MethodId} {args : Array Value} {below : List Frame} {meth : Method} {c : Code} {H0 : Heap} {Q : State → Prop} {D : va_G} {cl : List vw_C} {A : Nat → Prop} {nL : Nat}
/-- a loop that makes cells: how many were made at most is a function of where it is -/
theorem lp_wc {α : Type} (I : α → Prop) (mu : α → Nat) (L : α → List (Nat × Value)) (ws : α → va_W) (cf sf : α → Nat) (pc : Nat)
    (step : ∀ a, I a → (∀ b, I b → mu b < mu a → ∀ (ls : Array Slot) (H : Heap) (locs : List Loc), lv_has ls nL (L b) → va_P D cl (ws b) H → va_D A (ws b) → va_S A H0 H locs → W p l e R s m args below meth c H locs (cf b) (sf b) Q (F0 m pc ls [])) →
      ∀ (ls : Array Slot) (H : Heap) (locs : List Loc), lv_has ls nL (L a) → va_P D cl (ws a) H → va_D A (ws a) → va_S A H0 H locs → W p l e R s m args below meth c H locs (cf a) (sf a) Q (F0 m pc ls []))
    (a : α) (ha : I a) {ls : Array Slot} {H : Heap} {locs : List Loc} (hl : lv_has ls nL (L a)) (hP : va_P D cl (ws a) H) (hD : va_D A (ws a)) (hS : va_S A H0 H locs) :
    W p l e R s m args below meth c H locs (cf a) (sf a) Q (F0 m pc ls []) := by
  suffices h : ∀ n a, mu a < n → I a → ∀ (ls : Array Slot) (H : Heap) (locs : List Loc), lv_has ls nL (L a) → va_P D cl (ws a) H → va_D A (ws a) → va_S A H0 H locs → W p l e R s m args below meth c H locs (cf a) (sf a) Q (F0 m pc ls []) from
    h (mu a + 1) a (Nat.lt_succ_self _) ha ls H locs hl hP hD hS
  intro n
  induction n with
  | zero => intro a h; exact absurd h (Nat.not_lt_zero _)
  | succ n ih =>
    intro a h ha
    exact step a ha (fun b hb hm => ih b (by omega) hb)
end LPC
theorem cmd_le {n : Nat} {X : Nat → Int} {P d : Nat} (hP : 0 < P) (h : CMD n X P d) : d ≤ P := by
  obtain ⟨hs, zs, h1, h2⟩ := h
  obtain ⟨g2, e2, h3⟩ := crd_g hs h2
  subst e2
  exact Nat.le_of_dvd hP (com_dvd h1 h3)
/-- a sum -/
def SM (f : Nat → Nat) : Nat → Nat
  | 0 => 0
  | k + 1 => SM f k + f k
theorem sm_hi {f : Nat → Nat} {t v : Nat} : ∀ k, k ≤ t → SM (va_up f t v) k = SM f k
  | 0, _ => rfl
  | k + 1, h => by
    show SM (va_up f t v) k + va_up f t v k = SM f k + f k
    rw [sm_hi k (by omega), va_up_ne _ _ (by omega)]
theorem sm_up {f : Nat → Nat} {t v : Nat} : ∀ k, t < k → SM (va_up f t v) k + f t = SM f k + v
  | 0, h => absurd h (by omega)
  | k + 1, h => by
    show SM (va_up f t v) k + va_up f t v k + f t = SM f k + f k + v
    by_cases q : t = k
    · subst q
      rw [sm_hi t (Nat.le_refl _), va_up_self]
      omega
    · have ih := sm_up (f := f) (t := t) (v := v) k (by omega)
      rw [va_up_ne _ _ (by omega)]
      omega
/-- how many nodes of each tree are made, after k rounds -/
def mkr (F : TFR) (T n w lst dpt wd ru rl : Nat) (vv eg ik : Nat → Int32) (ne : Nat → Nat) (chb : Int32) (AA : Int64) (tg : Nat → Int32) (mk : Nat → Nat) : Nat → Nat → Nat
  | 0 => mk
  | k + 1 => va_up (mkr F T n w lst dpt wd ru rl vv eg ik ne chb AA tg mk k) (T + k) (max (mkr F T n w lst dpt wd ru rl vv eg ik ne chb AA tg mk k (T + k)) (tM (rds F T n w lst dpt wd ru rl vv eg ik ne chb AA tg (k + 1)) (T + k)))
theorem mkr_m {F : TFR} {T n w lst dpt wd ru rl : Nat} {vv eg ik : Nat → Int32} {ne : Nat → Nat} {chb : Int32} {AA : Int64} {tg : Nat → Int32} {mk : Nat → Nat} {i : Nat} : ∀ j, i ≤ j → T + j ≤ 16 → SM (mkr F T n w lst dpt wd ru rl vv eg ik ne chb AA tg mk i) 16 ≤ SM (mkr F T n w lst dpt wd ru rl vv eg ik ne chb AA tg mk j) 16
  | 0, h, _ => by rw [show i = 0 by omega]; exact Nat.le_refl _
  | j + 1, h, hT => by
    by_cases q : i = j + 1
    · rw [q]; exact Nat.le_refl _
    · have ih := mkr_m (F := F) (T := T) (n := n) (w := w) (lst := lst) (dpt := dpt) (wd := wd) (ru := ru) (rl := rl) (vv := vv) (eg := eg) (ik := ik) (ne := ne) (chb := chb) (AA := AA) (tg := tg) (mk := mk) (i := i) j (by omega) (by omega)
      have := sm_up (f := mkr F T n w lst dpt wd ru rl vv eg ik ne chb AA tg mk j) (t := T + j) (v := max (mkr F T n w lst dpt wd ru rl vv eg ik ne chb AA tg mk j (T + j)) (tM (rds F T n w lst dpt wd ru rl vv eg ik ne chb AA tg (j + 1)) (T + j))) 16 (by omega)
      show _ ≤ SM (va_up _ _ _) 16
      omega
/-- what the class has between two rounds -/
def TRV (cT : Nat → ClassId) (ad : Nat → Nat) (g : Nat → Option va_E) (tE T fm : Nat) (mk : Nat → Nat) (F : TFR) (n wd : Nat) (vv vq eg ik : Nat → Int32) (ne : Nat → Nat) (tg : Nat → Int32) (dpt lst w ru rl : Nat) (psb : Int64) (pcb : Int32) : Prop :=
  g 0 = some (eOB ad (nI T)) ∧ TGp cT g n tg ∧ FST cT ad g tE fm mk ∧ TRS cT ad g F T ∧ (∃ zs, GRB cT ad g n zs XBc vv vq eg ik ne dpt lst w (nI ru) (nI rl) psb pcb wd) ∧ (∃ z, WHO cT ad g 50 51 24 z) ∧ ∃ z, WHO cT ad g 52 53 24 z
theorem GRB.rs {cT : Nat → ClassId} {ad : Nat → Nat} {g g2 : Nat → Option va_E} {n : Nat} {zs zs2 : Nat → Int} {XB : Nat} {vv vq eg ik : Nat → Int32} {ne : Nat → Nat} {dpt lst w : Nat} {pu pq9 : Int32} {psb : Int64} {pcb : Int32} {wd : Nat} (h : GRB cT ad g n zs XB vv vq eg ik ne dpt lst w pu pq9 psb pcb wd) (hg : ∀ x, (x < 100 ∨ 200 ≤ x) → x ≠ 0 → x ≠ 50 → x ≠ 51 → x ≠ 52 → x ≠ 53 → g2 x = g x) (hr : RSp cT ad g2 n zs2) : GRB cT ad g2 n zs2 XB vv vq eg ik ne dpt lst w pu pq9 psb pcb wd := by
  obtain ⟨h1, h2, h3, h4, h5, h6, h7, h8, ⟨fo, h9⟩, b9, t9, cs, ik0, i1, i2, i3⟩ := h
  have G : ∀ x, (x < 50 ∨ (53 < x ∧ x < 100) ∨ 200 ≤ x) → x ≠ 0 → g2 x = g x := fun x hx h0 => hg x (by omega) h0 (by omega) (by omega) (by omega) (by omega)
  refine ⟨(G _ (by omega) (by omega)).trans h1, hr, h3.cg (G _ (by omega) (by omega)), h4.cg (fun x x1 x2 => G x (by omega) (by omega)), (G _ (by omega) (by omega)).trans h5, ?_, h7.cg (fun x x1 x2 => G x (by omega) (by omega)), fun j hj => ?_, ⟨fo, (G _ (by omega) (by omega)).trans h9⟩, b9, t9, cs, ik0, (G _ (by omega) (by omega)).trans i1, i2, i3.cg i2 (fun x x1 x2 => G x (by omega) (by omega))⟩
  · obtain ⟨qf, e1, e2⟩ := h6
    exact ⟨qf, (G _ (by omega) (by omega)).trans e1, e2⟩
  · obtain ⟨r, z, e⟩ := h8 j hj
    exact ⟨r, z, e.cg (G _ (by omega) (by omega)) (G _ (by omega) (by omega)) (G _ (by omega) (by omega))⟩
/-- bounds of the class's numbers, as its search needs them -/
theorem xbc_9 : 49 * XBc < 1000000000 ^ 24 ∧ 48 * XBc * 2 < 1000000000 ^ 24 ∧ 48 * XBc * (48 * XBc) * 68 * 2 < 1000000000 ^ 48 ∧ 48 * XBc * (48 * XBc) * 136 * 4624 < 1000000000 ^ 48 ∧ 48 * XBc * 100 < 1000000000 ^ 48 := by decide +kernel
/-- the tree that was grown, as settle needs it -/
theorem grown {cT : Nat → ClassId} {ad : Nat → Nat} {g : Nat → Option va_E} {tE m2 : Nat} {F : TFR} {T n w lst dpt wd ru rl : Nat} {vv eg ik : Nat → Int32} {ne : Nat → Nat} {chb : Int32} {AA : Int64} {tg : Nat → Int32} (hm : TMD cT ad g tE T m2) (h0 : 0 < (grw F T (xR F vv tg T) n w lst dpt wd vv eg ik ne chb AA).2.1) (hk : (grw F T (xR F vv tg T) n w lst dpt wd vv eg ik ne chb AA).2.1 ≤ m2)
    (hN : NDS cT ad g (grw F T (xR F vv tg T) n w lst dpt wd vv eg ik ne chb AA) T (xR F vv tg T) n 0 (grw F T (xR F vv tg T) n w lst dpt wd vv eg ik ne chb AA).2.1) :
    ∃ m, LSp cT ad g T m ∧ tM (rd1 F T n w lst dpt wd ru rl vv eg ik ne chb AA tg) T ≤ m ∧ m ≤ 31 ∧ ∀ k, k < tM (rd1 F T n w lst dpt wd ru rl vv eg ik ne chb AA tg) T → NDp ad g (tA (rd1 F T n w lst dpt wd ru rl vv eg ik ne chb AA tg)) T k ∧ WHO cT ad g (3000 + 32 * T + k) (4000 + 32 * T + k) 24 (tS (rd1 F T n w lst dpt wd ru rl vv eg ik ne chb AA tg) T k) := by
  have e1 : tM (rd1 F T n w lst dpt wd ru rl vv eg ik ne chb AA tg) T = (grw F T (xR F vv tg T) n w lst dpt wd vv eg ik ne chb AA).2.1 := va_up_self _ _ _
  have e2 : tS (rd1 F T n w lst dpt wd ru rl vv eg ik ne chb AA tg) T = fun k => smv (xR F vv tg T) ((grw F T (xR F vv tg T) n w lst dpt wd vv eg ik ne chb AA).2.2 k) n := va_up_self _ _ _
  rw [e1, e2]
  obtain ⟨l1, l2, _, _⟩ := hm
  exact ⟨m2, l1.full (by omega), hk, l2, fun k hk => hN k (Nat.zero_le _) hk⟩
/-- and the trees before it -/
theorem TRp.feq {cT : Nat → ClassId} {ad : Nat → Nat} {g : Nat → Option va_E} {F F' : TFR} {T t : Nat} (h : TRp cT ad g F t) (hF : FEQ F F' T) (ht : t < T) (hm : tM F t ≤ 31) : TRp cT ad g F' t := by
  obtain ⟨e1, e2, e3, e4, e5⟩ := hF.1 t ht
  obtain ⟨m, a1, a2, a3, a4, a5⟩ := h
  refine ⟨m, ?_, a2, by rw [e1]; exact a3, a4, fun k hk => ?_⟩
  · rw [e1, e3, e4, e5, sca_eq hF ht hm]; exact a1
  · rw [e1] at hk
    obtain ⟨b1, b2⟩ := a5 k hk
    refine ⟨b1.cg rfl rfl (fun f hf => ?_), by rw [e2]; exact b2⟩
    obtain ⟨o0, o1, o2, o3, o4, o5, o6, o7⟩ := hF.2 (31 * t + k) (by omega)
    match f, hf with
    | 0, _ => exact o0
    | 1, _ => exact o1
    | 2, _ => exact o2
    | 3, _ => exact o3
    | 4, _ => exact o4
    | 5, _ => exact o5
    | 6, _ => exact o6
    | 7, _ => exact o7
