/-! Training: loops that make cells; what the class has between two rounds. -/
section LPC
variable {p : Program} {l : Launch} {e : Env} {R : Room} {s : State} {m : MethodId} {args : Array Value} {below : List Frame} {meth : Method} {c : Code} {H0 : Heap} {Q : State → Prop} {D : va_G} {cl : List vw_C} {A : Nat → Prop} {nL : Nat}
/-- a loop that makes cells: how many were made at most is a function of where it is -/
theorem lp_wc {α : Type} (I : α → Prop) (mu : α → Nat) (L : α → List (Nat × Value)) (ws : α → va_W) (cf sf : α → Nat) (pc : Nat)
    (step : ∀ a, I a → (∀ b, I b → mu b < mu a → ∀ (ls : Array Slot) (H : Heap) (locs : List Loc), lv_has ls nL (L b) → va_P D cl (ws b) H → va_D A (ws b) → va_S A H0 H locs → W p l e R s m args below meth c H locs (cf b) (sf b) Q (F0 m pc ls [])) →
      ∀ (ls : Array Slot) (H : Heap) (locs : List Loc), lv_has ls nL (L a) → va_P D cl (ws a) H → va_D A (ws a) → va_S A H0 H locs → W p l e R s m args below meth c H locs (cf a) (sf a) Q (F0 m pc ls []))
    (a : α) (ha : I a) {ls : Array Slot} {H : Heap} {locs : List Loc} (hl : lv_has ls nL (L a)) (hP : va_P D cl (ws a) H) (hD : va_D A (ws a)) (hS : va_S A H0 H locs) :
    W p l e R s m args below meth c H locs (cf a) (sf a) Q (F0 m pc ls []) := by
  suffices h : ∀ n a, mu a < n → I a → ∀ (ls : Array Slot) (H : Heap) (locs : List Loc), lv_has ls nL (L a) → va_P D cl (ws a) H → va_D A (ws a) → va_S A H0 H locs → W p l e R s m args below meth c H locs (cf a) (sf a) Q (F0 m pc ls []) from
    h (mu a + 1) a (Nat.lt_succ_self _) ha ls H locs hl hP hD hS
  intro n
  induction n with
  | zero => intro a h; exact absurd h (Nat.not_lt_zero _)
  | succ n ih =>
    intro a h ha
    exact step a ha (fun b hb hm => ih b (by omega) hb)
end LPC
theorem cmd_le {n : Nat} {X : Nat → Int} {P d : Nat} (hP : 0 < P) (h : CMD n X P d) : d ≤ P := by
  obtain ⟨hs, zs, h1, h2⟩ := h
  obtain ⟨g2, e2, h3⟩ := crd_g hs h2
  subst e2
  exact Nat.le_of_dvd hP (com_dvd h1 h3)
/-- a sum -/
def SM (f : Nat → Nat) : Nat → Nat
  | 0 => 0
  | k + 1 => SM f k + f k
theorem sm_hi {f : Nat → Nat} {t v : Nat} : ∀ k, k ≤ t → SM (va_up f t v) k = SM f k
  | 0, _ => rfl
  | k + 1, h => by
    show SM (va_up f t v) k + va_up f t v k = SM f k + f k
    rw [sm_hi k (by omega), va_up_ne _ _ (by omega)]
theorem sm_up {f : Nat → Nat} {t v : Nat} : ∀ k, t < k → SM (va_up f t v) k + f t = SM f k + v
  | 0, h => absurd h (by omega)
  | k + 1, h => by
    show SM (va_up f t v) k + va_up f t v k + f t = SM f k + f k + v
    by_cases q : t = k
    · subst q
      rw [sm_hi t (Nat.le_refl _), va_up_self]
      omega
    · have ih := sm_up (f := f) (t := t) (v := v) k (by omega)
      rw [va_up_ne _ _ (by omega)]
      omega
/-- how many nodes of each tree are made, after k rounds -/
def mkr (F : TFR) (T n w lst dpt wd ru rl : Nat) (vv eg ik : Nat → Int32) (ne : Nat → Nat) (chb : Int32) (AA : Int64) (tg : Nat → Int32) (mk : Nat → Nat) : Nat → Nat → Nat
  | 0 => mk
  | k + 1 => va_up (mkr F T n w lst dpt wd ru rl vv eg ik ne chb AA tg mk k) (T + k) (max (mkr F T n w lst dpt wd ru rl vv eg ik ne chb AA tg mk k (T + k)) (tM (rds F T n w lst dpt wd ru rl vv eg ik ne chb AA tg (k + 1)) (T + k)))
theorem mkr_m {F : TFR} {T n w lst dpt wd ru rl : Nat} {vv eg ik : Nat → Int32} {ne : Nat → Nat} {chb : Int32} {AA : Int64} {tg : Nat → Int32} {mk : Nat → Nat} {i : Nat} : ∀ j, i ≤ j → T + j ≤ 16 → SM (mkr F T n w lst dpt wd ru rl vv eg ik ne chb AA tg mk i) 16 ≤ SM (mkr F T n w lst dpt wd ru rl vv eg ik ne chb AA tg mk j) 16
  | 0, h, _ => by rw [show i = 0 by omega]; exact Nat.le_refl _
  | j + 1, h, hT => by
    by_cases q : i = j + 1
    · rw [q]; exact Nat.le_refl _
    · have ih := mkr_m (F := F) (T := T) (n := n) (w := w) (lst := lst) (dpt := dpt) (wd := wd) (ru := ru) (rl := rl) (vv := vv) (eg := eg) (ik := ik) (ne := ne) (chb := chb) (AA := AA) (tg := tg) (mk := mk) (i := i) j (by omega) (by omega)
      have := sm_up (f := mkr F T n w lst dpt wd ru rl vv eg ik ne chb AA tg mk j) (t := T + j) (v := max (mkr F T n w lst dpt wd ru rl vv eg ik ne chb AA tg mk j (T + j)) (tM (rds F T n w lst dpt wd ru rl vv eg ik ne chb AA tg (j + 1)) (T + j))) 16 (by omega)
      show _ ≤ SM (va_up _ _ _) 16
      omega
/-- what the class has between two rounds -/
def TRV (cT : Nat → ClassId) (ad : Nat → Nat) (g : Nat → Option va_E) (tE T fm : Nat) (mk : Nat → Nat) (F : TFR) (n wd : Nat) (vv vq eg ik : Nat → Int32) (ne : Nat → Nat) (tg : Nat → Int32) (dpt lst w ru rl : Nat) (psb : Int64) (pcb : Int32) : Prop :=
  g 0 = some (eOB ad (nI T)) ∧ TGp cT g n tg ∧ FST cT ad g tE fm mk ∧ TRS cT ad g F T ∧ (∃ zs, GRB cT ad g n zs XBc vv vq eg ik ne dpt lst w (nI ru) (nI rl) psb pcb wd) ∧ (∃ z, WHO cT ad g 50 51 24 z) ∧ ∃ z, WHO cT ad g 52 53 24 z
theorem GRB.rs {cT : Nat → ClassId} {ad : Nat → Nat} {g g2 : Nat → Option va_E} {n : Nat} {zs zs2 : Nat → Int} {XB : Nat} {vv vq eg ik : Nat → Int32} {ne : Nat → Nat} {dpt lst w : Nat} {pu pq9 : Int32} {psb : Int64} {pcb : Int32} {wd : Nat} (h : GRB cT ad g n zs XB vv vq eg ik ne dpt lst w pu pq9 psb pcb wd) (hg : ∀ x, (x < 100 ∨ 200 ≤ x) → x ≠ 0 → x ≠ 50 → x ≠ 51 → x ≠ 52 → x ≠ 53 → g2 x = g x) (hr : RSp cT ad g2 n zs2) : GRB cT ad g2 n zs2 XB vv vq eg ik ne dpt lst w pu pq9 psb pcb wd := by
  obtain ⟨h1, h2, h3, h4, h5, h6, h7, h8, ⟨fo, h9⟩, b9, t9, cs, i1, i2, i3⟩ := h
  have G : ∀ x, (x < 50 ∨ (53 < x ∧ x < 100) ∨ 200 ≤ x) → x ≠ 0 → g2 x = g x := fun x hx h0 => hg x (by omega) h0 (by omega) (by omega) (by omega) (by omega)
  refine ⟨(G _ (by omega) (by omega)).trans h1, hr, h3.cg (G _ (by omega) (by omega)), h4.cg (fun x x1 x2 => G x (by omega) (by omega)), (G _ (by omega) (by omega)).trans h5, ?_, h7.cg (fun x x1 x2 => G x (by omega) (by omega)), fun j hj => ?_, ⟨fo, (G _ (by omega) (by omega)).trans h9⟩, b9, t9, cs, (G _ (by omega) (by omega)).trans i1, i2, i3.cg i2 (fun x x1 x2 => G x (by omega) (by omega))⟩
  · obtain ⟨qf, e1, e2⟩ := h6
    exact ⟨qf, (G _ (by omega) (by omega)).trans e1, e2⟩
  · obtain ⟨r, z, e⟩ := h8 j hj
    exact ⟨r, z, e.cg (G _ (by omega) (by omega)) (G _ (by omega) (by omega)) (G _ (by omega) (by omega))⟩
/-- bounds of the class's numbers, as its search needs them -/
theorem xbc_9 : 49 * XBc < 1000000000 ^ 24 ∧ 48 * XBc * 2 < 1000000000 ^ 24 ∧ 48 * XBc * (48 * XBc) * 68 * 2 < 1000000000 ^ 48 ∧ 48 * XBc * (48 * XBc) * 136 * 4624 < 1000000000 ^ 48 ∧ 48 * XBc * 100 < 1000000000 ^ 48 := by decide +kernel
/-- the tree that was grown, as settle needs it -/
theorem grown {cT : Nat → ClassId} {ad : Nat → Nat} {g : Nat → Option va_E} {tE m2 : Nat} {F : TFR} {T n w lst dpt wd ru rl : Nat} {vv eg ik : Nat → Int32} {ne : Nat → Nat} {chb : Int32} {AA : Int64} {tg : Nat → Int32} (hm : TMD cT ad g tE T m2) (h0 : 0 < (grw F T (xR F vv tg T) n w lst dpt wd vv eg ik ne chb AA).2.1) (hk : (grw F T (xR F vv tg T) n w lst dpt wd vv eg ik ne chb AA).2.1 ≤ m2)
    (hN : NDS cT ad g (grw F T (xR F vv tg T) n w lst dpt wd vv eg ik ne chb AA) T (xR F vv tg T) n 0 (grw F T (xR F vv tg T) n w lst dpt wd vv eg ik ne chb AA).2.1) :
    ∃ m, LSp cT ad g T m ∧ tM (rd1 F T n w lst dpt wd ru rl vv eg ik ne chb AA tg) T ≤ m ∧ m ≤ 31 ∧ ∀ k, k < tM (rd1 F T n w lst dpt wd ru rl vv eg ik ne chb AA tg) T → NDp ad g (tA (rd1 F T n w lst dpt wd ru rl vv eg ik ne chb AA tg)) T k ∧ WHO cT ad g (3000 + 32 * T + k) (4000 + 32 * T + k) 24 (tS (rd1 F T n w lst dpt wd ru rl vv eg ik ne chb AA tg) T k) := by
  have e1 : tM (rd1 F T n w lst dpt wd ru rl vv eg ik ne chb AA tg) T = (grw F T (xR F vv tg T) n w lst dpt wd vv eg ik ne chb AA).2.1 := va_up_self _ _ _
  have e2 : tS (rd1 F T n w lst dpt wd ru rl vv eg ik ne chb AA tg) T = fun k => smv (xR F vv tg T) ((grw F T (xR F vv tg T) n w lst dpt wd vv eg ik ne chb AA).2.2 k) n := va_up_self _ _ _
  rw [e1, e2]
  obtain ⟨l1, l2, _, _⟩ := hm
  exact ⟨m2, l1.full (by omega), hk, l2, fun k hk => hN k (Nat.zero_le _) hk⟩
/-- and the trees before it -/
theorem TRp.feq {cT : Nat → ClassId} {ad : Nat → Nat} {g : Nat → Option va_E} {F F' : TFR} {T t : Nat} (h : TRp cT ad g F t) (hF : FEQ F F' T) (ht : t < T) (hm : tM F t ≤ 31) : TRp cT ad g F' t := by
  obtain ⟨e1, e2, e3, e4, e5⟩ := hF.1 t ht
  obtain ⟨m, a1, a2, a3, a4, a5⟩ := h
  refine ⟨m, ?_, a2, by rw [e1]; exact a3, a4, fun k hk => ?_⟩
  · rw [e1, e3, e4, e5, sca_eq hF ht hm]; exact a1
  · rw [e1] at hk
    obtain ⟨b1, b2⟩ := a5 k hk
    refine ⟨b1.cg rfl rfl (fun f hf => ?_), by rw [e2]; exact b2⟩
    obtain ⟨o0, o1, o2, o3, o4, o5, o6, o7⟩ := hF.2 (31 * t + k) (by omega)
    match f, hf with
    | 0, _ => exact o0
    | 1, _ => exact o1
    | 2, _ => exact o2
    | 3, _ => exact o3
    | 4, _ => exact o4
    | 5, _ => exact o5
    | 6, _ => exact o6
    | 7, _ => exact o7
set_option maxHeartbeats 4000000 in
set_option maxRecDepth 100000 in
theorem k_colBits (l : Launch) (D : va_G) (cT : Nat → ClassId) (t : Nat) (ca : Nat) (ta : Nat) (w : Int32) (r : Int32) : Met l yT_columnBits WT_columnBits ({ frames := 0, cells := 0, slots := 0, locals := 0 } : Room) (RO D vwCl [.ref t] [(t, .inr (2, [.ref ca, .ref ta, .int w, .int r]))] (TY cT)) (QcRead (((1 : Int32) <<< (w &&& 31)) - 1)) 0 0 (fun _ => False) := by
  refine Met.ofW (cc := cT_columnBits) (maxL := 1) (ret := (some .int)) (by decide) rfl ?_
  intro p e s m args below meth c s₁ B hml hv
  obtain ⟨rfl, hZ, hP, hK⟩ := hv
  have hx := B.exec
  have hb := B.bytes
  have hr := B.returns
  have hts := atoms_spec (ws := WT_columnBits) B.pre
  have hT : ∀ w ∈ TB, w.before _ s = true := fun w h => hts w (List.mem_cons_of_mem _ h)
  have hown : s.vm.findClass R_T = some m.cls := findClass_of_methodNamed B.named
  have hlocks := B.notSynchronized
  have hS : va_S (fun _ => False) s.heap s.heap [] := va_S.rf
  have hl := lv_entry ([.ref t]) (n := 1) (Nat.le_of_ble_eq_true rfl)
  rw [lg_entry_eq]
  generalize (lg_sl ([.ref t]) ++ List.replicate (1 - (lg_sl ([.ref t])).length) Slot.unset).toArray = ls at hl ⊢
  have hl : lv_has ls 1 [(0, .ref t)] := hl
  refine lv_iconst (v := 1) hx hb dT_columnBits_0 (by decide) ?_
  refine lv_aload_n hx hb dT_columnBits_1 rfl (lv_at hl 0 rfl) ?_
  refine va_get (D := D) (ci := 2) (v := .int w) (C := R_T) (T := T_T) (N := 4) hx hb hT in_T hown hK hP 0 rfl rfl 2 (by decide) (hT _ w78) (fun _ h9 => h9) rfl dT_columnBits_2 ?_
  refine lv_ishl hx hb dT_columnBits_5 ?_
  refine lv_iconst (v := 1) hx hb dT_columnBits_6 (by decide) ?_
  refine lv_isub hx hb dT_columnBits_7 ?_
  exact W.iret (v := (1 <<< (w &&& 31)) - 1) hx hb hr (fun t9 ht9 hW9 => ⟨rfl, ht9⟩) (fun q h => nomatch h) dT_columnBits_8
set_option maxHeartbeats 4000000 in
set_option maxRecDepth 100000 in
theorem k_train (l : Launch) (D : va_G) (cT : Nat → ClassId) (cds : List Nat) (ad : Nat → Nat) (gg : Nat → Option va_E) (tE : Nat) (mE : Nat) (T : Nat) (fm : Nat) (mk : Nat → Nat) (F : TFR) (n : Nat) (wd : Nat) (vv : Nat → Int32) (vq : Nat → Int32) (eg : Nat → Int32) (ik : Nat → Int32) (ne : Nat → Nat) (tg : Nat → Int32) (dpt : Nat) (lst : Nat) (w : Nat) (ru : Nat) (rl : Nat) (psb : Int64) (pcb : Int32) (rr : Nat) (hcd : CD cds) (hTV : TRV cT ad gg tE T fm mk F n wd vv vq eg ik ne tg dpt lst w ru rl psb pcb) (hTf : T ≤ fm) (hTr : T + rr ≤ 16) (hc0 : 1 ≤ nI rr ∧ nI rr ≤ 16) (hn48 : n ≤ 48) (hne : ∀ c, c < 6 → ne c ≤ 11) (hik : ∀ c, c < 6 → ik c = 0 ∨ ik c = 1) (hls2 : 1 ≤ lst ∧ lst ≤ 24) (hw20 : w ≤ 20) (hwd6 : wd ≤ 6) (hS9 : ∀ c, c < 6 → ik c = 0 → RIS eg (11 * c) (ne c)) (hVk : ∀ c, c < 6 → ¬ ik c = 0 → ∀ r, r < n → ¬ vv (6 * r + c) = (-2147483648) → 0 ≤ vv (6 * r + c) ∧ vv (6 * r + c) < 12) (htg : ∀ i, i < n → -1000 ≤ (tg i).toInt ∧ (tg i).toInt ≤ 1000) (hTOK : TOK F T) (hdp4 : 1 ≤ dpt ∧ dpt ≤ 4) (hr9 : 0 < ru ∧ ru ≤ rl ∧ rl ≤ 16) (hA0 : 0 < cb (psb &&& (thr n))) (hS0 : ¬ psb &&& (thr n) = 0) (hC0 : ¬ pcb &&& (((1 : Int32) <<< (nI wd &&& 31)) - 1) = 0) (sz : Nat) : Met l yR_train WR_train ({ frames := 13, cells := 3 * (max fm (T + rr)) + 4 * SM (mkr F T n w lst dpt wd ru rl vv eg ik ne pcb (psb &&& (thr n)) tg mk rr) 16 - (3 * fm + 4 * SM mk 16), slots := 42 * (max fm (T + rr)) + 69 * SM (mkr F T n w lst dpt wd ru rl vv eg ik ne pcb (psb &&& (thr n)) tg mk rr) 16 - (42 * fm + 69 * SM mk 16), locals := 334 } : Room) (RWE tE mE D vwCl [.ref (ad 0), .int (nI rr)] ([] ++ pg cds ad gg) (TY cT) sz) (va_Qi (fun (r9 : Int32) (u9 : (Nat → Nat) × (Nat → Option va_E)) => r9 = nI rr ∧ TOK (rds F T n w lst dpt wd ru rl vv eg ik ne pcb (psb &&& (thr n)) tg rr) (T + rr) ∧ TRV cT u9.1 u9.2 tE (T + rr) (max fm (T + rr)) (mkr F T n w lst dpt wd ru rl vv eg ik ne pcb (psb &&& (thr n)) tg mk rr) (rds F T n w lst dpt wd ru rl vv eg ik ne pcb (psb &&& (thr n)) tg rr) n wd vv vq eg ik ne tg dpt lst w ru rl psb pcb ∧ (∀ z8, z8 ≠ 40 → z8 < 1000 → u9.1 z8 = ad z8) ∧ (∀ z8, ((40 < z8 ∧ z8 < 50) ∨ (53 < z8 ∧ z8 < 60)) → u9.2 z8 = gg z8)) (BW D vwCl (va_A ([] ++ pg cds ad gg) sz) (fun u9 : (Nat → Nat) × (Nat → Option va_E) => ([] ++ pg cds u9.1 u9.2))) (va_A ([] ++ pg cds ad gg) sz)) (3 * (max fm (T + rr)) + 4 * SM (mkr F T n w lst dpt wd ru rl vv eg ik ne pcb (psb &&& (thr n)) tg mk rr) 16 - (3 * fm + 4 * SM mk 16)) (42 * (max fm (T + rr)) + 69 * SM (mkr F T n w lst dpt wd ru rl vv eg ik ne pcb (psb &&& (thr n)) tg mk rr) 16 - (42 * fm + 69 * SM mk 16)) (va_A ([] ++ pg cds ad gg) sz) := by
  refine Met.ofW (cc := cR_train) (maxL := 7) (ret := (some .int)) (by decide) rfl ?_
  intro p e s m args below meth c s₁ B hml hv
  obtain ⟨rfl, ⟨hsz, hZ, hP, hK, hD0⟩, hE0⟩ := hv
  have hx := B.exec
  have hb := B.bytes
  have hr := B.returns
  have hts := atoms_spec (ws := WR_train) B.pre
  have hT : ∀ w ∈ TB, w.before _ s = true := fun w h => hts w (List.mem_cons_of_mem _ h)
  have hown : s.vm.findClass R_R = some m.cls := findClass_of_methodNamed B.named
  have hlocks := B.notSynchronized
  subst hsz
  have hD := hD0.self (sz := s.heap.size)
  generalize hAe : va_A ([] ++ pg cds ad gg) s.heap.size = A at hD hZ hE0 ⊢
  have hA : ∀ q : Nat, s.heap.size ≤ q → A q := fun q h => by rw [← hAe]; exact Or.inr h
  have hS : va_S A s.heap s.heap [] := va_S.rf
  have hl := lv_entry ([.ref (ad 0), .int (nI rr)]) (n := 7) (Nat.le_of_ble_eq_true rfl)
  rw [lg_entry_eq]
  generalize (lg_sl ([.ref (ad 0), .int (nI rr)]) ++ List.replicate (7 - (lg_sl ([.ref (ad 0), .int (nI rr)])).length) Slot.unset).toArray = ls at hl ⊢
  have hl : lv_has ls 7 [(0, .ref (ad 0)), (1, .int (nI rr))] := hl
  obtain ⟨bhob, bhTg, bhFT, bhTs, ⟨bzs0, bhGB⟩, ⟨bzf0, bhLf⟩, ⟨bzc0, bhCm⟩⟩ := id hTV
  obtain ⟨bhtb, bhRs, bhCa, bhCf, bhpl, bhGa, bhSc, bhGs, ⟨bfo, bhod⟩, bbb9, btt9, bb90, bhgr, bhbt, bhSP⟩ := id bhGB
  refine lv_iload_n hx hb dR_train_0 rfl (lv_at hl 1 rfl) ?_
  refine lv_iconst (v := 1) hx hb dR_train_1 (by decide) ?_
  refine lv_bipush (v := 16) hx hb dR_train_2 (by decide) ?_
  refine ro_i (va_Run.run (va_runS (As := [.int (nI rr), .int 1, .int 16]) (rest := []) ⟨hx, hb, hml, hown, hT⟩ (k_isWithin l D cT (nI rr) 1 16) ⟨callB_of 3 hT (tb_gd w499) rfl rfl rfl (hT _ w1) (hT _ w497) hR_isWithin ⟨Nat.le_of_ble_eq_true rfl, Nat.le_of_ble_eq_true rfl⟩, (hT _ w498)⟩ (RO.preS hZ hS ((show va_P D vwCl [] _ from fun _ _ h => nomatch h)) hK) rfl rfl hl.1 rfl (lv_room (Nat.le_of_ble_eq_true rfl)) dR_train_4 ⟨(by show 0 + 0 ≤ (3 * (max fm (T + rr)) + 4 * SM (mkr F T n w lst dpt wd ru rl vv eg ik ne pcb (psb &&& (thr n)) tg mk rr) 16 - (3 * fm + 4 * SM mk 16)); omega), (by show 0 + 0 ≤ (42 * (max fm (T + rr)) + 69 * SM (mkr F T n w lst dpt wd ru rl vv eg ik ne pcb (psb &&& (thr n)) tg mk rr) 16 - (42 * fm + 69 * SM mk 16)); omega)⟩)) ?_
  refine ro_v (va_Run.run (va_runS (As := [.int (bi (1 ≤ (nI rr) ∧ (nI rr) ≤ 16))]) (rest := []) ⟨hx, hb, hml, hown, hT⟩ (k_demand_ok l D cT (bi (1 ≤ (nI rr) ∧ (nI rr) ≤ 16)) (by rw [bi_t hc0]; decide)) ⟨callB_of 1 hT (tb_gd w510) rfl rfl rfl (hT _ w1) (hT _ w508) hR_demand ⟨Nat.le_of_ble_eq_true rfl, Nat.le_of_ble_eq_true rfl⟩, (hT _ w509)⟩ (RO.preS hZ hS ((show va_P D vwCl [] _ from fun _ _ h => nomatch h)) hK) rfl rfl hl.1 rfl (lv_room (Nat.le_of_ble_eq_true rfl)) dR_train_7 ⟨(by show 0 + 0 ≤ (3 * (max fm (T + rr)) + 4 * SM (mkr F T n w lst dpt wd ru rl vv eg ik ne pcb (psb &&& (thr n)) tg mk rr) 16 - (3 * fm + 4 * SM mk 16)); omega), (by show 0 + 0 ≤ (42 * (max fm (T + rr)) + 69 * SM (mkr F T n w lst dpt wd ru rl vv eg ik ne pcb (psb &&& (thr n)) tg mk rr) 16 - (42 * fm + 69 * SM mk 16)); omega)⟩)) ?_
  refine lv_aload_n hx hb dR_train_10 rfl (lv_at hl 0 rfl) ?_
  refine va_get (D := D) (ci := 0) (v := .ref (ad 4)) (C := R_R) (T := T_R) (N := 13) hx hb hT in_R hown hK (pg_1 (x := 0) hcd hP (by decide) bhob) 0 rfl rfl 1 (by decide) (hT _ w325) (fun _ h9 => h9) rfl dR_train_11 ?_
  refine va_get (D := D) (ci := 3) (v := .long psb) (C := R_P) (T := T_P) (N := 7) hx hb hT in_P hown hK (pg_1 (x := 4) hcd hP (by decide) bhpl) 0 rfl rfl 5 (by decide) (hT _ w116) (fun _ h9 => h9) rfl dR_train_14 ?_
  refine lv_aload_n hx hb dR_train_17 rfl (lv_at hl 0 rfl) ?_
  refine va_get (D := D) (ci := 0) (v := .ref (ad 1)) (C := R_R) (T := T_R) (N := 13) hx hb hT in_R hown hK (pg_1 (x := 0) hcd hP (by decide) bhob) 0 rfl rfl 0 (by decide) (hT _ w324) (fun _ h9 => h9) rfl dR_train_18 ?_
  refine ro_l (va_Run.run (va_runV (As := []) (rest := [.long psb]) ⟨hx, hb, hml, hown, hT⟩ (k_rowBits l D cT (ad 1) (ad 2) (ad 3) (nI wd) (nI n)) ⟨callB_of 0 hT (tb_gd w371) rfl rfl rfl (hT _ w2) (hT _ w368) hT_rowBits ⟨Nat.le_of_ble_eq_true rfl, Nat.le_of_ble_eq_true rfl⟩, (hT _ w369), (hT _ w370)⟩ (RO.preV (ci := 2) (q0 := 0) hZ hS ((show va_P D vwCl [(ad 1, .inr (2, [.ref (ad 2), .ref (ad 3), .int (nI wd), .int (nI n)]))] _ from (pv_c (pg_1 (x := 1) hcd hP (by decide) bhtb) pv_0))) hK rfl rfl) rfl rfl hl.1 rfl (lv_room (Nat.le_of_ble_eq_true rfl)) dR_train_21 ⟨(by show 0 + 0 ≤ (3 * (max fm (T + rr)) + 4 * SM (mkr F T n w lst dpt wd ru rl vv eg ik ne pcb (psb &&& (thr n)) tg mk rr) 16 - (3 * fm + 4 * SM mk 16)); omega), (by show 0 + 0 ≤ (42 * (max fm (T + rr)) + 69 * SM (mkr F T n w lst dpt wd ru rl vv eg ik ne pcb (psb &&& (thr n)) tg mk rr) 16 - (42 * fm + 69 * SM mk 16)); omega)⟩)) ?_
  refine lv_topl (fun y9 e9 => ?_)
  cases (show y9 = thr n from e9.trans (rb_thr hn48))
  refine lv_land hx hb dR_train_24 ?_
  refine lv_lstore_n hx hb dR_train_25 rfl hl (by decide) rfl (fun ls hl => ?_)
  have hl : lv_has ls 7 [(2, .long (psb &&& (thr n))), (0, .ref (ad 0)), (1, .int (nI rr))] := hl
  refine lv_lload_n hx hb dR_train_26 rfl (lv_at hl 0 rfl) ?_
  refine lv_lconst (v := 0) hx hb dR_train_27 (by decide) ?_
  refine W.lcmp hx hb dR_train_28 ?_
  refine lv_if_eq (tgt := 54) hx hb dR_train_29 rfl (fun h1 => absurd h1 (fun q => hS0 ((lg_cmp_eq _ _).mp q))) (fun _ => ?_)
  refine lv_aload_n hx hb dR_train_32 rfl (lv_at hl 1 rfl) ?_
  refine va_get (D := D) (ci := 0) (v := .ref (ad 4)) (C := R_R) (T := T_R) (N := 13) hx hb hT in_R hown hK (pg_1 (x := 0) hcd hP (by decide) bhob) 0 rfl rfl 1 (by decide) (hT _ w325) (fun _ h9 => h9) rfl dR_train_33 ?_
  refine va_get (D := D) (ci := 3) (v := .int pcb) (C := R_P) (T := T_P) (N := 7) hx hb hT in_P hown hK (pg_1 (x := 4) hcd hP (by decide) bhpl) 0 rfl rfl 6 (by decide) (hT _ w119) (fun _ h9 => h9) rfl dR_train_36 ?_
  refine lv_aload_n hx hb dR_train_39 rfl (lv_at hl 1 rfl) ?_
  refine va_get (D := D) (ci := 0) (v := .ref (ad 1)) (C := R_R) (T := T_R) (N := 13) hx hb hT in_R hown hK (pg_1 (x := 0) hcd hP (by decide) bhob) 0 rfl rfl 0 (by decide) (hT _ w324) (fun _ h9 => h9) rfl dR_train_40 ?_
  refine ro_i (va_Run.run (va_runV (As := []) (rest := [.int pcb]) ⟨hx, hb, hml, hown, hT⟩ (k_colBits l D cT (ad 1) (ad 2) (ad 3) (nI wd) (nI n)) ⟨callB_of 0 hT (tb_gd w714) rfl rfl rfl (hT _ w2) (hT _ w711) hT_columnBits ⟨Nat.le_of_ble_eq_true rfl, Nat.le_of_ble_eq_true rfl⟩, (hT _ w712), (hT _ w713)⟩ (RO.preV (ci := 2) (q0 := 0) hZ hS ((show va_P D vwCl [(ad 1, .inr (2, [.ref (ad 2), .ref (ad 3), .int (nI wd), .int (nI n)]))] _ from (pv_c (pg_1 (x := 1) hcd hP (by decide) bhtb) pv_0))) hK rfl rfl) rfl rfl hl.1 rfl (lv_room (Nat.le_of_ble_eq_true rfl)) dR_train_43 ⟨(by show 0 + 0 ≤ (3 * (max fm (T + rr)) + 4 * SM (mkr F T n w lst dpt wd ru rl vv eg ik ne pcb (psb &&& (thr n)) tg mk rr) 16 - (3 * fm + 4 * SM mk 16)); omega), (by show 0 + 0 ≤ (42 * (max fm (T + rr)) + 69 * SM (mkr F T n w lst dpt wd ru rl vv eg ik ne pcb (psb &&& (thr n)) tg mk rr) 16 - (42 * fm + 69 * SM mk 16)); omega)⟩)) ?_
  refine lv_iand hx hb dR_train_46 ?_
  refine lv_if_eq (tgt := 54) hx hb dR_train_47 rfl (fun h2 => absurd h2 hC0) (fun _ => ?_)
  refine lv_iconst (v := 1) hx hb dR_train_50 (by decide) ?_
  refine lv_goto (tgt := 55) hx hb dR_train_51 rfl ?_
  refine ro_v (va_Run.run (va_runS (As := [.int 1]) (rest := []) ⟨hx, hb, hml, hown, hT⟩ (k_demandState_ok l D cT 1 (by decide)) ⟨callB_of 1 hT (tb_gd w586) rfl rfl rfl (hT _ w1) (hT _ w584) hR_demandState ⟨Nat.le_of_ble_eq_true rfl, Nat.le_of_ble_eq_true rfl⟩, (hT _ w585)⟩ (RO.preS hZ hS ((show va_P D vwCl [] _ from fun _ _ h => nomatch h)) hK) rfl rfl hl.1 rfl (lv_room (Nat.le_of_ble_eq_true rfl)) dR_train_55 ⟨(by show 0 + 0 ≤ (3 * (max fm (T + rr)) + 4 * SM (mkr F T n w lst dpt wd ru rl vv eg ik ne pcb (psb &&& (thr n)) tg mk rr) 16 - (3 * fm + 4 * SM mk 16)); omega), (by show 0 + 0 ≤ (42 * (max fm (T + rr)) + 69 * SM (mkr F T n w lst dpt wd ru rl vv eg ik ne pcb (psb &&& (thr n)) tg mk rr) 16 - (42 * fm + 69 * SM mk 16)); omega)⟩)) ?_
  refine lv_aload_n hx hb dR_train_58 rfl (lv_at hl 1 rfl) ?_
  refine va_get (D := D) (ci := 0) (v := .int (nI T)) (C := R_R) (T := T_R) (N := 13) hx hb hT in_R hown hK (pg_1 (x := 0) hcd hP (by decide) bhob) 0 rfl rfl 5 (by decide) (hT _ w329) (fun _ h9 => h9) rfl dR_train_59 ?_
  refine lv_iload_n hx hb dR_train_62 rfl (lv_at hl 2 rfl) ?_
  refine lv_iadd hx hb dR_train_63 ?_
  refine lv_topi (fun y9 e9 => ?_)
  cases (show y9 = nI (T + rr) from e9.trans (nI_add T rr))
  refine lv_bipush (v := 16) hx hb dR_train_64 (by decide) ?_
  refine lv_icmp_gt (tgt := 73) hx hb dR_train_66 rfl (fun h3 => absurd h3 (fun q => absurd ((nI_ltI (a := 16) (b := T + rr) (by omega) (by omega)).mp q) (by omega))) (fun _ => ?_)
  refine lv_iconst (v := 1) hx hb dR_train_69 (by decide) ?_
  refine lv_goto (tgt := 74) hx hb dR_train_70 rfl ?_
  refine ro_v (va_Run.run (va_runS (As := [.int 1]) (rest := []) ⟨hx, hb, hml, hown, hT⟩ (k_demandState_ok l D cT 1 (by decide)) ⟨callB_of 1 hT (tb_gd w586) rfl rfl rfl (hT _ w1) (hT _ w584) hR_demandState ⟨Nat.le_of_ble_eq_true rfl, Nat.le_of_ble_eq_true rfl⟩, (hT _ w585)⟩ (RO.preS hZ hS ((show va_P D vwCl [] _ from fun _ _ h => nomatch h)) hK) rfl rfl hl.1 rfl (lv_room (Nat.le_of_ble_eq_true rfl)) dR_train_74 ⟨(by show 0 + 0 ≤ (3 * (max fm (T + rr)) + 4 * SM (mkr F T n w lst dpt wd ru rl vv eg ik ne pcb (psb &&& (thr n)) tg mk rr) 16 - (3 * fm + 4 * SM mk 16)); omega), (by show 0 + 0 ≤ (42 * (max fm (T + rr)) + 69 * SM (mkr F T n w lst dpt wd ru rl vv eg ik ne pcb (psb &&& (thr n)) tg mk rr) 16 - (42 * fm + 69 * SM mk 16)); omega)⟩)) ?_
  refine lv_aload_n hx hb dR_train_77 rfl (lv_at hl 1 rfl) ?_
  refine va_get (D := D) (ci := 0) (v := .int (nI T)) (C := R_R) (T := T_R) (N := 13) hx hb hT in_R hown hK (pg_1 (x := 0) hcd hP (by decide) bhob) 0 rfl rfl 5 (by decide) (hT _ w329) (fun _ h9 => h9) rfl dR_train_78 ?_
  refine lv_istore hx hb dR_train_81 hl (by decide) rfl (fun ls hl => ?_)
  have hl : lv_has ls 7 [(4, .int (nI T)), (2, .long (psb &&& (thr n))), (0, .ref (ad 0)), (1, .int (nI rr))] := hl
  refine lv_iconst (v := 0) hx hb dR_train_83 (by decide) ?_
  refine lv_istore hx hb dR_train_84 hl (by decide) rfl (fun ls hl => ?_)
  have hl : lv_has ls 7 [(5, .int 0), (4, .int (nI T)), (2, .long (psb &&& (thr n))), (0, .ref (ad 0)), (1, .int (nI rr))] := hl
  have hl : lv_has ls 7 [(5, .int (nI 0)), (4, .int (nI T)), (2, .long (psb &&& (thr n))), (0, .ref (ad 0)), (1, .int (nI rr))] := by
    rw [(show nI 0 = 0 from rfl)]; exact hl
  refine W.widen (k := 3 * fm + 4 * SM mk 16 - (3 * fm + 4 * SM mk 16)) (n := 42 * fm + 69 * SM mk 16 - (42 * fm + 69 * SM mk 16)) (by show 0 ≤ 3 * fm + 4 * SM mk 16 - (3 * fm + 4 * SM mk 16); omega) (by show 0 ≤ 42 * fm + 69 * SM mk 16 - (42 * fm + 69 * SM mk 16); omega) ?_
  refine lp_wc (α := Nat × (Nat → Nat) × (Nat → Option va_E) × TFR × Nat × (Nat → Nat)) (fun a9 => a9.1 ≤ rr ∧ a9.2.2.2.1 = rds F T n w lst dpt wd ru rl vv eg ik ne pcb (psb &&& (thr n)) tg a9.1 ∧ a9.2.2.2.2.2 = mkr F T n w lst dpt wd ru rl vv eg ik ne pcb (psb &&& (thr n)) tg mk a9.1 ∧ a9.2.2.2.2.1 = max fm (T + a9.1) ∧ TOK a9.2.2.2.1 (T + a9.1) ∧ TRV cT a9.2.1 a9.2.2.1 tE (T + a9.1) a9.2.2.2.2.1 a9.2.2.2.2.2 a9.2.2.2.1 n wd vv vq eg ik ne tg dpt lst w ru rl psb pcb ∧ (∀ z8, z8 ≠ 40 → z8 < 1000 → a9.2.1 z8 = ad z8) ∧ (∀ z8, ((40 < z8 ∧ z8 < 50) ∨ (53 < z8 ∧ z8 < 60)) → a9.2.2.1 z8 = gg z8)) (fun a9 => rr - a9.1) (fun a9 => [(0, .ref (a9.2.1 0)), (1, .int (nI rr)), (2, .long (psb &&& (thr n))), (4, .int (nI T)), (5, .int (nI a9.1))]) (fun a9 => ([] ++ pg cds a9.2.1 a9.2.2.1)) (fun a9 => 3 * a9.2.2.2.2.1 + 4 * SM a9.2.2.2.2.2 16 - (3 * fm + 4 * SM mk 16)) (fun a9 => 42 * a9.2.2.2.2.1 + 69 * SM a9.2.2.2.2.2 16 - (42 * fm + 69 * SM mk 16)) 86 ?_ (0, ad, gg, F, fm, mk) (show 0 ≤ rr ∧ F = rds F T n w lst dpt wd ru rl vv eg ik ne pcb (psb &&& (thr n)) tg 0 ∧ mk = mkr F T n w lst dpt wd ru rl vv eg ik ne pcb (psb &&& (thr n)) tg mk 0 ∧ fm = max fm (T + 0) ∧ TOK F (T + 0) ∧ TRV cT ad gg tE (T + 0) fm mk F n wd vv vq eg ik ne tg dpt lst w ru rl psb pcb ∧ (∀ z8, z8 ≠ 40 → z8 < 1000 → ad z8 = ad z8) ∧ (∀ z8, ((40 < z8 ∧ z8 < 50) ∨ (53 < z8 ∧ z8 < 60)) → gg z8 = gg z8) from ⟨by omega, rfl, rfl, by omega, hTOK, hTV, fun _ _ _ => rfl, fun _ _ => rfl⟩) (lv_sub hl [3, 4, 2, 1, 0] rfl) hP hD hS
  intro a9 hI86 ih86 ls H locs hl hP hD hS
  obtain ⟨i, ad1, g1, FF, fm1, mk1⟩ := a9
  have hI86 : i ≤ rr ∧ FF = rds F T n w lst dpt wd ru rl vv eg ik ne pcb (psb &&& (thr n)) tg i ∧ mk1 = mkr F T n w lst dpt wd ru rl vv eg ik ne pcb (psb &&& (thr n)) tg mk i ∧ fm1 = max fm (T + i) ∧ TOK FF (T + i) ∧ TRV cT ad1 g1 tE (T + i) fm1 mk1 FF n wd vv vq eg ik ne tg dpt lst w ru rl psb pcb ∧ (∀ z8, z8 ≠ 40 → z8 < 1000 → ad1 z8 = ad z8) ∧ (∀ z8, ((40 < z8 ∧ z8 < 50) ∨ (53 < z8 ∧ z8 < 60)) → g1 z8 = gg z8) := hI86
  refine W.widen (k := 3 * fm1 + 4 * SM mk1 16 - (3 * fm + 4 * SM mk 16)) (n := 42 * fm1 + 69 * SM mk1 16 - (42 * fm + 69 * SM mk 16)) (Nat.le_refl _) (Nat.le_refl _) ?_
  obtain ⟨ii, iE, iK, iM, iT, iV, iA, iG⟩ := hI86
  have hl : lv_has ls 7 [(0, .ref (ad1 0)), (1, .int (nI rr)), (2, .long (psb &&& (thr n))), (4, .int (nI T)), (5, .int (nI i))] := hl
  have hP : va_P D vwCl ([] ++ pg cds ad1 g1) _ := hP
  have hD : va_D A ([] ++ pg cds ad1 g1) := hD
  have hmm1 := mkr_m (F := F) (T := T) (n := n) (w := w) (lst := lst) (dpt := dpt) (wd := wd) (ru := ru) (rl := rl) (vv := vv) (eg := eg) (ik := ik) (ne := ne) (chb := pcb) (AA := psb &&& (thr n)) (tg := tg) (mk := mk) (i := 0) i (Nat.zero_le _) (by omega)
  have hmm1 : SM mk 16 ≤ SM (mkr F T n w lst dpt wd ru rl vv eg ik ne pcb (psb &&& (thr n)) tg mk i) 16 := hmm1
  rw [← iK] at hmm1
  refine lv_iload hx hb dR_train_86 (lv_at hl 4 rfl) ?_
  refine lv_iload_n hx hb dR_train_88 rfl (lv_at hl 1 rfl) ?_
  refine lv_icmp_ge (tgt := 166) hx hb dR_train_89 rfl (fun h4 => ?_) (fun h4 => ?_)
  · have gh4 : rr ≤ i := (nI_leI (a := rr) (b := i) (by omega) (by omega)).mp h4
    have hmm3 : SM mk1 16 ≤ SM (mkr F T n w lst dpt wd ru rl vv eg ik ne pcb (psb &&& (thr n)) tg mk rr) 16 := by rw [iK]; exact mkr_m rr ii hTr
    refine lv_aload_n hx hb dR_train_166 rfl (lv_at hl 0 rfl) ?_
    refine va_get (D := D) (ci := 0) (v := .int (nI (T + i))) (C := R_R) (T := T_R) (N := 13) hx hb hT in_R hown hK (pg_1 (x := 0) hcd hP (by decide) iV.1) 0 rfl rfl 5 (by decide) (hT _ w329) (fun _ h9 => h9) rfl dR_train_167 ?_
    refine lv_iload hx hb dR_train_170 (lv_at hl 3 rfl) ?_
    refine lv_isub hx hb dR_train_172 ?_
    refine lv_topi (fun y9 e9 => ?_)
    cases (show y9 = nI ((T + i) - T) from e9.trans (pk_sub (a := T + i) (b := T) (by omega)))
    have hP9 : va_P D vwCl ([] ++ pg cds ad1 g1) _ := hP.part (cx := []) [] rfl
    have hD9 : va_D A ([] ++ pg cds ad1 g1) := hD.part (cx := []) [] (by decide) rfl
    refine W.widen (k := 3 * (max fm (T + rr)) + 4 * SM (mkr F T n w lst dpt wd ru rl vv eg ik ne pcb (psb &&& (thr n)) tg mk rr) 16 - (3 * fm + 4 * SM mk 16)) (n := 42 * (max fm (T + rr)) + 69 * SM (mkr F T n w lst dpt wd ru rl vv eg ik ne pcb (psb &&& (thr n)) tg mk rr) 16 - (42 * fm + 69 * SM mk 16)) ((by show 3 * fm1 + 4 * SM mk1 16 - (3 * fm + 4 * SM mk 16) ≤ 3 * (max fm (T + rr)) + 4 * SM (mkr F T n w lst dpt wd ru rl vv eg ik ne pcb (psb &&& (thr n)) tg mk rr) 16 - (3 * fm + 4 * SM mk 16); omega)) ((by show 42 * fm1 + 69 * SM mk1 16 - (42 * fm + 69 * SM mk 16) ≤ 42 * (max fm (T + rr)) + 69 * SM (mkr F T n w lst dpt wd ru rl vv eg ik ne pcb (psb &&& (thr n)) tg mk rr) 16 - (42 * fm + 69 * SM mk 16); omega)) ?_
    exact W.iret (v := nI ((T + i) - T)) hx hb hr (fun t9 ht9 hW9 => ⟨⟨nI ((T + i) - T), (ad1, g1), rfl, (show (nI ((T + i) - T)) = nI rr ∧ TOK (rds F T n w lst dpt wd ru rl vv eg ik ne pcb (psb &&& (thr n)) tg rr) (T + rr) ∧ TRV cT ad1 g1 tE (T + rr) (max fm (T + rr)) (mkr F T n w lst dpt wd ru rl vv eg ik ne pcb (psb &&& (thr n)) tg mk rr) (rds F T n w lst dpt wd ru rl vv eg ik ne pcb (psb &&& (thr n)) tg rr) n wd vv vq eg ik ne tg dpt lst w ru rl psb pcb ∧ (∀ z8, z8 ≠ 40 → z8 < 1000 → ad1 z8 = ad z8) ∧ (∀ z8, ((40 < z8 ∧ z8 < 50) ∨ (53 < z8 ∧ z8 < 60)) → g1 z8 = gg z8) from (by obtain rfl : i = rr := (by omega); subst iE iK iM; exact ⟨by rw [show T + i - T = i by omega], iT, iV, iA, iG⟩)), by rw [ht9]; exact hP9, hD9⟩, hS.F ht9⟩) hS.2.2 dR_train_173
  · have gh4 : i < rr := Nat.not_le.mp (fun q => h4 ((nI_leI (a := rr) (b := i) (by omega) (by omega)).mpr q))
    obtain ⟨chob, chTg, chFT, chTs, ⟨czs0, chGB⟩, ⟨czf0, chLf⟩, ⟨czc0, chCm⟩⟩ := id iV
    obtain ⟨chtb, chRs, chCa, chCf, chpl, chGa, chSc, chGs, ⟨cfo, chod⟩, cbb9, ctt9, cb90, chgr, chbt, chSP⟩ := id chGB
    have hcg : cgw (fun x8 => colF (xR FF vv tg (T + i)) n w lst vv eg ik ne pcb x8 wd) ik (31 * (T + i)) dpt 4 (tA FF, 0, fun _ => 0) (psb &&& (thr n)) 0 = grw FF (T + i) (xR FF vv tg (T + i)) n w lst dpt wd vv eg ik ne pcb (psb &&& (thr n)) := cgw_grw hdp4.2
    have hcg1 : (cgw (fun x8 => colF (xR FF vv tg (T + i)) n w lst vv eg ik ne pcb x8 wd) ik (31 * (T + i)) dpt 4 (tA FF, 0, fun _ => 0) (psb &&& (thr n)) 0).2.1 = (grw FF (T + i) (xR FF vv tg (T + i)) n w lst dpt wd vv eg ik ne pcb (psb &&& (thr n))).2.1 := congrArg (fun q : GST => q.2.1) hcg
    have hM9 : tM (rds F T n w lst dpt wd ru rl vv eg ik ne pcb (psb &&& (thr n)) tg (i + 1)) (T + i) = (grw FF (T + i) (xR FF vv tg (T + i)) n w lst dpt wd vv eg ik ne pcb (psb &&& (thr n))).2.1 := by show tM (rd1 (rds F T n w lst dpt wd ru rl vv eg ik ne pcb (psb &&& (thr n)) tg i) (T + i) n w lst dpt wd ru rl vv eg ik ne pcb (psb &&& (thr n)) tg) (T + i) = _; rw [← iE]; exact va_up_self _ _ _
    have hS2 : SM (mkr F T n w lst dpt wd ru rl vv eg ik ne pcb (psb &&& (thr n)) tg mk (i + 1)) 16 + mk1 (T + i) = SM mk1 16 + max (mk1 (T + i)) (grw FF (T + i) (xR FF vv tg (T + i)) n w lst dpt wd vv eg ik ne pcb (psb &&& (thr n))).2.1 := by rw [← hM9, iK]; exact sm_up 16 (by omega)
    have hmm2 : SM (mkr F T n w lst dpt wd ru rl vv eg ik ne pcb (psb &&& (thr n)) tg mk (i + 1)) 16 ≤ SM (mkr F T n w lst dpt wd ru rl vv eg ik ne pcb (psb &&& (thr n)) tg mk rr) 16 := mkr_m rr (by omega) hTr
    obtain ⟨hG1, hG2⟩ : 1 ≤ (grw FF (T + i) (xR FF vv tg (T + i)) n w lst dpt wd vv eg ik ne pcb (psb &&& (thr n))).2.1 ∧ (grw FF (T + i) (xR FF vv tg (T + i)) n w lst dpt wd vv eg ik ne pcb (psb &&& (thr n))).2.1 ≤ 31 := by obtain ⟨k9, k1, k2, k3⟩ := cgw_n (best := fun x8 => colF (xR FF vv tg (T + i)) n w lst vv eg ik ne pcb x8 wd) (ik := ik) (b0 := 31 * (T + i)) (dpt := dpt) 4 (tA FF, 0, fun _ => 0) (psb &&& (thr n)) 0; rw [← hcg1]; have k3 : (cgw (fun x8 => colF (xR FF vv tg (T + i)) n w lst vv eg ik ne pcb x8 wd) ik (31 * (T + i)) dpt 4 (tA FF, 0, fun _ => 0) (psb &&& (thr n)) 0).2.1 = 0 + k9 := k3; have k2 : k9 ≤ 31 := k2; omega
    refine lv_aload_n hx hb dR_train_92 rfl (lv_at hl 0 rfl) ?_
    refine lv_aload_n hx hb dR_train_93 rfl (lv_at hl 0 rfl) ?_
    refine va_get (D := D) (ci := 0) (v := .int (nI (T + i))) (C := R_R) (T := T_R) (N := 13) hx hb hT in_R hown hK (pg_1 (x := 0) hcd hP (by decide) chob) 0 rfl rfl 5 (by decide) (hT _ w329) (fun _ h9 => h9) rfl dR_train_94 ?_
    refine hy_vP (X := []) (pl := pg cds ad1 g1) (cx := []) (wr := []) hP hD hS hA [] [] rfl rfl (by decide) (by decide) (va_runV (As := [.int (nI (T + i))]) (rest := []) ⟨hx, hb, hml, hown, hT⟩ (k_leaveAll l D cT cds ad1 g1 (nI (T + i)) (nI wd) (nI n) fm1 FF (T + i) (T + i) n vv vq tg n czs0 czf0 hcd chob chtb rfl hn48 chFT.1.frp (by omega) chTs iT (by omega) (Nat.le_refl _) chCa chCf.a chTg htg chRs chLf _) ⟨callB_of 1 hT (tb_gd w385) rfl rfl rfl (hT _ w1) (hT _ w382) hR_leaveAll ⟨Nat.le_of_ble_eq_true rfl, Nat.le_of_ble_eq_true rfl⟩, (hT _ w384), (hT _ wp1)⟩ (RW.preW (ci := 0) (q0 := 0) hZ hS (va_freeP (cx := []) hD hS hA [] rfl) (hP.part (cx := []) [] rfl) hK (hD.part (cx := []) [] (by decide) rfl) (pg_1 (x := 0) hcd hP (by decide) chob) rfl rfl) rfl rfl hl.1 rfl (lv_room (Nat.le_of_ble_eq_true rfl)) dR_train_97 ⟨(by show (3 * fm1 + 4 * SM mk1 16 - (3 * fm + 4 * SM mk 16)) + 0 ≤ (3 * (max fm (T + rr)) + 4 * SM (mkr F T n w lst dpt wd ru rl vv eg ik ne pcb (psb &&& (thr n)) tg mk rr) 16 - (3 * fm + 4 * SM mk 16)); omega), (by show (42 * fm1 + 69 * SM mk1 16 - (42 * fm + 69 * SM mk 16)) + 0 ≤ (42 * (max fm (T + rr)) + 69 * SM (mkr F T n w lst dpt wd ru rl vv eg ik ne pcb (psb &&& (thr n)) tg mk rr) 16 - (42 * fm + 69 * SM mk 16)); omega)⟩) (fun u9 H locs hpu5 hP hD hS => ?_)
    obtain ⟨gg7u5, rfl⟩ : ∃ q9, q9 = u9 := ⟨_, rfl⟩
    have hpu5 : (∀ z8, (z8 < 100 ∨ 200 ≤ z8) → z8 ≠ 50 → z8 ≠ 51 → gg7u5 z8 = g1 z8) ∧ RSp cT ad1 gg7u5 n (xR FF vv tg (T + i)) ∧ ∃ z8, WHO cT ad1 gg7u5 50 51 24 z8 := hpu5
    have hP : va_P D vwCl ([] ++ pg cds ad1 gg7u5) _ := hP
    have hD : va_D A ([] ++ pg cds ad1 gg7u5) := hD
    obtain ⟨F2, R2, zf2, L2⟩ := hpu5
    have hGB2 : GRB cT ad1 gg7u5 n (xR FF vv tg (T + i)) XBc vv vq eg ik ne dpt lst w (nI ru) (nI rl) psb pcb wd := chGB.rs (fun x x1 x0 x2 x3 x4 x5 => F2 x x1 x2 x3) R2
    have hFT2 : FST cT ad1 gg7u5 tE fm1 mk1 := chFT.cg (F2 _ (by omega) (by omega) (by omega)) (F2 _ (by omega) (by omega) (by omega)) (fun z hz => F2 z (by omega) (by omega) (by omega))
    have hob2 := (F2 0 (by omega) (by omega) (by omega)).trans chob
    refine lv_aload_n hx hb dR_train_100 rfl (lv_at hl 0 rfl) ?_
    refine hy_rP (X := []) (pl := pg cds ad1 gg7u5) (cx := []) (wr := []) hP hD hS hA [] [] rfl rfl (by decide) (by decide) (va_runV (As := []) (rest := []) ⟨hx, hb, hml, hown, hT⟩ (k_freshTree l D cT cds ad1 gg7u5 tE mE (T + i) fm1 mk1 hcd hob2 hFT2 (by omega) (by omega) _) ⟨callB_of 0 hT (tb_gd w718) rfl rfl rfl (hT _ w1) (hT _ w715) hR_freshTree ⟨Nat.le_of_ble_eq_true rfl, Nat.le_of_ble_eq_true rfl⟩, (hT _ w717), (hT _ wp8)⟩ (RWE.preW (ci := 0) (q0 := 0) hE0 hZ hS (va_freeP (cx := []) hD hS hA [] rfl) (hP.part (cx := []) [] rfl) hK (hD.part (cx := []) [] (by decide) rfl) (pg_1 (x := 0) hcd hP (by decide) hob2) rfl rfl) rfl rfl hl.1 rfl (lv_room (Nat.le_of_ble_eq_true rfl)) dR_train_101 ⟨(by show ((3 * fm1 + 4 * SM mk1 16 - (3 * fm + 4 * SM mk 16)) + 0) + (3 * (max fm1 ((T + i) + 1) - fm1)) ≤ (3 * (max fm (T + rr)) + 4 * SM (mkr F T n w lst dpt wd ru rl vv eg ik ne pcb (psb &&& (thr n)) tg mk rr) 16 - (3 * fm + 4 * SM mk 16)); omega), (by show ((42 * fm1 + 69 * SM mk1 16 - (42 * fm + 69 * SM mk 16)) + 0) + (42 * (max fm1 ((T + i) + 1) - fm1)) ≤ (42 * (max fm (T + rr)) + 69 * SM (mkr F T n w lst dpt wd ru rl vv eg ik ne pcb (psb &&& (thr n)) tg mk rr) 16 - (42 * fm + 69 * SM mk 16)); omega)⟩) (fun u9 H locs hpu6 hP hD hS => ?_)
    obtain ⟨ad7u6, gg7u6⟩ := u9
    have hpu6 : (∀ z8, z8 ≠ 9 → z8 ≠ 40 → z8 ≠ 1000 + (T + i) → z8 ≠ 1020 + (T + i) → gg7u6 z8 = gg7u5 z8) ∧ (∀ z8, z8 ≠ 40 → z8 ≠ 1000 + (T + i) → z8 ≠ 1020 + (T + i) → ad7u6 z8 = ad1 z8) ∧ ((T + i) < fm1 → (∀ z8, ad7u6 z8 = ad1 z8) ∧ gg7u6 9 = gg7u5 9 ∧ gg7u6 40 = gg7u5 40 ∧ gg7u6 (1020 + (T + i)) = gg7u5 (1020 + (T + i))) ∧ FST cT ad7u6 gg7u6 tE (max fm1 ((T + i) + 1)) mk1 ∧ ∃ (w8 u8 l8 : Int32) (s8 : Int64), gg7u6 (1000 + (T + i)) = some (eTR (ad7u6 (1020 + (T + i))) (nI 0) w8 u8 l8 s8) := hpu6
    have hP : va_P D vwCl ([] ++ pg cds ad7u6 gg7u6) _ := hP
    have hD : va_D A ([] ++ pg cds ad7u6 gg7u6) := hD
    refine W.eq (g2 := F0 m 104 ls [.ref (ad7u6 (1000 + (T + i)))]) rfl ?_
    obtain ⟨F3, A3, S3, FT3, w8, u8, l8, s8, T3⟩ := hpu6
    have hl : lv_has ls 7 [(0, .ref (ad7u6 0)), (1, .int (nI rr)), (2, .long (psb &&& (thr n))), (4, .int (nI T)), (5, .int (nI i))] := by rw [A3 0 (by omega) (by omega) (by omega)]; exact hl
    have hGB3 : GRB cT ad7u6 gg7u6 n (xR FF vv tg (T + i)) XBc vv vq eg ik ne dpt lst w (nI ru) (nI rl) psb pcb wd := hGB2.cg (fun x x1 x2 => A3 x (by omega) (by omega) (by omega)) (fun x x1 x2 x3 x4 => F3 x (by omega) (by omega) (by omega) (by omega))
    have hob3 : gg7u6 0 = some (eOB ad7u6 (nI (T + i))) := by rw [eOB_ca (ad2 := ad7u6) (ad := ad1) (fun x x1 x2 => A3 x (by omega) (by omega) (by omega))]; exact (F3 _ (by omega) (by omega) (by omega) (by omega)).trans hob2
    obtain ⟨dhtb, dhRs, dhCa, dhCf, dhpl, dhGa, dhSc, dhGs, ⟨dfo, dhod⟩, dbb9, dtt9, db90, dhgr, dhbt, dhSP⟩ := id hGB3
    refine lv_astore hx hb dR_train_104 hl (by decide) rfl (fun ls hl => ?_)
    have hl : lv_has ls 7 [(6, .ref (ad7u6 (1000 + (T + i)))), (0, .ref (ad7u6 0)), (1, .int (nI rr)), (2, .long (psb &&& (thr n))), (4, .int (nI T)), (5, .int (nI i))] := hl
    refine lv_aload_n hx hb dR_train_106 rfl (lv_at hl 1 rfl) ?_
    refine va_get (D := D) (ci := 0) (v := .ref (ad7u6 6)) (C := R_R) (T := T_R) (N := 13) hx hb hT in_R hown hK (pg_1 (x := 0) hcd hP (by decide) hob3) 0 rfl rfl 3 (by decide) (hT _ w327) (fun _ h9 => h9) rfl dR_train_107 ?_
    refine lv_aload hx hb dR_train_110 (lv_at hl 0 rfl) ?_
    refine lv_lload_n hx hb dR_train_112 rfl (lv_at hl 3 rfl) ?_
    refine lv_iconst (v := 0) hx hb dR_train_113 (by decide) ?_
    refine hy_iP (X := []) (pl := pg cds ad7u6 gg7u6) (cx := []) (wr := []) hP hD hS hA [] [] rfl rfl (by decide) (by decide) (va_runVN (As := [.ref (ad7u6 (1000 + (T + i))), .long (psb &&& (thr n)), .int 0]) (rest := []) ⟨hx, hb, hml, hown, hT⟩ (k_grow4 l D cT cds ad7u6 gg7u6 tE mE n (xR FF vv tg (T + i)) XBc vv vq eg ik ne dpt lst w (nI ru) (nI rl) psb pcb wd (mk1 (T + i)) (T + i) 0 w8 u8 l8 s8 (tA FF) (fun _ => 0) (psb &&& (thr n)) 0 hcd (by omega) T3 ((FT3.2.2.1 (T + i) (by omega)).2) (Nat.zero_le _) (by decide) hGB3 hn48 (fun j hj => xf_b iT (by omega) (Nat.le_refl _) _ (tg_b (htg j hj))) xbc_9.1 hne hik hls2 hw20 xbc_9.2.1 xbc_9.2.2.1 xbc_9.2.2.2.1 xbc_9.2.2.2.2 hwd6 hS9 hVk sub_thr (by omega) _) ⟨va_cnB 3 hT (tb_gd w815) rfl rfl rfl (hZ.1.2.1 ("ResidualTrees", 202, ⟨"ResidualTrees$Grower", "grow", "(LResidualTrees$Tree;JI)I"⟩, "ResidualTrees") (List.mem_of_getElem? (i := 11) rfl)) (hT _ w6) hGr_grow ⟨Nat.le_of_ble_eq_true rfl, Nat.le_of_ble_eq_true rfl⟩, (hT _ w814), (hT _ wp12)⟩ (RWE.preW (ci := 7) (q0 := 0) hE0 hZ hS (va_freeP (cx := []) hD hS hA [] rfl) (hP.part (cx := []) [] rfl) hK (hD.part (cx := []) [] (by decide) rfl) (pg_1 (x := 6) hcd hP (by decide) dhgr) rfl rfl) rfl rfl hl.1 rfl (lv_room (Nat.le_of_ble_eq_true rfl)) dR_train_114 ⟨(by show (((3 * fm1 + 4 * SM mk1 16 - (3 * fm + 4 * SM mk 16)) + 0) + (3 * (max fm1 ((T + i) + 1) - fm1))) + (4 * (max (mk1 (T + i)) (cgw (fun x8 => colF (xR FF vv tg (T + i)) n w lst vv eg ik ne pcb x8 wd) ik (31 * (T + i)) dpt 4 ((tA FF), 0, (fun _ => 0)) (psb &&& (thr n)) 0).2.1 - (mk1 (T + i)))) ≤ (3 * (max fm (T + rr)) + 4 * SM (mkr F T n w lst dpt wd ru rl vv eg ik ne pcb (psb &&& (thr n)) tg mk rr) 16 - (3 * fm + 4 * SM mk 16)); omega), (by show (((42 * fm1 + 69 * SM mk1 16 - (42 * fm + 69 * SM mk 16)) + 0) + (42 * (max fm1 ((T + i) + 1) - fm1))) + (69 * (max (mk1 (T + i)) (cgw (fun x8 => colF (xR FF vv tg (T + i)) n w lst vv eg ik ne pcb x8 wd) ik (31 * (T + i)) dpt 4 ((tA FF), 0, (fun _ => 0)) (psb &&& (thr n)) 0).2.1 - (mk1 (T + i)))) ≤ (42 * (max fm (T + rr)) + 69 * SM (mkr F T n w lst dpt wd ru rl vv eg ik ne pcb (psb &&& (thr n)) tg mk rr) 16 - (42 * fm + 69 * SM mk 16)); omega)⟩) (fun ru7 u9 H locs hpu7 hP hD hS => ?_)
    obtain ⟨ad7u7, gg7u7⟩ := u9
    have hpu7 : ru7 = nI 0 ∧ (∀ z8, (z8 < 60 ∨ (72 < z8 ∧ z8 < 200) ∨ 260 ≤ z8) → z8 ≠ 6 → z8 ≠ 8 → z8 ≠ 1000 + (T + i) → z8 ≠ 1020 + (T + i) → z8 ≠ 1040 + (T + i) → (z8 < 2000 + 32 * (T + i) + 0 ∨ 2032 + 32 * (T + i) ≤ z8) → (z8 < 3000 + 32 * (T + i) + 0 ∨ 3032 + 32 * (T + i) ≤ z8) → (z8 < 4000 + 32 * (T + i) + 0 ∨ 4032 + 32 * (T + i) ≤ z8) → gg7u7 z8 = gg7u6 z8) ∧ (∀ z8, z8 ≠ 1040 + (T + i) → (z8 < 2000 + 32 * (T + i) + 0 ∨ 2032 + 32 * (T + i) ≤ z8) → (z8 < 3000 + 32 * (T + i) + 0 ∨ 3032 + 32 * (T + i) ≤ z8) → (z8 < 4000 + 32 * (T + i) + 0 ∨ 4032 + 32 * (T + i) ≤ z8) → ad7u7 z8 = ad7u6 z8) ∧ gg7u7 (1000 + (T + i)) = some (eTR (ad7u7 (1020 + (T + i))) (nI (cgw (fun x8 => colF (xR FF vv tg (T + i)) n w lst vv eg ik ne pcb x8 wd) ik (31 * (T + i)) dpt 4 ((tA FF), 0, (fun _ => 0)) (psb &&& (thr n)) 0).2.1) w8 u8 l8 s8) ∧ TMD cT ad7u7 gg7u7 tE (T + i) (max (mk1 (T + i)) (cgw (fun x8 => colF (xR FF vv tg (T + i)) n w lst vv eg ik ne pcb x8 wd) ik (31 * (T + i)) dpt 4 ((tA FF), 0, (fun _ => 0)) (psb &&& (thr n)) 0).2.1) ∧ NDS cT ad7u7 gg7u7 (cgw (fun x8 => colF (xR FF vv tg (T + i)) n w lst vv eg ik ne pcb x8 wd) ik (31 * (T + i)) dpt 4 ((tA FF), 0, (fun _ => 0)) (psb &&& (thr n)) 0) (T + i) (xR FF vv tg (T + i)) n 0 (cgw (fun x8 => colF (xR FF vv tg (T + i)) n w lst vv eg ik ne pcb x8 wd) ik (31 * (T + i)) dpt 4 ((tA FF), 0, (fun _ => 0)) (psb &&& (thr n)) 0).2.1 ∧ GRB cT ad7u7 gg7u7 n (xR FF vv tg (T + i)) XBc vv vq eg ik ne dpt lst w (nI ru) (nI rl) psb pcb wd := hpu7
    have hP : va_P D vwCl ([] ++ pg cds ad7u7 gg7u7) _ := hP
    have hD : va_D A ([] ++ pg cds ad7u7 gg7u7) := hD
    have hp4 : ru7 = nI 0 ∧ _ := hpu7
    rw [show cgw (fun x8 => colF (xR FF vv tg (T + i)) n w lst vv eg ik ne pcb x8 wd) ik (31 * (T + i)) dpt 4 (tA FF, 0, fun _ => 0) (psb &&& (thr n)) 0 = grw FF (T + i) (xR FF vv tg (T + i)) n w lst dpt wd vv eg ik ne pcb (psb &&& (thr n)) from hcg] at hp4
    obtain ⟨hr4, F4, A4, T4, M4, N4, hGB4⟩ := hp4
    have hl : lv_has ls 7 [(6, .ref (ad7u7 (1000 + (T + i)))), (0, .ref (ad7u7 0)), (1, .int (nI rr)), (2, .long (psb &&& (thr n))), (4, .int (nI T)), (5, .int (nI i))] := by rw [A4 (1000 + (T + i)) (by omega) (by omega) (by omega) (by omega), A4 0 (by omega) (by omega) (by omega) (by omega)]; exact hl
    have hob4 : gg7u7 0 = some (eOB ad7u7 (nI (T + i))) := by rw [eOB_ca (ad2 := ad7u7) (ad := ad7u6) (fun x x1 x2 => A4 x (by omega) (by omega) (by omega) (by omega))]; exact (F4 _ (by omega) (by omega) (by omega) (by omega) (by omega) (by omega) (by omega) (by omega) (by omega)).trans hob3
    obtain ⟨ehtb, ehRs, ehCa, ehCf, ehpl, ehGa, ehSc, ehGs, ⟨efo, ehod⟩, ebb9, ett9, eb90, ehgr, ehbt, ehSP⟩ := id hGB4
    obtain ⟨F9, hF9⟩ : ∃ f9 : TFR, f9 = rd1 FF (T + i) n w lst dpt wd ru rl vv eg ik ne pcb (psb &&& (thr n)) tg := ⟨_, rfl⟩
    obtain ⟨t1, t2, t3⟩ := rd_tok (vv := vv) (eg := eg) (ik := ik) (ne := ne) (chb := pcb) (AA := psb &&& (thr n)) (tg := tg) iT (by omega) hdp4.2 hn48 sub_thr hA0 hw20 hls2.1 hwd6 hr9 htg
    rw [← hF9] at t1 t2
    have hW9 : tW F9 (T + i) = w := by rw [hF9]; exact va_up_self _ _ _
    have hU9 : tU F9 (T + i) = ru := by rw [hF9]; exact va_up_self _ _ _
    have hL9 : tL F9 (T + i) = rl := by rw [hF9]; exact va_up_self _ _ _
    have hM8 : tM F9 (T + i) = (grw FF (T + i) (xR FF vv tg (T + i)) n w lst dpt wd vv eg ik ne pcb (psb &&& (thr n))).2.1 := by rw [hF9]; exact va_up_self _ _ _
    have hTn9 := grown (ru := ru) (rl := rl) M4 (by omega) (by omega) N4
    rw [← hF9] at hTn9
    refine lv_pop hx hb dR_train_117 rfl ?_
    refine lv_aload hx hb dR_train_118 (lv_at hl 0 rfl) ?_
    refine lv_aload_n hx hb dR_train_120 rfl (lv_at hl 1 rfl) ?_
    refine va_get (D := D) (ci := 0) (v := .ref (ad7u7 4)) (C := R_R) (T := T_R) (N := 13) hx hb hT in_R hown hK (pg_1 (x := 0) hcd hP (by decide) hob4) 0 rfl rfl 1 (by decide) (hT _ w325) (fun _ h9 => h9) rfl dR_train_121 ?_
    refine hy_vP (X := []) (pl := pg cds ad7u7 gg7u7) (cx := []) (wr := []) hP hD hS hA [] [] rfl rfl (by decide) (by decide) (va_runV (As := [.ref (ad7u7 4)]) (rest := []) ⟨hx, hb, hml, hown, hT⟩ (k_settle l D cT cds ad7u7 gg7u7 F9 (T + i) s8 w8 u8 l8 (nI dpt) (nI lst) psb pcb hcd (by rw [hM8]; exact T4) hTn9 (by omega) (t1.2 (T + i) (by omega)) (by rw [hW9, hU9, hL9]; exact ehpl) _) ⟨callB_of 1 hT (tb_gd w954) rfl rfl rfl (hT _ w24) (hT _ w951) hTr_settle ⟨Nat.le_of_ble_eq_true rfl, Nat.le_of_ble_eq_true rfl⟩, (hT _ w952), (hT _ w953)⟩ (RW.preW (ci := 9) (q0 := 0) hZ hS (va_freeP (cx := []) hD hS hA [] rfl) (hP.part (cx := []) [] rfl) hK (hD.part (cx := []) [] (by decide) rfl) (pg_1 (x := 1000 + (T + i)) hcd hP (by omega) T4) rfl rfl) rfl rfl hl.1 rfl (lv_room (Nat.le_of_ble_eq_true rfl)) dR_train_124 ⟨(by show ((((3 * fm1 + 4 * SM mk1 16 - (3 * fm + 4 * SM mk 16)) + 0) + (3 * (max fm1 ((T + i) + 1) - fm1))) + (4 * (max (mk1 (T + i)) (cgw (fun x8 => colF (xR FF vv tg (T + i)) n w lst vv eg ik ne pcb x8 wd) ik (31 * (T + i)) dpt 4 ((tA FF), 0, (fun _ => 0)) (psb &&& (thr n)) 0).2.1 - (mk1 (T + i))))) + 0 ≤ (3 * (max fm (T + rr)) + 4 * SM (mkr F T n w lst dpt wd ru rl vv eg ik ne pcb (psb &&& (thr n)) tg mk rr) 16 - (3 * fm + 4 * SM mk 16)); omega), (by show ((((42 * fm1 + 69 * SM mk1 16 - (42 * fm + 69 * SM mk 16)) + 0) + (42 * (max fm1 ((T + i) + 1) - fm1))) + (69 * (max (mk1 (T + i)) (cgw (fun x8 => colF (xR FF vv tg (T + i)) n w lst vv eg ik ne pcb x8 wd) ik (31 * (T + i)) dpt 4 ((tA FF), 0, (fun _ => 0)) (psb &&& (thr n)) 0).2.1 - (mk1 (T + i))))) + 0 ≤ (42 * (max fm (T + rr)) + 69 * SM (mkr F T n w lst dpt wd ru rl vv eg ik ne pcb (psb &&& (thr n)) tg mk rr) 16 - (42 * fm + 69 * SM mk 16)); omega)⟩) (fun u9 H locs hpu8 hP hD hS => ?_)
    obtain ⟨gg7u8, rfl⟩ : ∃ q9, q9 = u9 := ⟨_, rfl⟩
    have hpu8 : (∀ z8, z8 ≠ 1000 + (T + i) → gg7u8 z8 = gg7u7 z8) ∧ gg7u8 (1000 + (T + i)) = some (eTR (ad7u7 (1020 + (T + i))) (nI (tM F9 (T + i))) (nI (tW F9 (T + i))) (nI (tU F9 (T + i))) (nI (tL F9 (T + i))) (lN (sca F9 (T + i)))) := hpu8
    have hP : va_P D vwCl ([] ++ pg cds ad7u7 gg7u8) _ := hP
    have hD : va_D A ([] ++ pg cds ad7u7 gg7u8) := hD
    obtain ⟨F5, T5⟩ := hpu8
    refine lv_aload_n hx hb dR_train_127 rfl (lv_at hl 1 rfl) ?_
    refine lv_dup hx hb dR_train_128 rfl ?_
    refine va_get (D := D) (ci := 0) (v := .int (nI (T + i))) (C := R_R) (T := T_R) (N := 13) hx hb hT in_R hown hK (pg_1 (x := 0) hcd hP (by decide) ((F5 _ (by omega)).trans hob4)) 0 rfl rfl 5 (by decide) (hT _ w329) (fun _ h9 => h9) rfl dR_train_129 ?_
    refine lv_iconst (v := 1) hx hb dR_train_132 (by decide) ?_
    refine lv_iadd hx hb dR_train_133 ?_
    refine lv_topi (fun y9 e9 => ?_)
    cases (show y9 = nI ((T + i) + 1) from e9.trans (nI_add (T + i) 1))
    have hB9 : QI gg7u8 [(0, .inr (0, [.ref (ad7u7 1), .ref (ad7u7 4), .ref (ad7u7 5), .ref (ad7u7 6), .ref (ad7u7 9), .int (nI (T + i)), .ref (ad7u7 41), .ref (ad7u7 48), .ref (ad7u7 50), .ref (ad7u7 52), .ref (ad7u7 54), .ref (ad7u7 56), .ref (ad7u7 58)]))] := (qi_c (by decide) ((F5 _ (by omega)).trans hob4) qi_0)
    have hN9 := (show NDc [0] from (nd_c na_0 nd_0))
    have hP := bo_P (wc := [(0, .inr (0, [.ref (ad7u7 1), .ref (ad7u7 4), .ref (ad7u7 5), .ref (ad7u7 6), .ref (ad7u7 9), .int (nI (T + i)), .ref (ad7u7 41), .ref (ad7u7 48), .ref (ad7u7 50), .ref (ad7u7 52), .ref (ad7u7 54), .ref (ad7u7 56), .ref (ad7u7 58)]))]) (X := []) hcd hN9 hB9 hP
    have hD := bo_D (wc := [(0, .inr (0, [.ref (ad7u7 1), .ref (ad7u7 4), .ref (ad7u7 5), .ref (ad7u7 6), .ref (ad7u7 9), .int (nI (T + i)), .ref (ad7u7 41), .ref (ad7u7 48), .ref (ad7u7 50), .ref (ad7u7 52), .ref (ad7u7 54), .ref (ad7u7 56), .ref (ad7u7 58)]))]) (X := []) hcd hN9 hB9 hD
    have hP : va_P D vwCl ([(ad7u7 0, .inr (0, [.ref (ad7u7 1), .ref (ad7u7 4), .ref (ad7u7 5), .ref (ad7u7 6), .ref (ad7u7 9), .int (nI (T + i)), .ref (ad7u7 41), .ref (ad7u7 48), .ref (ad7u7 50), .ref (ad7u7 52), .ref (ad7u7 54), .ref (ad7u7 56), .ref (ad7u7 58)]))] ++ pg cds ad7u7 (upo gg7u8 [0])) _ := hP
    have hD : va_D A ([(ad7u7 0, .inr (0, [.ref (ad7u7 1), .ref (ad7u7 4), .ref (ad7u7 5), .ref (ad7u7 6), .ref (ad7u7 9), .int (nI (T + i)), .ref (ad7u7 41), .ref (ad7u7 48), .ref (ad7u7 50), .ref (ad7u7 52), .ref (ad7u7 54), .ref (ad7u7 56), .ref (ad7u7 58)]))] ++ pg cds ad7u7 (upo gg7u8 [0])) := hD
    refine va_put (D := D) (ci := 0) (v := .int (nI ((T + i) + 1))) (ty := .int) (C := R_R) (T := T_R) (N := 13) hx hb hT in_R ty_R ty_R_ok m_R hown hK hP hD hS 0 rfl rfl 5 (by decide) (hT _ w329) (fun _ h9 => h9) rfl (by decide +kernel) rfl rfl (Nat.le_of_ble_eq_true rfl) dR_train_134 (fun H locs hP hD hS => ?_)
    have hP : va_P D vwCl ([(ad7u7 0, .inr (0, [.ref (ad7u7 1), .ref (ad7u7 4), .ref (ad7u7 5), .ref (ad7u7 6), .ref (ad7u7 9), .int (nI ((T + i) + 1)), .ref (ad7u7 41), .ref (ad7u7 48), .ref (ad7u7 50), .ref (ad7u7 52), .ref (ad7u7 54), .ref (ad7u7 56), .ref (ad7u7 58)]))] ++ pg cds ad7u7 (upo gg7u8 [0])) _ := hP
    have hD : va_D A ([(ad7u7 0, .inr (0, [.ref (ad7u7 1), .ref (ad7u7 4), .ref (ad7u7 5), .ref (ad7u7 6), .ref (ad7u7 9), .int (nI ((T + i) + 1)), .ref (ad7u7 41), .ref (ad7u7 48), .ref (ad7u7 50), .ref (ad7u7 52), .ref (ad7u7 54), .ref (ad7u7 56), .ref (ad7u7 58)]))] ++ pg cds ad7u7 (upo gg7u8 [0])) := hD
    have hN9 := (show NDc [0] from (nd_c na_0 nd_0))
    have hP := gb_P (w9 := [(0, .inr (0, [.ref (ad7u7 1), .ref (ad7u7 4), .ref (ad7u7 5), .ref (ad7u7 6), .ref (ad7u7 9), .int (nI ((T + i) + 1)), .ref (ad7u7 41), .ref (ad7u7 48), .ref (ad7u7 50), .ref (ad7u7 52), .ref (ad7u7 54), .ref (ad7u7 56), .ref (ad7u7 58)]))]) (X := []) (g := gg7u8) hcd hN9 (show QB [(0, .inr (0, [.ref (ad7u7 1), .ref (ad7u7 4), .ref (ad7u7 5), .ref (ad7u7 6), .ref (ad7u7 9), .int (nI ((T + i) + 1)), .ref (ad7u7 41), .ref (ad7u7 48), .ref (ad7u7 50), .ref (ad7u7 52), .ref (ad7u7 54), .ref (ad7u7 56), .ref (ad7u7 58)]))] from (qb_c (by decide) qb_0)) (hP.part (cx := [(ad7u7 0, .inr (0, [.ref (ad7u7 1), .ref (ad7u7 4), .ref (ad7u7 5), .ref (ad7u7 6), .ref (ad7u7 9), .int (nI ((T + i) + 1)), .ref (ad7u7 41), .ref (ad7u7 48), .ref (ad7u7 50), .ref (ad7u7 52), .ref (ad7u7 54), .ref (ad7u7 56), .ref (ad7u7 58)]))]) [0] rfl)
    have hD := gb_D (w9 := [(0, .inr (0, [.ref (ad7u7 1), .ref (ad7u7 4), .ref (ad7u7 5), .ref (ad7u7 6), .ref (ad7u7 9), .int (nI ((T + i) + 1)), .ref (ad7u7 41), .ref (ad7u7 48), .ref (ad7u7 50), .ref (ad7u7 52), .ref (ad7u7 54), .ref (ad7u7 56), .ref (ad7u7 58)]))]) (X := []) (g := gg7u8) hcd hN9 (show QB [(0, .inr (0, [.ref (ad7u7 1), .ref (ad7u7 4), .ref (ad7u7 5), .ref (ad7u7 6), .ref (ad7u7 9), .int (nI ((T + i) + 1)), .ref (ad7u7 41), .ref (ad7u7 48), .ref (ad7u7 50), .ref (ad7u7 52), .ref (ad7u7 54), .ref (ad7u7 56), .ref (ad7u7 58)]))] from (qb_c (by decide) qb_0)) (hD.part (cx := [(ad7u7 0, .inr (0, [.ref (ad7u7 1), .ref (ad7u7 4), .ref (ad7u7 5), .ref (ad7u7 6), .ref (ad7u7 9), .int (nI ((T + i) + 1)), .ref (ad7u7 41), .ref (ad7u7 48), .ref (ad7u7 50), .ref (ad7u7 52), .ref (ad7u7 54), .ref (ad7u7 56), .ref (ad7u7 58)]))]) [0] (by decide) rfl)
    obtain ⟨g6, hg6⟩ : ∃ q9, q9 = ups gg7u8 [(0, .inr (0, [.ref (ad7u7 1), .ref (ad7u7 4), .ref (ad7u7 5), .ref (ad7u7 6), .ref (ad7u7 9), .int (nI ((T + i) + 1)), .ref (ad7u7 41), .ref (ad7u7 48), .ref (ad7u7 50), .ref (ad7u7 52), .ref (ad7u7 54), .ref (ad7u7 56), .ref (ad7u7 58)]))] := ⟨_, rfl⟩
    rw [← hg6] at hP hD
    have hP : va_P D vwCl ([] ++ pg cds ad7u7 g6) _ := hP
    have hD : va_D A ([] ++ pg cds ad7u7 g6) := hD
    have fg6 : ∀ z8, z8 ≠ 0 → g6 z8 = gg7u8 z8 := fun z8 z1 => by rw [hg6]; exact ups_k (kp_n z1 kp_0)
    have g6_0 : g6 0 = some (.inr (0, [.ref (ad7u7 1), .ref (ad7u7 4), .ref (ad7u7 5), .ref (ad7u7 6), .ref (ad7u7 9), .int (nI ((T + i) + 1)), .ref (ad7u7 41), .ref (ad7u7 48), .ref (ad7u7 50), .ref (ad7u7 52), .ref (ad7u7 54), .ref (ad7u7 56), .ref (ad7u7 58)])) := by rw [hg6]; exact ups_1
    have hgt : ∀ z8, 1000 ≤ z8 → g6 z8 = gg7u8 z8 := fun z8 hz => fg6 z8 (by omega)
    have hFT6 : FST cT ad7u7 g6 tE (max fm1 (T + i + 1)) (va_up mk1 (T + i) (max (mk1 (T + i)) (grw FF (T + i) (xR FF vv tg (T + i)) n w lst dpt wd vv eg ik ne pcb (psb &&& (thr n))).2.1)) := fst_tr (g := gg7u6) FT3 (by omega) ((fg6 _ (by omega)).trans ((F5 _ (by omega)).trans (F4 _ (by omega) (by omega) (by omega) (by omega) (by omega) (by omega) (by omega) (by omega) (by omega)))) ((fg6 _ (by omega)).trans ((F5 _ (by omega)).trans (F4 _ (by omega) (by omega) (by omega) (by omega) (by omega) (by omega) (by omega) (by omega) (by omega)))) (A4 _ (by omega) (by omega) (by omega) (by omega)) (fun z8 n0 n1 n2 n3 n4 n5 n6 => (fg6 z8 (by omega)).trans ((F5 z8 n1).trans (F4 z8 (by omega) (by omega) (by omega) (by omega) (by omega) (by omega) (by omega) (by omega) (by omega)))) (fun z8 n1 n2 n3 n4 => A4 z8 (by omega) (by omega) (by omega) (by omega)) ((fg6 _ (by omega)).trans T5) (M4.cg ((fg6 _ (by omega)).trans (F5 _ (by omega))) ((fg6 _ (by omega)).trans (F5 _ (by omega))) rfl (fun j hj => ⟨(fg6 _ (by omega)).trans (F5 _ (by omega)), (fg6 _ (by omega)).trans (F5 _ (by omega)), (fg6 _ (by omega)).trans (F5 _ (by omega)), rfl, rfl, rfl⟩))
    have hTs6 : TRS cT ad7u7 g6 F9 (T + i + 1) := fun t ht => by
      rcases (show t = T + i ∨ t < T + i by omega) with q | q
      · rw [q]
        obtain ⟨m9, b1, b2, b3, b4⟩ := hTn9
        obtain ⟨cap9, md9, lf9, c1, c2, c3⟩ := b1
        exact ⟨m9, (fg6 _ (by omega)).trans T5, ⟨cap9, md9, lf9, (fg6 _ (by omega)).trans ((F5 _ (by omega)).trans c1), (fg6 _ (by omega)).trans ((F5 _ (by omega)).trans c2), c3⟩, b2, b3, fun k hk => ⟨(b4 k hk).1.cg ((fg6 _ (by omega)).trans (F5 _ (by omega))) rfl (fun _ _ => rfl), (b4 k hk).2.cg ((fg6 _ (by omega)).trans (F5 _ (by omega))) ((fg6 _ (by omega)).trans (F5 _ (by omega)))⟩⟩
      · refine TRp.feq (TRp.far (chTs t q) (by omega) (fun z hz => ⟨(fg6 z (by omega)).trans ((F5 z (by omega)).trans ((F4 z (by omega) (by omega) (by omega) (by omega) (by omega) (by omega) (by omega) (by omega) (by omega)).trans ((F3 z (by omega) (by omega) (by omega) (by omega)).trans (F2 z (by omega) (by omega) (by omega))))), (A4 z (by omega) (by omega) (by omega) (by omega)).trans (A3 z (by omega) (by omega) (by omega))⟩)) t2 q ((iT.2 t q).1.2.1)
    have hGB6 : GRB cT ad7u7 g6 n (xR FF vv tg (T + i)) XBc vv vq eg ik ne dpt lst w (nI ru) (nI rl) psb pcb wd := hGB4.cg (fun _ _ _ => rfl) (fun x x1 x0 x2 x3 => (fg6 x x0).trans (F5 x (by omega)))
    obtain ⟨fhtb, fhRs, fhCa, fhCf, fhpl, fhGa, fhSc, fhGs, ⟨ffo, fhod⟩, fbb9, ftt9, fb90, fhgr, fhbt, fhSP⟩ := id hGB6
    have hTg6 : TGp cT g6 n tg := by obtain ⟨ft, e1, e2⟩ := chTg; exact ⟨ft, (fg6 _ (by omega)).trans ((F5 _ (by omega)).trans ((F4 _ (by omega) (by omega) (by omega) (by omega) (by omega) (by omega) (by omega) (by omega) (by omega)).trans ((F3 _ (by omega) (by omega) (by omega) (by omega)).trans ((F2 _ (by omega) (by omega) (by omega)).trans e1)))), e2⟩
    have hLf6 : WHO cT ad7u7 g6 50 51 24 zf2 := (L2.cg ((fg6 _ (by omega)).trans ((F5 _ (by omega)).trans ((F4 _ (by omega) (by omega) (by omega) (by omega) (by omega) (by omega) (by omega) (by omega) (by omega)).trans (F3 _ (by omega) (by omega) (by omega) (by omega))))) ((fg6 _ (by omega)).trans ((F5 _ (by omega)).trans ((F4 _ (by omega) (by omega) (by omega) (by omega) (by omega) (by omega) (by omega) (by omega) (by omega)).trans (F3 _ (by omega) (by omega) (by omega) (by omega)))))).ca ((A4 _ (by omega) (by omega) (by omega) (by omega)).trans (A3 _ (by omega) (by omega) (by omega)))
    have hCm6 : WHO cT ad7u7 g6 52 53 24 czc0 := (chCm.cg ((fg6 _ (by omega)).trans ((F5 _ (by omega)).trans ((F4 _ (by omega) (by omega) (by omega) (by omega) (by omega) (by omega) (by omega) (by omega) (by omega)).trans ((F3 _ (by omega) (by omega) (by omega) (by omega)).trans (F2 _ (by omega) (by omega) (by omega)))))) ((fg6 _ (by omega)).trans ((F5 _ (by omega)).trans ((F4 _ (by omega) (by omega) (by omega) (by omega) (by omega) (by omega) (by omega) (by omega) (by omega)).trans ((F3 _ (by omega) (by omega) (by omega) (by omega)).trans (F2 _ (by omega) (by omega) (by omega))))))).ca ((A4 _ (by omega) (by omega) (by omega) (by omega)).trans (A3 _ (by omega) (by omega) (by omega)))
    refine lv_aload_n hx hb dR_train_137 rfl (lv_at hl 1 rfl) ?_
    refine hy_iP (X := []) (pl := pg cds ad7u7 g6) (cx := []) (wr := []) hP hD hS hA [] [] rfl rfl (by decide) (by decide) (va_runV (As := []) (rest := []) ⟨hx, hb, hml, hown, hT⟩ (k_commonBits l D cT cds ad7u7 g6 (nI wd) (nI n) (max fm1 (T + i + 1)) F9 (T + i + 1) n vv vq tg n (xR FF vv tg (T + i)) zf2 czc0 hcd g6_0 fhtb rfl hn48 hFT6.1.frp (by omega) hTs6 t1 (by omega) fhCa fhCf.a hTg6 htg fhRs hLf6 hCm6 _) ⟨callB_of 0 hT (tb_gd w962) rfl rfl rfl (hT _ w1) (hT _ w959) hR_commonBits ⟨Nat.le_of_ble_eq_true rfl, Nat.le_of_ble_eq_true rfl⟩, (hT _ w961), (hT _ wp22)⟩ (RW.preW (ci := 0) (q0 := 0) hZ hS (va_freeP (cx := []) hD hS hA [] rfl) (hP.part (cx := []) [] rfl) hK (hD.part (cx := []) [] (by decide) rfl) (pg_1 (x := 0) hcd hP (by decide) g6_0) rfl rfl) rfl rfl hl.1 rfl (lv_room (Nat.le_of_ble_eq_true rfl)) dR_train_138 ⟨(by show (((((3 * fm1 + 4 * SM mk1 16 - (3 * fm + 4 * SM mk 16)) + 0) + (3 * (max fm1 ((T + i) + 1) - fm1))) + (4 * (max (mk1 (T + i)) (cgw (fun x8 => colF (xR FF vv tg (T + i)) n w lst vv eg ik ne pcb x8 wd) ik (31 * (T + i)) dpt 4 ((tA FF), 0, (fun _ => 0)) (psb &&& (thr n)) 0).2.1 - (mk1 (T + i))))) + 0) + 0 ≤ (3 * (max fm (T + rr)) + 4 * SM (mkr F T n w lst dpt wd ru rl vv eg ik ne pcb (psb &&& (thr n)) tg mk rr) 16 - (3 * fm + 4 * SM mk 16)); omega), (by show (((((42 * fm1 + 69 * SM mk1 16 - (42 * fm + 69 * SM mk 16)) + 0) + (42 * (max fm1 ((T + i) + 1) - fm1))) + (69 * (max (mk1 (T + i)) (cgw (fun x8 => colF (xR FF vv tg (T + i)) n w lst vv eg ik ne pcb x8 wd) ik (31 * (T + i)) dpt 4 ((tA FF), 0, (fun _ => 0)) (psb &&& (thr n)) 0).2.1 - (mk1 (T + i))))) + 0) + 0 ≤ (42 * (max fm (T + rr)) + 69 * SM (mkr F T n w lst dpt wd ru rl vv eg ik ne pcb (psb &&& (thr n)) tg mk rr) 16 - (42 * fm + 69 * SM mk 16)); omega)⟩) (fun ru9 u9 H locs hpu9 hP hD hS => ?_)
    obtain ⟨gg7u9, d7u9⟩ := u9
    have hpu9 : ru9 = nI (bl d7u9) ∧ CMD n (xR F9 vv tg (T + i + 1)) (Ppf F9 (T + i + 1)) d7u9 ∧ (∀ z8, (z8 < 100 ∨ 200 ≤ z8) → z8 ≠ 50 → z8 ≠ 51 → z8 ≠ 52 → z8 ≠ 53 → gg7u9 z8 = g6 z8) ∧ (∃ y8, RSp cT ad7u7 gg7u9 n y8) ∧ (∃ z8, WHO cT ad7u7 gg7u9 50 51 24 z8) ∧ ∃ z8, WHO cT ad7u7 gg7u9 52 53 24 z8 := hpu9
    have hP : va_P D vwCl ([] ++ pg cds ad7u7 gg7u9) _ := hP
    have hD : va_D A ([] ++ pg cds ad7u7 gg7u9) := hD
    obtain ⟨r7, C7, F7, ⟨y7, R7⟩, L7, M7⟩ := hpu9
    refine lv_topi (fun y9 e9 => ?_)
    cases (show y9 = nI (bl d7u9) from e9.trans r7)
    obtain ⟨hPp, hPl⟩ := Ppf_16 t1 (by omega) (Nat.le_refl _)
    have hbl := bl_pbc (Nat.le_trans (cmd_le hPp C7) hPl)
    refine lv_sipush (v := 1500) hx hb dR_train_141 (by decide) ?_
    refine lv_icmp_le (tgt := 160) hx hb dR_train_144 rfl (fun _ => ?_) (fun h10 => absurd ((nI_leI (a := bl d7u9) (b := 1500) (by omega) (by omega)).mpr (by omega)) h10)
    refine lv_iinc (k := 5) (v := nI (i + 1)) hx hb dR_train_160 hl rfl (nI_1 i) (by decide) rfl (fun ls hl => ?_)
    have hl : lv_has ls 7 [(5, .int (nI (i + 1))), (6, .ref (ad7u7 (1000 + (T + i)))), (0, .ref (ad7u7 0)), (1, .int (nI rr)), (2, .long (psb &&& (thr n))), (4, .int (nI T))] := hl
    refine lv_goto (tgt := 86) hx hb dR_train_163 rfl ?_
    have hK9 : mkr F T n w lst dpt wd ru rl vv eg ik ne pcb (psb &&& (thr n)) tg mk (i + 1) = va_up mk1 (T + i) (max (mk1 (T + i)) (grw FF (T + i) (xR FF vv tg (T + i)) n w lst dpt wd vv eg ik ne pcb (psb &&& (thr n))).2.1) := by show va_up (mkr F T n w lst dpt wd ru rl vv eg ik ne pcb (psb &&& (thr n)) tg mk i) (T + i) (max (mkr F T n w lst dpt wd ru rl vv eg ik ne pcb (psb &&& (thr n)) tg mk i (T + i)) (tM (rds F T n w lst dpt wd ru rl vv eg ik ne pcb (psb &&& (thr n)) tg (i + 1)) (T + i))) = _; rw [hM9, ← iK]
    have hV9 : TRV cT ad7u7 gg7u9 tE (T + (i + 1)) (max fm1 (T + i + 1)) (mkr F T n w lst dpt wd ru rl vv eg ik ne pcb (psb &&& (thr n)) tg mk (i + 1)) F9 n wd vv vq eg ik ne tg dpt lst w ru rl psb pcb := ⟨(F7 _ (by omega) (by omega) (by omega) (by omega) (by omega)).trans g6_0, (by obtain ⟨ft, e1, e2⟩ := hTg6; exact ⟨ft, (F7 _ (by omega) (by omega) (by omega) (by omega) (by omega)).trans e1, e2⟩), (by rw [hK9]; exact hFT6.cg (F7 _ (by omega) (by omega) (by omega) (by omega) (by omega)) (F7 _ (by omega) (by omega) (by omega) (by omega) (by omega)) (fun z hz => F7 z (by omega) (by omega) (by omega) (by omega) (by omega))), (hTs6.cg (by omega) (fun z hz => F7 z (by omega) (by omega) (by omega) (by omega) (by omega))), ⟨y7, hGB6.rs (fun x x1 x0 x2 x3 x4 x5 => F7 x x1 x2 x3 x4 x5) R7⟩, L7, M7⟩
    refine W.widen (k := 3 * (max fm1 (T + i + 1)) + 4 * SM (mkr F T n w lst dpt wd ru rl vv eg ik ne pcb (psb &&& (thr n)) tg mk (i + 1)) 16 - (3 * fm + 4 * SM mk 16)) (n := 42 * (max fm1 (T + i + 1)) + 69 * SM (mkr F T n w lst dpt wd ru rl vv eg ik ne pcb (psb &&& (thr n)) tg mk (i + 1)) 16 - (42 * fm + 69 * SM mk 16)) (by show (((((3 * fm1 + 4 * SM mk1 16 - (3 * fm + 4 * SM mk 16)) + 0) + (3 * (max fm1 ((T + i) + 1) - fm1))) + (4 * (max (mk1 (T + i)) (cgw (fun x8 => colF (xR FF vv tg (T + i)) n w lst vv eg ik ne pcb x8 wd) ik (31 * (T + i)) dpt 4 ((tA FF), 0, (fun _ => 0)) (psb &&& (thr n)) 0).2.1 - (mk1 (T + i))))) + 0) + 0 ≤ 3 * (max fm1 (T + i + 1)) + 4 * SM (mkr F T n w lst dpt wd ru rl vv eg ik ne pcb (psb &&& (thr n)) tg mk (i + 1)) 16 - (3 * fm + 4 * SM mk 16); omega) (by show (((((42 * fm1 + 69 * SM mk1 16 - (42 * fm + 69 * SM mk 16)) + 0) + (42 * (max fm1 ((T + i) + 1) - fm1))) + (69 * (max (mk1 (T + i)) (cgw (fun x8 => colF (xR FF vv tg (T + i)) n w lst vv eg ik ne pcb x8 wd) ik (31 * (T + i)) dpt 4 ((tA FF), 0, (fun _ => 0)) (psb &&& (thr n)) 0).2.1 - (mk1 (T + i))))) + 0) + 0 ≤ 42 * (max fm1 (T + i + 1)) + 69 * SM (mkr F T n w lst dpt wd ru rl vv eg ik ne pcb (psb &&& (thr n)) tg mk (i + 1)) 16 - (42 * fm + 69 * SM mk 16); omega) ?_
    exact ih86 (i + 1, ad7u7, gg7u9, F9, max fm1 (T + i + 1), mkr F T n w lst dpt wd ru rl vv eg ik ne pcb (psb &&& (thr n)) tg mk (i + 1)) (show (i + 1) ≤ rr ∧ F9 = rds F T n w lst dpt wd ru rl vv eg ik ne pcb (psb &&& (thr n)) tg (i + 1) ∧ (mkr F T n w lst dpt wd ru rl vv eg ik ne pcb (psb &&& (thr n)) tg mk (i + 1)) = mkr F T n w lst dpt wd ru rl vv eg ik ne pcb (psb &&& (thr n)) tg mk (i + 1) ∧ (max fm1 (T + i + 1)) = max fm (T + (i + 1)) ∧ TOK F9 (T + (i + 1)) ∧ TRV cT ad7u7 gg7u9 tE (T + (i + 1)) (max fm1 (T + i + 1)) (mkr F T n w lst dpt wd ru rl vv eg ik ne pcb (psb &&& (thr n)) tg mk (i + 1)) F9 n wd vv vq eg ik ne tg dpt lst w ru rl psb pcb ∧ (∀ z8, z8 ≠ 40 → z8 < 1000 → ad7u7 z8 = ad z8) ∧ (∀ z8, ((40 < z8 ∧ z8 < 50) ∨ (53 < z8 ∧ z8 < 60)) → gg7u9 z8 = gg z8) from ⟨by omega, (by rw [hF9, iE]; rfl), rfl, by omega, t1, hV9, (fun z8 n1 n2 => (A4 z8 (by omega) (by omega) (by omega) (by omega)).trans ((A3 z8 (by omega) (by omega) (by omega)).trans (iA z8 n1 n2))), (fun z8 n1 => (F7 z8 (by omega) (by omega) (by omega) (by omega) (by omega)).trans ((fg6 z8 (by omega)).trans ((F5 z8 (by omega)).trans ((F4 z8 (by omega) (by omega) (by omega) (by omega) (by omega) (by omega) (by omega) (by omega) (by omega)).trans ((F3 z8 (by omega) (by omega) (by omega) (by omega)).trans ((F2 z8 (by omega) (by omega) (by omega)).trans (iG z8 n1)))))))⟩) (show rr - (i + 1) < rr - i from (by omega)) ls H locs (lv_sub hl [2, 3, 4, 5, 0] rfl) hP hD hS
