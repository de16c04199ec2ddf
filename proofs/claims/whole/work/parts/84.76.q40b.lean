/-! The law: the reference's cells lie in the pool too (code 5000 + field; the object at 5060). -/
theorem tc_gd {own : String} {index : Nat} {y : MethodName} {ws : List Cond} (h1 : Cond.methodLink own index y ∈ TB) (h2 : Cond.static y ∈ TB) (h3 : Cond.initialized y.cls ∈ TB) (hw : GoodIn TB ws) : GoodIn TB (va_wsS own index y ws) := fun w h => by
  unfold va_wsS at h
  rcases List.mem_append.mp h with q | q
  · simp only [List.mem_cons, List.not_mem_nil, or_false] at q
    rcases q with rfl | rfl | rfl
    · exact ⟨h1, good_of_word (tb_good h1)⟩
    · exact ⟨h2, good_of_word (tb_good h2)⟩
    · exact ⟨h3, good_of_word (tb_good h3)⟩
  · exact hw w q
def ykd (k : Nat) : Nat := if k = 6 ∨ k = 21 ∨ k = 26 ∨ k = 59 then 3 else if k = 48 ∨ k = 49 then 2 else 0
def ysz (k : Nat) : Nat := if k = 0 then 19 else if k = 4 then 48 else if k = 5 then 288 else if k = 7 then 66 else if k ≤ 9 then 6 else if k = 18 then 16 else if k ≤ 26 then 496 else if k = 27 then 65472 else if k = 28 then 9424 else if k ≤ 39 then 302 else if k ≤ 44 then 19 else if k = 45 then 6336 else if k = 46 then 912 else if k = 48 then 6000 else if k = 49 then 3000 else 12
def YKy (k : Nat) : Prop := k = 0 ∨ (4 ≤ k ∧ k ≤ 9) ∨ (18 ≤ k ∧ k ≤ 46) ∨ k = 48 ∨ k = 49 ∨ (56 ≤ k ∧ k ≤ 59)
def ycf (yA : Nat → Nat → Int32) (F : TFR) (k : Nat) : Nat → Int32 := if 19 ≤ k ∧ k ≤ 26 then tA F (k - 19) else yA k
def ycl (cT : Nat → ClassId) (yA : Nat → Nat → Int32) (yW : Nat → Int64) (F : TFR) (k : Nat) : va_E := if k = 56 then .inl (cT 1, 12, .inr (.inl yW)) else .inl (cT (ykd k), ysz k, .inl (ycf yA F k))
/-- the reference in the pool -/
def YCL (cT : Nat → ClassId) (ad : Nat → Nat) (g : Nat → Option va_E) (y : Nat) (yr : Nat → Nat) (yi : Nat → Int32) (ysb ybs : Int64) (yA : Nat → Nat → Int32) (yW : Nat → Int64) (F : TFR) : Prop :=
  ad 5060 = y ∧ (∀ k, YKy k → ad (5000 + k) = yr k) ∧ g 5060 = some (.inr (11, MO yr yi ysb ybs)) ∧ ∀ k, YKy k → g (5000 + k) = some (ycl cT yA yW F k)
theorem ycl_o {cT : Nat → ClassId} {yA yA2 : Nat → Nat → Int32} {yW : Nat → Int64} {F : TFR} {k : Nat} (h : yA2 k = yA k) : ycl cT yA2 yW F k = ycl cT yA yW F k := by
  unfold ycl ycf
  rw [h]
def LEN2 (p : Program) (l : Launch) (e : Env) (s : State) (m : MethodId) (args : Array Value) (below : List Frame) (meth : Method) (c : Code) (Q : State → Prop) (A : Nat → Prop) (D : va_G) (cT : Nat → ClassId) (cds : List Nat) (tE y : Nat) (yr : Nat → Nat) (zo b j : Nat) : Prop :=
  ∀ (ad : Nat → Nat) (gg : Nat → Option va_E) (T fm : Nat) (mk : Nat → Nat) (F : TFR) (n wd dpt lst w ru rl : Nat) (ne : Nat → Nat) (Lo : Nat) (yi : Nat → Int32) (ysb ybs : Int64) (yA : Nat → Nat → Int32) (yW zf : Nat → Int64) (H : Heap) (locs : List Loc) (ls : Array Slot),
    LWI cT ad gg tE T fm mk F n wd dpt lst w ru rl ne Lo yi ysb yA → YCL cT ad gg y yr yi ysb ybs yA yW F → va_P D vwCl ([(zo, .inl (cT 1, 1, .inr (.inl zf)))] ++ pg cds ad gg) H → va_D A ([(zo, .inl (cT 1, 1, .inr (.inl zf)))] ++ pg cds ad gg) → va_S A s.heap H locs → lv_has ls 7 [(0, .ref b), (1, .ref (ad 0)), (2, .ref y), (3, .ref zo), (4, .int (nI (4 * j)))] →
    W p l e room_1 s m args below meth c H locs (2000 + (j + 1) + 3 * fm + 4 * SM mk 16) (400000 + 6 * (j + 1) + 42 * fm + 69 * SM mk 16) Q (F0 m 1690 ls [])
theorem ycl_g {cT : Nat → ClassId} {yA yA2 : Nat → Nat → Int32} {yW yW2 : Nat → Int64} {F F2 : TFR} {k : Nat} (h : yA2 k = yA k) (h2 : ¬ (19 ≤ k ∧ k ≤ 26)) (h3 : ¬ k = 56) : ycl cT yA2 yW2 F2 k = ycl cT yA yW F k := by
  unfold ycl ycf
  rw [h, if_neg h2, if_neg h2, if_neg h3, if_neg h3]
theorem FST.cg5 {cT : Nat → ClassId} {ad : Nat → Nat} {g g2 : Nat → Option va_E} {tE fm : Nat} {mk : Nat → Nat} (h : FST cT ad g tE fm mk) (f : ∀ z8, z8 < 5000 → g2 z8 = g z8) : FST cT ad g2 tE fm mk := by
  obtain ⟨h1, h2, h3, h4⟩ := h
  refine ⟨h1.cg (f _ (by omega)) (f _ (by omega)) rfl (fun _ _ => rfl), h2, fun t ht => ?_, fun t t1 t2 => ⟨(h4 t t1 t2).1, (h4 t t1 t2).2.cg t2 (fun z _ hz _ => f z hz)⟩⟩
  obtain ⟨⟨k, w, u, lo, sc, e1⟩, e2⟩ := h3 t ht
  exact ⟨⟨k, w, u, lo, sc, (f _ (by omega)).trans e1⟩, tmd_far e2 (by omega) (fun z hz => ⟨f _ (by omega), rfl⟩)⟩
theorem LWI.yg {cT : Nat → ClassId} {ad : Nat → Nat} {g g2 : Nat → Option va_E} {tE T fm : Nat} {mk : Nat → Nat} {F : TFR} {n wd dpt lst w ru rl : Nat} {ne : Nat → Nat} {Lo : Nat} {yi : Nat → Int32} {ysb : Int64} {yA : Nat → Nat → Int32} (h : LWI cT ad g tE T fm mk F n wd dpt lst w ru rl ne Lo yi ysb yA) (f : ∀ z8, z8 < 5000 → g2 z8 = g z8) : LWI cT ad g2 tE T fm mk F n wd dpt lst w ru rl ne Lo yi ysb yA := by
  obtain ⟨fo, ⟨⟨a1, ⟨ft, a2, a22⟩, a3, a4, ⟨zs, a5⟩, ⟨z50, a6⟩, ⟨z52, a7⟩⟩, b2, ⟨sa, b3⟩, ⟨z54, b4⟩, ⟨z56, b5⟩, z58, b6⟩, hR, hU⟩ := h
  have hT := hU.2.1
  exact ⟨fo, ⟨⟨(f _ (by omega)).trans a1, ⟨ft, (f _ (by omega)).trans a2, a22⟩, a3.cg5 f, fun t ht => (a4 t ht).far (by omega) (fun z hz => ⟨f _ (by omega), rfl⟩), ⟨zs, a5.cg (fun _ _ _ => rfl) (fun x x1 _ _ _ => f x (by omega))⟩, ⟨z50, a6.cg (f _ (by omega)) (f _ (by omega))⟩, ⟨z52, a7.cg (f _ (by omega)) (f _ (by omega))⟩⟩, b2.cg (fun x x1 x2 => f x (by omega)), ⟨sa, (f _ (by omega)).trans b3⟩, ⟨z54, b4.cg (f _ (by omega)) (f _ (by omega))⟩, ⟨z56, b5.cg (f _ (by omega)) (f _ (by omega))⟩, z58, b6.cg (f _ (by omega)) (f _ (by omega))⟩, hR, hU⟩
theorem OUTp.ca {cT : Nat → ClassId} {ad ad2 : Nat → Nat} {g : Nat → Option va_E} {L : Nat} {fo : Nat → Int32} (h : OUTp cT ad g L fo) (f : ∀ x, 41 ≤ x → x ≤ 47 → ad2 x = ad x) : OUTp cT ad2 g L fo := by
  obtain ⟨h1, h2, ⟨uq, h3, h4⟩, ⟨z1, h5⟩, z2, h6⟩ := h
  exact ⟨by rw [f 42 (by omega) (by omega), f 43 (by omega) (by omega), f 46 (by omega) (by omega)]; exact h1, h2, ⟨uq, h3, by rw [f 44 (by omega) (by omega)]; exact h4⟩, ⟨z1, h5.ca (f _ (by omega) (by omega))⟩, z2, h6.ca (f _ (by omega) (by omega))⟩
theorem pg_non {cds : List Nat} {ad : Nat → Nat} : pg cds ad (fun _ => none) = [] := by
  unfold pg
  exact List.filterMap_eq_nil_iff.mpr (fun _ _ => rfl)
theorem CLI.ag0 {cT : Nat → ClassId} {ad ad2 : Nat → Nat} {g g2 : Nat → Option va_E} {tE : Nat} {mk : Nat → Nat} {F : TFR} {n wd : Nat} {vv vq eg ik : Nat → Int32} {ne : Nat → Nat} {tg : Nat → Int32} {dpt lst w ru rl : Nat} {psb : Int64} {pcb : Int32} {Lo : Nat} {fo : Nat → Int32} (h : CLI cT ad g tE 0 0 mk F n wd vv vq eg ik ne tg dpt lst w ru rl psb pcb Lo fo) (f : ∀ z8, z8 < 5000 → g2 z8 = g z8) (fa : ∀ z8, z8 < 5000 → ad2 z8 = ad z8) : CLI cT ad2 g2 tE 0 0 mk F n wd vv vq eg ik ne tg dpt lst w ru rl psb pcb Lo fo := by
  obtain ⟨⟨a1, ⟨ft, a2, a22⟩, ⟨h1, h2, h3, h4⟩, a4, ⟨zs, a5⟩, ⟨z50, a6⟩, ⟨z52, a7⟩⟩, b2, ⟨sa, b3⟩, ⟨z54, b4⟩, ⟨z56, b5⟩, z58, b6⟩ := h
  refine ⟨⟨by rw [eOB_ca (ad2 := ad2) (ad := ad) (fun x _ x2 => fa x (by omega))]; exact (f _ (by omega)).trans a1, ⟨ft, (f _ (by omega)).trans a2, a22⟩, ⟨h1.cg (f _ (by omega)) (f _ (by omega)) (fa _ (by omega)) (fun k hk => absurd hk (by omega)), h2, fun t ht => absurd ht (by omega), fun t t1 t2 => ⟨(h4 t t1 t2).1, (h4 t t1 t2).2.cg t2 (fun z _ hz _ => f z hz)⟩⟩, fun t ht => absurd ht (by omega), ⟨zs, a5.cg (fun x _ x2 => fa x (by omega)) (fun x x1 _ _ _ => f x (by omega))⟩, ⟨z50, (a6.cg (f _ (by omega)) (f _ (by omega))).ca (fa _ (by omega))⟩, ⟨z52, (a7.cg (f _ (by omega)) (f _ (by omega))).ca (fa _ (by omega))⟩⟩, (b2.cg (fun x x1 x2 => f x (by omega))).ca (fun x x1 x2 => fa x (by omega)), ⟨sa, (f _ (by omega)).trans b3⟩, ⟨z54, (b4.cg (f _ (by omega)) (f _ (by omega))).ca (fa _ (by omega))⟩, ⟨z56, (b5.cg (f _ (by omega)) (f _ (by omega))).ca (fa _ (by omega))⟩, z58, (b6.cg (f _ (by omega)) (f _ (by omega))).ca (fa _ (by omega))⟩
