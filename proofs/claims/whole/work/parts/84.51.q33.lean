/-! Addresses that change: lists that grow, nodes and trees that are made. -/
theorem na_nn : ∀ {L : List Nat} {x : Nat}, ¬ x ∈ L → NA x L
  | [], _, _ => na_0
  | y :: L, x, h => na_c (fun q => h (by rw [q]; exact List.mem_cons_self)) (na_nn (fun q => h (List.mem_cons_of_mem _ q)))
theorem upo_nn {g : Nat → Option va_E} {L : List Nat} (h : ∀ c, c ∈ L → g c = none) : upo g L = g := by
  funext x
  by_cases q : x ∈ L
  · rw [upo_i q, h x q]
  · exact upo_o (na_nn q)
theorem vP_eq {D : va_G} {cl : List vw_C} {w w2 : va_W} {H : Heap} (h : w2 = w) (hP : va_P D cl w H) : va_P D cl w2 H := by rw [h]; exact hP
theorem vD_eq {A : Nat → Prop} {w w2 : va_W} (h : w2 = w) (hD : va_D A w) : va_D A w2 := by rw [h]; exact hD
theorem nn_0 {g : Nat → Option va_E} : ∀ c, c ∈ ([] : List Nat) → g c = none := fun _ h => nomatch h
theorem nn_c {g : Nat → Option va_E} {x : Nat} {L : List Nat} (h : g x = none) (h2 : ∀ c, c ∈ L → g c = none) : ∀ c, c ∈ x :: L → g c = none := fun c hc => by
  rcases List.mem_cons.mp hc with q | q
  · rw [q]; exact h
  · exact h2 c q
section CAs
variable {cT : Nat → ClassId} {ad ad2 : Nat → Nat} {g g2 : Nat → Option va_E}
theorem WHO.ca {x w R : Nat} {z : Int} (h : WHO cT ad g x w R z) (hw : ad2 w = ad w) : WHO cT ad2 g x w R z := by
  obtain ⟨n, b, f, h1, h2, h3⟩ := h
  exact ⟨n, b, f, by rw [hw]; exact h1, h2, h3⟩
theorem CAp.ca (h : CAp cT ad g) (ha : ∀ x, x < 40 → ad2 x = ad x) : CAp cT ad2 g := by
  obtain ⟨qf, h1, h2⟩ := h
  exact ⟨qf, h1, fun c hc => by rw [ha _ (by omega)]; exact h2 c hc⟩
theorem COLF.ca {n : Nat} {vv vq eg ik : Nat → Int32} {ne : Nat → Nat} (h : COLF cT ad g n vv vq eg ik ne) (ha : ∀ x, x < 40 → ad2 x = ad x) : COLF cT ad2 g n vv vq eg ik ne := fun c hc => by
  obtain ⟨fv, fe, ⟨e1, e2, e3⟩, e4⟩ := h c hc
  exact ⟨fv, fe, ⟨by rw [ha _ (by omega), ha _ (by omega)]; exact e1, e2, e3⟩, e4⟩
theorem RSp.ca {n : Nat} {zs : Nat → Int} (h : RSp cT ad g n zs) (ha : ∀ x, 100 ≤ x → x < 200 → ad2 x = ad x) : RSp cT ad2 g n zs := by
  obtain ⟨⟨qf, a1, a2⟩, a3⟩ := h
  refine ⟨⟨qf, a1, fun i hi => by rw [ha _ (by omega) (by omega)]; exact a2 i hi⟩, fun i hi => ?_⟩
  obtain ⟨z, b1, b2⟩ := a3 i hi
  exact ⟨z, b1.ca (ha _ (by omega) (by omega)), b2⟩
theorem GPp.ca {x : Nat} {rows : Int64} {z : Int} (h : GPp cT ad g x rows z) (h1 : ad2 (220 + x) = ad (220 + x)) (h2 : ad2 (240 + x) = ad (240 + x)) : GPp cT ad2 g x rows z := ⟨by rw [h1]; exact h.1, h.2.ca h2⟩
theorem GAp.ca (h : GAp cT ad g) (ha : ∀ x, 200 ≤ x → x < 300 → ad2 x = ad x) : GAp cT ad2 g := by
  obtain ⟨qf, h1, h2⟩ := h
  exact ⟨qf, h1, fun i hi => by rw [ha _ (by omega) (by omega)]; exact h2 i hi⟩
theorem SCG.ca (h : SCG cT ad g) (ha : ∀ x, 60 ≤ x → x < 73 → ad2 x = ad x) : SCG cT ad2 g := by
  obtain ⟨⟨z1, h1⟩, ⟨z2, h2⟩, ⟨z3, h3⟩⟩ := h
  exact ⟨⟨z1, h1.ca (ha _ (by omega) (by omega))⟩, ⟨z2, h2.ca (ha _ (by omega) (by omega))⟩, ⟨z3, h3.ca (ha _ (by omega) (by omega))⟩⟩
theorem SPL.ca {b t : Nat} {ik : Nat → Int32} {b9 : CST} {BB : Nat} (h : SPL cT ad g b t ik b9 BB) (hbt : BTK b t) (ha : ∀ x, 60 ≤ x → x < 73 → ad2 x = ad x) : SPL cT ad2 g b t ik b9 BB := by
  obtain ⟨bc, bm, bo, bl, br, bu, zb, tc, tm, tq, tl, tr, tu, zt, h1, h2, h3, h4, h5, h6, h7⟩ := h
  have hb : (66 ≤ b ∧ b ≤ 70) ∧ 66 ≤ t ∧ t ≤ 70 := by rcases hbt with ⟨e1, e2⟩ | ⟨e1, e2⟩ <;> omega
  exact ⟨bc, bm, bo, bl, br, bu, zb, tc, tm, tq, tl, tr, tu, zt, by rw [ha _ (by omega) (by omega)]; exact h1, h2.ca (ha _ (by omega) (by omega)), h3, h4, by rw [ha _ (by omega) (by omega)]; exact h5, h6.ca (ha _ (by omega) (by omega)), h7⟩
theorem eGR_ca {b t : Nat} (hbt : BTK b t) (ha : ∀ x, x ≠ 40 → x < 1000 → ad2 x = ad x) : eGR ad2 b t = eGR ad b t := by
  have hb : (66 ≤ b ∧ b ≤ 70) ∧ 66 ≤ t ∧ t ≤ 70 := by rcases hbt with ⟨e1, e2⟩ | ⟨e1, e2⟩ <;> omega
  unfold eGR
  rw [ha 1 (by decide) (by decide), ha 4 (by decide) (by decide), ha 5 (by decide) (by decide), ha 7 (by decide) (by decide), ha 8 (by decide) (by decide), ha 212 (by decide) (by decide), ha 213 (by decide) (by decide), ha 214 (by decide) (by decide), ha 60 (by decide) (by decide), ha 62 (by decide) (by decide), ha 64 (by decide) (by decide), ha b (by omega) (by omega), ha t (by omega) (by omega)]
theorem eTB_ca {wd rw : Int32} (ha : ∀ x, x ≠ 40 → x < 1000 → ad2 x = ad x) : eTB ad2 wd rw = eTB ad wd rw := by
  unfold eTB
  rw [ha 2 (by decide) (by decide), ha 3 (by decide) (by decide)]
theorem eOB_ca {tc : Int32} (ha : ∀ x, x ≠ 40 → x < 1000 → ad2 x = ad x) : eOB ad2 tc = eOB ad tc := by
  unfold eOB
  rw [ha 1 (by decide) (by decide), ha 4 (by decide) (by decide), ha 5 (by decide) (by decide), ha 6 (by decide) (by decide), ha 9 (by decide) (by decide), ha 41 (by decide) (by decide), ha 48 (by decide) (by decide), ha 50 (by decide) (by decide), ha 52 (by decide) (by decide), ha 54 (by decide) (by decide), ha 56 (by decide) (by decide), ha 58 (by decide) (by decide)]
end CAs
/-- the room that a list's array has -/
def CAPo (c : Nat) : Prop := c = 10 ∨ c = 15 ∨ c = 22 ∨ c = 33
/-- a list (its cell at cL, its array at cA); its first m places hold the cells of bs, bs + 1, ..; one that was never put into has the static empty array -/
def LQ (cT : Nat → ClassId) (ad : Nat → Nat) (g : Nat → Option va_E) (tE cL cA bs m : Nat) : Prop :=
  (m = 0 ∧ (∃ md : Int32, g cL = some (eLI tE (nI 0) md)) ∧ g cA = none) ∨ ∃ (cap : Nat) (md : Int32) (lf : Nat → Option Nat), g cL = some (eLI (ad cA) (nI m) md) ∧ g cA = some (eQ (cT 7) cap lf) ∧ m ≤ cap ∧ CAPo cap ∧ ∀ k, k < m → lf k = some (ad (bs + k))
/-- a list behind an add -/
def LQv (cT : Nat → ClassId) (ad ad7 : Nat → Nat) (g : Nat → Option va_E) (cL cA bs m v : Nat) : Prop :=
  ∃ (cap : Nat) (md : Int32) (lf : Nat → Option Nat), g cL = some (eLI (ad7 cA) (nI (m + 1)) md) ∧ g cA = some (eQ (cT 7) cap lf) ∧ m + 1 ≤ cap ∧ CAPo cap ∧ (∀ k, k < m → lf k = some (ad (bs + k))) ∧ lf m = some v
def NDX (cT : Nat → ClassId) (ad : Nat → Nat) (g : Nat → Option va_E) (t k : Nat) : Prop := (∃ q0 q1 q2 q3 q4 q5 q6 q7 : Int32, g (2000 + 32 * t + k) = some (eND q0 q1 q2 q3 q4 q5 q6 q7 (ad (3000 + 32 * t + k)))) ∧ ∃ z, WHO cT ad g (3000 + 32 * t + k) (4000 + 32 * t + k) 24 z
/-- a tree's list and the nodes that are made -/
def TMD (cT : Nat → ClassId) (ad : Nat → Nat) (g : Nat → Option va_E) (tE t mk : Nat) : Prop := LQ cT ad g tE (1020 + t) (1040 + t) (2000 + 32 * t) mk ∧ mk ≤ 31 ∧ (∀ k, k < mk → NDX cT ad g t k) ∧ ∀ k, mk ≤ k → k < 32 → g (2000 + 32 * t + k) = none ∧ g (3000 + 32 * t + k) = none ∧ g (4000 + 32 * t + k) = none
theorem LQ.cg {cT : Nat → ClassId} {ad ad2 : Nat → Nat} {g g2 : Nat → Option va_E} {tE cL cA bs m : Nat} (h : LQ cT ad g tE cL cA bs m) (h1 : g2 cL = g cL) (h2 : g2 cA = g cA) (ha : ad2 cA = ad cA) (hb : ∀ k, k < m → ad2 (bs + k) = ad (bs + k)) : LQ cT ad2 g2 tE cL cA bs m := by
  rcases h with ⟨e1, ⟨md, e2⟩, e3⟩ | ⟨cap, md, lf, e1, e2, e3, e4, e5⟩
  · exact Or.inl ⟨e1, ⟨md, h1.trans e2⟩, h2.trans e3⟩
  · exact Or.inr ⟨cap, md, lf, by rw [ha]; exact h1.trans e1, h2.trans e2, e3, e4, fun k hk => by rw [hb k hk]; exact e5 k hk⟩
theorem NDX.cg {cT : Nat → ClassId} {ad ad2 : Nat → Nat} {g g2 : Nat → Option va_E} {t k : Nat} (h : NDX cT ad g t k) (h1 : g2 (2000 + 32 * t + k) = g (2000 + 32 * t + k)) (h2 : g2 (3000 + 32 * t + k) = g (3000 + 32 * t + k)) (h3 : g2 (4000 + 32 * t + k) = g (4000 + 32 * t + k)) (ha : ad2 (3000 + 32 * t + k) = ad (3000 + 32 * t + k)) (hb : ad2 (4000 + 32 * t + k) = ad (4000 + 32 * t + k)) : NDX cT ad2 g2 t k := by
  obtain ⟨⟨q0, q1, q2, q3, q4, q5, q6, q7, e⟩, z, hz⟩ := h
  exact ⟨⟨q0, q1, q2, q3, q4, q5, q6, q7, by rw [ha]; exact h1.trans e⟩, z, (hz.cg h2 h3).ca hb⟩
theorem TMD.cg {cT : Nat → ClassId} {ad ad2 : Nat → Nat} {g g2 : Nat → Option va_E} {tE t mk : Nat} (h : TMD cT ad g tE t mk) (h1 : g2 (1020 + t) = g (1020 + t)) (h2 : g2 (1040 + t) = g (1040 + t)) (ha : ad2 (1040 + t) = ad (1040 + t)) (h3 : ∀ k, k < 32 → g2 (2000 + 32 * t + k) = g (2000 + 32 * t + k) ∧ g2 (3000 + 32 * t + k) = g (3000 + 32 * t + k) ∧ g2 (4000 + 32 * t + k) = g (4000 + 32 * t + k) ∧ ad2 (2000 + 32 * t + k) = ad (2000 + 32 * t + k) ∧ ad2 (3000 + 32 * t + k) = ad (3000 + 32 * t + k) ∧ ad2 (4000 + 32 * t + k) = ad (4000 + 32 * t + k)) : TMD cT ad2 g2 tE t mk := by
  obtain ⟨e1, e2, e3, e4⟩ := h
  refine ⟨e1.cg h1 h2 ha (fun k hk => (h3 k (by omega)).2.2.2.1), e2, fun k hk => ?_, fun k hk hk2 => ?_⟩
  · obtain ⟨a1, a2, a3, a4, a5, a6⟩ := h3 k (by omega)
    exact (e3 k hk).cg a1 a2 a3 a5 a6
  · obtain ⟨a1, a2, a3, a4, a5, a6⟩ := h3 k hk2
    obtain ⟨b1, b2, b3⟩ := e4 k hk hk2
    exact ⟨a1.trans b1, a2.trans b2, a3.trans b3⟩
/-- what a method may change that makes a node of the tree: codes of its list's array and of the node -/
theorem tmd_el {cT : Nat → ClassId} {ad : Nat → Nat} {g : Nat → Option va_E} {t mk : Nat} (ht : t < 16) (hm : mk ≤ 31) {cap : Nat} {lf : Nat → Option Nat} (hl : ∀ k, k < mk → lf k = some (ad (2000 + 32 * t + k))) (h : ∀ k, k < mk → NDX cT ad g t k) {L : List Nat} (hL : ∀ c, c ∈ L → c < 2000) (he : mk = cap) : ∀ k, k < cap → ∃ fs : List Value, 2000 + 32 * t + k < 8192 ∧ lf k = some (ad (2000 + 32 * t + k)) ∧ upo g L (2000 + 32 * t + k) = some (.inr (10, fs)) := fun k hk => by
  obtain ⟨⟨q0, q1, q2, q3, q4, q5, q6, q7, e⟩, _⟩ := h k (by omega)
  exact ⟨_, by omega, hl k (by omega), (upo_o (na_nn (fun q => by have := hL _ q; omega))).trans e⟩
