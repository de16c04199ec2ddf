/-! Worlds with a pool: the cell of code c lies at the address ad c, if g c has a content. -/
section POOL3
variable {p : Program} {l : Launch} {e : Env} {R : Room} {s : State} {m : MethodId} {args : Array Value} {below : List Frame} {meth : Method} {c : Code} {H H0 H1 : Heap} {locs : List Loc} {cells slots : Nat} {Q : State → Prop}
variable {pc mc ms : Nat} {ls : Array Slot} {rest st0 : List Value} {D : va_G} {cl : List vw_C} {X cx wr w1 pl ws ws2 : va_W} {A A0 : Nat → Prop} {a : Array Value} {cds : List Nat} {ad : Nat → Nat} {g g2 : Nat → Option va_E} {wc w9 : List (Nat × va_E)} {x : Nat} {e0 : va_E}
def pg (cds : List Nat) (ad : Nat → Nat) (g : Nat → Option va_E) : va_W := cds.filterMap (fun c => (g c).map (fun e => (ad c, e)))
def CD (cds : List Nat) : Prop := cds.Nodup ∧ ∀ x, x < 8192 → x ∈ cds
theorem vP_mem : va_P D cl ws H ↔ ∀ q ∈ ws, va_at D cl q H := by
  constructor
  · intro h q hq
    obtain ⟨k, hk⟩ := List.getElem?_of_mem hq
    exact h k q hk
  · intro h k q hk
    exact h q (List.mem_of_getElem? hk)
theorem vD_nd : va_D A ws ↔ (ws.map Prod.fst).Nodup ∧ ∀ q ∈ ws, A q.1 := by
  constructor
  · intro h
    refine ⟨?_, fun q hq => ?_⟩
    · apply List.pairwise_iff_getElem.mpr
      intro i j hi hj hij he
      rw [List.length_map] at hi hj
      rw [List.getElem_map, List.getElem_map] at he
      have := h.1 i j _ _ (List.getElem?_eq_getElem hi) (List.getElem?_eq_getElem hj) he
      omega
    · obtain ⟨k, hk⟩ := List.getElem?_of_mem hq
      exact h.2 k q hk
  · intro h
    exact ⟨fun i j u v h1 h2 h3 => nd_inj h.1 h1 h2 h3, fun k q hk => h.2 q (List.mem_of_getElem? hk)⟩
theorem vP_pm (h : List.Perm ws ws2) (hP : va_P D cl ws H) : va_P D cl ws2 H := vP_mem.mpr (fun q hq => vP_mem.mp hP q (h.mem_iff.mpr hq))
theorem vD_pm (h : List.Perm ws ws2) (hD : va_D A ws) : va_D A ws2 := by
  rw [vD_nd] at hD ⊢
  exact ⟨(h.map Prod.fst).nodup hD.1, fun q hq => hD.2 q (h.mem_iff.mpr hq)⟩
theorem pg_cg {ad2 : Nat → Nat} (h : ∀ c ∈ cds, g2 c = g c) (ha : ∀ c ∈ cds, g c ≠ none → ad2 c = ad c) : pg cds ad2 g2 = pg cds ad g := by
  induction cds with
  | nil => rfl
  | cons x r ih =>
    have ih' := ih (fun c hc => h c (List.mem_cons_of_mem _ hc)) (fun c hc => ha c (List.mem_cons_of_mem _ hc))
    have h0 := h x List.mem_cons_self
    have a0 := ha x List.mem_cons_self
    unfold pg at ih' ⊢
    rw [List.filterMap_cons, List.filterMap_cons, h0]
    cases hg : g x with
    | none => exact ih'
    | some e1 =>
      show (ad2 x, e1) :: _ = (ad x, e1) :: _
      rw [a0 (by rw [hg]; exact fun z => nomatch z), ih']
theorem pg_some {r : List Nat} (hg : g x = some e0) : pg (x :: r) ad g = (ad x, e0) :: pg r ad g := by
  unfold pg
  rw [List.filterMap_cons, hg]
  rfl
theorem pg_none {r : List Nat} (hg : g x = none) : pg (x :: r) ad g = pg r ad g := by
  unfold pg
  rw [List.filterMap_cons, hg]
  rfl
theorem pg_b1 : ∀ {cds : List Nat}, cds.Nodup → x ∈ cds → g x = some e0 → List.Perm (pg cds ad g) ((ad x, e0) :: pg cds ad (va_up g x none))
  | [], _, h, _ => nomatch h
  | c :: r, hn, h, hg => by
    rw [List.nodup_cons] at hn
    by_cases q : c = x
    · subst q
      rw [pg_some hg, pg_none (va_up_self _ _ _), pg_cg (cds := r) (g2 := va_up g c none) (g := g) (ad2 := ad) (ad := ad) (fun d hd => va_up_ne _ _ (fun z => hn.1 (z ▸ hd))) (fun _ _ _ => rfl)]
    · have hm : x ∈ r := (List.mem_cons.mp h).resolve_left (fun z => q z.symm)
      have ih := pg_b1 hn.2 hm hg
      have e1 : va_up g x none c = g c := va_up_ne _ _ q
      cases hc : g c with
      | none => rw [pg_none hc, pg_none (e1.trans hc)]; exact ih
      | some e2 =>
        rw [pg_some hc, pg_some (e1.trans hc)]
        exact (ih.cons _).trans (List.Perm.swap ..)
def pmw (ad : Nat → Nat) (wc : List (Nat × va_E)) : va_W := wc.map (fun q => (ad q.1, q.2))
/-- cells taken out; cells put in -/
def upo (g : Nat → Option va_E) : List Nat → Nat → Option va_E
  | [] => g
  | x :: r => va_up (upo g r) x none
def ups (g : Nat → Option va_E) : List (Nat × va_E) → Nat → Option va_E
  | [] => g
  | q :: r => va_up (ups g r) q.1 (some q.2)
/-- codes that are apart -/
def NA : Nat → List Nat → Prop
  | _, [] => True
  | x, y :: r => x ≠ y ∧ NA x r
def NDc : List Nat → Prop
  | [] => True
  | x :: r => NA x r ∧ NDc r
theorem na_in {x : Nat} : ∀ {r : List Nat}, NA x r → x ∉ r
  | [], _, h => nomatch h
  | y :: r, h, hm => by
    rcases List.mem_cons.mp hm with z | z
    · exact h.1 z
    · exact na_in h.2 z
theorem na_of {x : Nat} : ∀ {r : List Nat}, x ∉ r → NA x r
  | [], _ => trivial
  | y :: r, h => ⟨fun z => h (z ▸ List.mem_cons_self), na_of (fun z => h (List.mem_cons_of_mem _ z))⟩
theorem ndc {r : List Nat} (h : NDc r) : r.Nodup := by
  induction r with
  | nil => exact List.nodup_nil
  | cons x r ih => exact List.nodup_cons.mpr ⟨na_in h.1, ih h.2⟩
theorem upo_o : ∀ {L : List Nat}, NA x L → upo g L x = g x
  | [], _ => rfl
  | y :: r, h => by
    show va_up _ _ _ _ = _
    rw [va_up_ne _ _ h.1]
    exact upo_o h.2
theorem upo_i : ∀ {L : List Nat}, x ∈ L → upo g L x = none
  | [], h => nomatch h
  | y :: r, h => by
    show va_up _ _ _ _ = _
    by_cases q : x = y
    · rw [q, va_up_self]
    · rw [va_up_ne _ _ q]
      exact upo_i ((List.mem_cons.mp h).resolve_left q)
theorem ups_o : ∀ {w : List (Nat × va_E)}, NA x (w.map Prod.fst) → ups g w x = g x
  | [], _ => rfl
  | y :: r, h => by
    show va_up _ _ _ _ = _
    rw [va_up_ne _ _ h.1]
    exact ups_o h.2
theorem ups_i : ∀ {w : List (Nat × va_E)} {q : Nat × va_E}, (w.map Prod.fst).Nodup → q ∈ w → ups g w q.1 = some q.2
  | [], _, _, h => nomatch h
  | r :: w, q, hn, h => by
    rw [List.map_cons, List.nodup_cons] at hn
    show va_up _ _ _ _ = _
    rcases List.mem_cons.mp h with z | z
    · rw [z, va_up_self]
    · have : q.1 ≠ r.1 := fun y => hn.1 (by rw [← y]; exact List.mem_map.mpr ⟨q, z, rfl⟩)
      rw [va_up_ne _ _ this]
      exact ups_i hn.2 z
theorem upo_up {L : List Nat} : upo (va_up g x none) L = upo g (x :: L) := by
  funext z
  show _ = va_up (upo g L) x none z
  by_cases h : z ∈ L
  · rw [upo_i h]
    by_cases q : z = x
    · rw [q, va_up_self]
    · rw [va_up_ne _ _ q, upo_i h]
  · rw [upo_o (na_of h)]
    by_cases q : z = x
    · rw [q, va_up_self, va_up_self]
    · rw [va_up_ne _ _ q, va_up_ne _ _ q, upo_o (na_of h)]
/-- the cells of wc are in the pool -/
def QI (g : Nat → Option va_E) : List (Nat × va_E) → Prop
  | [] => True
  | q :: r => (q.1 < 8192 ∧ g q.1 = some q.2) ∧ QI g r
theorem qi_cg {g2 : Nat → Option va_E} : ∀ {wc : List (Nat × va_E)}, (∀ q ∈ wc, g2 q.1 = g q.1) → QI g wc → QI g2 wc
  | [], _, _ => trivial
  | q :: r, h, hq => ⟨⟨hq.1.1, (h q List.mem_cons_self).trans hq.1.2⟩, qi_cg (fun z hz => h z (List.mem_cons_of_mem _ hz)) hq.2⟩
theorem pg_bL (hcd : CD cds) : ∀ {wc : List (Nat × va_E)} {g : Nat → Option va_E}, NDc (wc.map Prod.fst) → QI g wc → List.Perm (pg cds ad g) (pmw ad wc ++ pg cds ad (upo g (wc.map Prod.fst)))
  | [], _, _, _ => List.Perm.refl _
  | (x, e1) :: r, g, hn, hq => by
    have h1 := pg_b1 (ad := ad) hcd.1 (hcd.2 x hq.1.1) hq.1.2
    have ih := pg_bL hcd (wc := r) (g := va_up g x none) hn.2 (qi_cg (fun q hm => va_up_ne _ _ (fun z => na_in hn.1 (z ▸ List.mem_map.mpr ⟨q, hm, rfl⟩))) hq.2)
    rw [upo_up] at ih
    exact h1.trans (ih.cons _)
theorem upo_ups {w : List (Nat × va_E)} : upo (ups g w) (w.map Prod.fst) = upo g (w.map Prod.fst) := by
  funext z
  by_cases h : z ∈ w.map Prod.fst
  · rw [upo_i h, upo_i h]
  · rw [upo_o (na_of h), upo_o (na_of h), ups_o (na_of h)]
theorem qi_ups : ∀ {w w2 : List (Nat × va_E)}, (w.map Prod.fst).Nodup → (∀ q ∈ w2, q ∈ w ∧ q.1 < 8192) → QI (ups g w) w2
  | _, [], _, _ => trivial
  | w, q :: r, hn, h => ⟨⟨(h q List.mem_cons_self).2, ups_i hn (h q List.mem_cons_self).1⟩, qi_ups hn (fun z hz => h z (List.mem_cons_of_mem _ hz))⟩
/-- cells below 8192 -/
def QB : List (Nat × va_E) → Prop
  | [] => True
  | q :: r => q.1 < 8192 ∧ QB r
theorem qb_in : ∀ {w : List (Nat × va_E)} {q : Nat × va_E}, QB w → q ∈ w → q.1 < 8192
  | [], _, _, h => nomatch h
  | r :: w, q, hb, h => by
    rcases List.mem_cons.mp h with z | z
    · rw [z]; exact hb.1
    · exact qb_in hb.2 z
theorem na_0 : NA x [] := trivial
theorem na_c {y : Nat} {r : List Nat} (h : x ≠ y) (hr : NA x r) : NA x (y :: r) := And.intro h hr
theorem nd_0 : NDc [] := trivial
theorem nd_c {r : List Nat} (h : NA x r) (hr : NDc r) : NDc (x :: r) := And.intro h hr
theorem qi_0 : QI g [] := trivial
theorem qi_c (hx : x < 8192) (h : g x = some e0) (hr : QI g wc) : QI g ((x, e0) :: wc) := And.intro (And.intro hx h) hr
theorem qb_0 : QB [] := trivial
theorem qb_c (hx : x < 8192) (hr : QB wc) : QB ((x, e0) :: wc) := And.intro hx hr
/-- some cells come out of the pool -/
theorem bo_P (hcd : CD cds) (hn : NDc (wc.map Prod.fst)) (hq : QI g wc) (hP : va_P D cl (X ++ pg cds ad g) H) : va_P D cl ((X ++ pmw ad wc) ++ pg cds ad (upo g (wc.map Prod.fst))) H :=
  vP_pm (by rw [List.append_assoc]; exact (pg_bL hcd hn hq).append_left X) hP
theorem bo_D (hcd : CD cds) (hn : NDc (wc.map Prod.fst)) (hq : QI g wc) (hD : va_D A (X ++ pg cds ad g)) : va_D A ((X ++ pmw ad wc) ++ pg cds ad (upo g (wc.map Prod.fst))) :=
  vD_pm (by rw [List.append_assoc]; exact (pg_bL hcd hn hq).append_left X) hD
theorem gb_pm (hcd : CD cds) (hn : NDc (w9.map Prod.fst)) (hb : QB w9) : List.Perm ((X ++ pmw ad w9) ++ pg cds ad (upo g (w9.map Prod.fst))) (X ++ pg cds ad (ups g w9)) := by
  have h := pg_bL (ad := ad) hcd (g := ups g w9) hn (qi_ups (ndc hn) (fun q hq => ⟨hq, qb_in hb hq⟩))
  rw [upo_ups] at h
  rw [List.append_assoc]
  exact (h.append_left X).symm
/-- cells go back into the pool -/
theorem gb_P (hcd : CD cds) (hn : NDc (w9.map Prod.fst)) (hb : QB w9) (hP : va_P D cl ((X ++ pmw ad w9) ++ pg cds ad (upo g (w9.map Prod.fst))) H) : va_P D cl (X ++ pg cds ad (ups g w9)) H := vP_pm (gb_pm hcd hn hb) hP
theorem gb_D (hcd : CD cds) (hn : NDc (w9.map Prod.fst)) (hb : QB w9) (hD : va_D A ((X ++ pmw ad w9) ++ pg cds ad (upo g (w9.map Prod.fst)))) : va_D A (X ++ pg cds ad (ups g w9)) := vD_pm (gb_pm hcd hn hb) hD
/-- one cell of the pool, to look at -/
theorem pg_1 (hcd : CD cds) (hP : va_P D cl (X ++ pg cds ad g) H) (hx : x < 8192) (hg : g x = some e0) : va_P D cl [(ad x, e0)] H := vP_mem.mpr (fun q hq => by
  rcases List.mem_cons.mp hq with z | z
  · rw [z]
    refine vP_mem.mp hP _ (List.mem_append_right _ ?_)
    exact List.mem_filterMap.mpr ⟨x, hcd.2 x hx, by rw [hg]; rfl⟩
  · exact nomatch z)
theorem pv_0 : va_P D cl [] H := fun _ _ h => nomatch h
theorem pv_c {q : Nat × va_E} (h1 : va_P D cl [q] H) (h2 : va_P D cl ws H) : va_P D cl (q :: ws) H := vP_mem.mpr (fun r hr => by
  rcases List.mem_cons.mp hr with z | z
  · exact vP_mem.mp h1 r (by rw [z]; exact List.mem_cons_self)
  · exact vP_mem.mp h2 r z)
theorem pv_p (h : va_P D cl (X ++ pl) H) : va_P D cl pl H := vP_mem.mpr (fun r hr => vP_mem.mp h r (List.mem_append_right _ hr))
/-- a cell that was made comes ahead of the pool -/
theorem hy_push {q : Nat × va_E} (hP : va_P D cl ((X ++ pl) ++ [q]) H) : va_P D cl ((X ++ [q]) ++ pl) H := vP_pm (by rw [List.append_assoc, List.append_assoc]; exact List.perm_append_comm.append_left X) hP
theorem hy_pushD {q : Nat × va_E} (hD : va_D A ((X ++ pl) ++ [q])) : va_D A ((X ++ [q]) ++ pl) := vD_pm (by rw [List.append_assoc, List.append_assoc]; exact List.perm_append_comm.append_left X) hD
/-- the address of a code that has no cell is of no matter -/
theorem pg_ad {q : Nat} (h : g x = none) : pg cds (va_up ad x q) g = pg cds ad g := pg_cg (fun _ _ => rfl) (fun c _ hc => va_up_ne _ _ (fun z => hc (z ▸ h)))
theorem hy_free (hD : va_D A0 (X ++ pl)) (hS : va_S A0 H0 H locs) (hA : ∀ q, H0.size ≤ q → A0 q) (isC : List Nat) (hC : isC.map (fun i => X[i]?) = cx.map some) : ∀ q, va_A cx H.size q → A0 q := fun q h => by
  refine va_freeP hD hS hA isC hC q ?_
  rcases h with ⟨k, e1, h⟩ | h
  · exact Or.inl ⟨k, e1, by rw [List.getElem?_append_left (List.getElem?_eq_some_iff.mp h).1]; exact h⟩
  · exact Or.inr h
theorem RO.preW {WS w0 : va_W} {As : List Value} {tys : List (ClassId × FieldType)} {b : Addr} {ci q0 : Nat} {q : vw_C} {fs : List Value} (hZ : ZZ A s s.heap) (hS : va_S A s.heap H locs) (hP : va_P D cl WS H) (hK : va_K D cl tys s) (hP0 : va_P D cl w0 H) (hc : cl[ci]? = some q) (he : w0[q0]? = some (b, .inr (ci, fs))) : PreV s H q.1 b (RO D cl (.ref b :: As) WS tys) As :=
  ⟨RO.blind, va_recv hK hP0 hc he, fun U hU hW => ⟨rfl, hZ.at hS (fun _ h => h.elim) hU hW, by rw [hU]; exact hP, va_K.moved hW.alike hK⟩⟩
theorem RW.preW {WS w0 : va_W} {As : List Value} {tys : List (ClassId × FieldType)} {b : Addr} {ci q0 : Nat} {q : vw_C} {fs : List Value} (hZ : ZZ A s s.heap) (hS : va_S A s.heap H locs) (hB : ∀ q, va_A WS H.size q → A q) (hP : va_P D cl WS H) (hK : va_K D cl tys s) (hD : va_D A0 WS) (hP0 : va_P D cl w0 H) (hc : cl[ci]? = some q) (he : w0[q0]? = some (b, .inr (ci, fs))) : PreV s H q.1 b (RW D cl (.ref b :: As) WS tys H.size) As :=
  ⟨RW.blind, va_recv hK hP0 hc he, fun U hU hW => ⟨rfl, by rw [hU], hZ.at hS hB hU hW, by rw [hU]; exact hP, va_K.moved hW.alike hK, hD.weaken (fun _ _ _ _ => trivial)⟩⟩
/-- calls of a method that has the pool (P), and of one that has not (Q) -/
theorem hy_vP {S : Type} {post : S → Prop} {rx pl1 : S → va_W} (hP : va_P D cl (X ++ pl) H) (hD : va_D A0 (X ++ pl)) (hS : va_S A0 H0 H locs) (hA : ∀ q, H0.size ≤ q → A0 q) (isC isR : List Nat) (hC : isC.map (fun i => X[i]?) = cx.map some) (hR : isR.map (fun i => X[i]?) = wr.map some) (hn : va_nd isR = true) (hdis : ∀ i ∈ isR, i ∉ isC)
    (hr : va_Run p l e R s m args below meth c H locs cells slots mc ms (F0 m pc ls st0) rest (va_Qv post (BW D cl (va_A (cx ++ pl) H.size) (fun u => rx u ++ pl1 u)) (va_A (cx ++ pl) H.size) a) (va_A (cx ++ pl) H.size))
    (kk : ∀ (u : S) (H1 : Heap) (locs1 : List Loc), post u → va_P D cl ((wr ++ rx u) ++ pl1 u) H1 → va_D A0 ((wr ++ rx u) ++ pl1 u) → va_S A0 H0 H1 locs1 → W p l e R s m args below meth c H1 locs1 (cells + mc) (slots + ms) Q (F0 m (pc + 3) ls rest)) :
    W p l e R s m args below meth c H locs cells slots Q (F0 m pc ls st0) := by
  have hFc := va_freeP hD hS hA isC hC
  refine va_callv hr hS (fun q _ h => hFc q h) hFc (fun u t H1 locs1 ht hvm hp hB hz1 hk1 hS1 => ?_)
  obtain ⟨hP1, hD1⟩ := hB
  rw [ht] at hP1
  obtain ⟨hP2, hD2⟩ := va_joinP hP hD isC isR hC hR hn hdis hk1 hFc hP1 hD1
  exact kk u H1 locs1 hp hP2 hD2 hS1
theorem hy_iP {S : Type} {post : Int32 → S → Prop} {rx pl1 : S → va_W} (hP : va_P D cl (X ++ pl) H) (hD : va_D A0 (X ++ pl)) (hS : va_S A0 H0 H locs) (hA : ∀ q, H0.size ≤ q → A0 q) (isC isR : List Nat) (hC : isC.map (fun i => X[i]?) = cx.map some) (hR : isR.map (fun i => X[i]?) = wr.map some) (hn : va_nd isR = true) (hdis : ∀ i ∈ isR, i ∉ isC)
    (hr : va_Run p l e R s m args below meth c H locs cells slots mc ms (F0 m pc ls st0) rest (va_Qi post (BW D cl (va_A (cx ++ pl) H.size) (fun u => rx u ++ pl1 u)) (va_A (cx ++ pl) H.size) a) (va_A (cx ++ pl) H.size))
    (kk : ∀ (r : Int32) (u : S) (H1 : Heap) (locs1 : List Loc), post r u → va_P D cl ((wr ++ rx u) ++ pl1 u) H1 → va_D A0 ((wr ++ rx u) ++ pl1 u) → va_S A0 H0 H1 locs1 → W p l e R s m args below meth c H1 locs1 (cells + mc) (slots + ms) Q (F0 m (pc + 3) ls (.int r :: rest))) :
    W p l e R s m args below meth c H locs cells slots Q (F0 m pc ls st0) := by
  have hFc := va_freeP hD hS hA isC hC
  refine va_calli hr hS (fun q _ h => hFc q h) hFc (fun r u t H1 locs1 ht hvm hp hB hz1 hk1 hS1 => ?_)
  obtain ⟨hP1, hD1⟩ := hB
  rw [ht] at hP1
  obtain ⟨hP2, hD2⟩ := va_joinP hP hD isC isR hC hR hn hdis hk1 hFc hP1 hD1
  exact kk r u H1 locs1 hp hP2 hD2 hS1
theorem hy_vQ {S : Type} {post : S → Prop} {WP : S → va_W} (hP : va_P D cl (X ++ pl) H) (hD : va_D A0 (X ++ pl)) (hS : va_S A0 H0 H locs) (hA : ∀ q, H0.size ≤ q → A0 q) (isC isR : List Nat) (hC : isC.map (fun i => X[i]?) = cx.map some) (hR : isR.map (fun i => X[i]?) = wr.map some) (hn : va_nd isR = true) (hdis : ∀ i ∈ isR, i ∉ isC)
    (hr : va_Run p l e R s m args below meth c H locs cells slots mc ms (F0 m pc ls st0) rest (va_Qv post (BW D cl (va_A cx H.size) WP) (va_A cx H.size) a) (va_A cx H.size))
    (kk : ∀ (u : S) (H1 : Heap) (locs1 : List Loc), post u → va_P D cl ((wr ++ WP u) ++ pl) H1 → va_D A0 ((wr ++ WP u) ++ pl) → va_S A0 H0 H1 locs1 → W p l e R s m args below meth c H1 locs1 (cells + mc) (slots + ms) Q (F0 m (pc + 3) ls rest)) :
    W p l e R s m args below meth c H locs cells slots Q (F0 m pc ls st0) := by
  have hFc : ∀ q, va_A cx H.size q → A0 q := hy_free hD hS hA isC hC
  refine va_callv hr hS (fun q _ h => hFc q h) hFc (fun u t H1 locs1 ht hvm hp hB hz1 hk1 hS1 => ?_)
  obtain ⟨hP1, hD1⟩ := hB
  rw [ht] at hP1
  obtain ⟨hP2, hD2⟩ := va_joinQ hP hD isC isR hC hR hn hdis hk1 hFc hP1 hD1
  exact kk u H1 locs1 hp hP2 hD2 hS1
theorem hy_iQ {S : Type} {post : Int32 → S → Prop} {WP : S → va_W} (hP : va_P D cl (X ++ pl) H) (hD : va_D A0 (X ++ pl)) (hS : va_S A0 H0 H locs) (hA : ∀ q, H0.size ≤ q → A0 q) (isC isR : List Nat) (hC : isC.map (fun i => X[i]?) = cx.map some) (hR : isR.map (fun i => X[i]?) = wr.map some) (hn : va_nd isR = true) (hdis : ∀ i ∈ isR, i ∉ isC)
    (hr : va_Run p l e R s m args below meth c H locs cells slots mc ms (F0 m pc ls st0) rest (va_Qi post (BW D cl (va_A cx H.size) WP) (va_A cx H.size) a) (va_A cx H.size))
    (kk : ∀ (r : Int32) (u : S) (H1 : Heap) (locs1 : List Loc), post r u → va_P D cl ((wr ++ WP u) ++ pl) H1 → va_D A0 ((wr ++ WP u) ++ pl) → va_S A0 H0 H1 locs1 → W p l e R s m args below meth c H1 locs1 (cells + mc) (slots + ms) Q (F0 m (pc + 3) ls (.int r :: rest))) :
    W p l e R s m args below meth c H locs cells slots Q (F0 m pc ls st0) := by
  have hFc : ∀ q, va_A cx H.size q → A0 q := hy_free hD hS hA isC hC
  refine va_calli hr hS (fun q _ h => hFc q h) hFc (fun r u t H1 locs1 ht hvm hp hB hz1 hk1 hS1 => ?_)
  obtain ⟨hP1, hD1⟩ := hB
  rw [ht] at hP1
  obtain ⟨hP2, hD2⟩ := va_joinQ hP hD isC isR hC hR hn hdis hk1 hFc hP1 hD1
  exact kk r u H1 locs1 hp hP2 hD2 hS1
end POOL3
/-- a Whole's cells -/
abbrev eW (w : Nat) (n b : Int32) : va_E := .inr (4, [.ref w, .int n, .int b])
abbrev eA (cA : ClassId) (k : Nat) (f : Nat → Int32) : va_E := .inl (cA, k, .inl f)
abbrev eQ (cA : ClassId) (k : Nat) (f : Nat → Option Nat) : va_E := .inl (cA, k, .inr (.inr (.inr (.inr f))))
/-- a number in the pool -/
def WHO (cT : Nat → ClassId) (ad : Nat → Nat) (g : Nat → Option va_E) (x w R : Nat) (z : Int) : Prop := ∃ n b f, g x = some (eW (ad w) n b) ∧ g w = some (eA (cT 0) R f) ∧ WN R n b f z
theorem WHO.cg {cT : Nat → ClassId} {ad : Nat → Nat} {g g2 : Nat → Option va_E} {x w R : Nat} {z : Int} (h : WHO cT ad g x w R z) (h1 : g2 x = g x) (h2 : g2 w = g w) : WHO cT ad g2 x w R z := by
  obtain ⟨n, b, f, a1, a2, a3⟩ := h
  exact ⟨n, b, f, h1.trans a1, h2.trans a2, a3⟩
theorem ups_1 {g : Nat → Option va_E} {x1 : Nat} {e1 : va_E} {r : List (Nat × va_E)} : ups g ((x1, e1) :: r) x1 = some e1 := va_up_self _ _ _
theorem ups_2 {g : Nat → Option va_E} {x1 x2 : Nat} {e1 e2 : va_E} {r : List (Nat × va_E)} (h1 : x2 ≠ x1) : ups g ((x1, e1) :: (x2, e2) :: r) x2 = some e2 := (va_up_ne _ _ h1).trans (va_up_self _ _ _)
theorem ups_3 {g : Nat → Option va_E} {x1 x2 x3 : Nat} {e1 e2 e3 : va_E} {r : List (Nat × va_E)} (h1 : x3 ≠ x1) (h2 : x3 ≠ x2) : ups g ((x1, e1) :: (x2, e2) :: (x3, e3) :: r) x3 = some e3 := (va_up_ne _ _ h1).trans ((va_up_ne _ _ h2).trans (va_up_self _ _ _))
theorem ups_4 {g : Nat → Option va_E} {x1 x2 x3 x4 : Nat} {e1 e2 e3 e4 : va_E} {r : List (Nat × va_E)} (h1 : x4 ≠ x1) (h2 : x4 ≠ x2) (h3 : x4 ≠ x3) : ups g ((x1, e1) :: (x2, e2) :: (x3, e3) :: (x4, e4) :: r) x4 = some e4 := (va_up_ne _ _ h1).trans ((va_up_ne _ _ h2).trans ((va_up_ne _ _ h3).trans (va_up_self _ _ _)))
theorem ups_5 {g : Nat → Option va_E} {x1 x2 x3 x4 x5 : Nat} {e1 e2 e3 e4 e5 : va_E} {r : List (Nat × va_E)} (h1 : x5 ≠ x1) (h2 : x5 ≠ x2) (h3 : x5 ≠ x3) (h4 : x5 ≠ x4) : ups g ((x1, e1) :: (x2, e2) :: (x3, e3) :: (x4, e4) :: (x5, e5) :: r) x5 = some e5 := (va_up_ne _ _ h1).trans ((va_up_ne _ _ h2).trans ((va_up_ne _ _ h3).trans ((va_up_ne _ _ h4).trans (va_up_self _ _ _))))
theorem ups_6 {g : Nat → Option va_E} {x1 x2 x3 x4 x5 x6 : Nat} {e1 e2 e3 e4 e5 e6 : va_E} {r : List (Nat × va_E)} (h1 : x6 ≠ x1) (h2 : x6 ≠ x2) (h3 : x6 ≠ x3) (h4 : x6 ≠ x4) (h5 : x6 ≠ x5) : ups g ((x1, e1) :: (x2, e2) :: (x3, e3) :: (x4, e4) :: (x5, e5) :: (x6, e6) :: r) x6 = some e6 := (va_up_ne _ _ h1).trans ((va_up_ne _ _ h2).trans ((va_up_ne _ _ h3).trans ((va_up_ne _ _ h4).trans ((va_up_ne _ _ h5).trans (va_up_self _ _ _)))))
theorem ups_7 {g : Nat → Option va_E} {x1 x2 x3 x4 x5 x6 x7 : Nat} {e1 e2 e3 e4 e5 e6 e7 : va_E} {r : List (Nat × va_E)} (h1 : x7 ≠ x1) (h2 : x7 ≠ x2) (h3 : x7 ≠ x3) (h4 : x7 ≠ x4) (h5 : x7 ≠ x5) (h6 : x7 ≠ x6) : ups g ((x1, e1) :: (x2, e2) :: (x3, e3) :: (x4, e4) :: (x5, e5) :: (x6, e6) :: (x7, e7) :: r) x7 = some e7 := (va_up_ne _ _ h1).trans ((va_up_ne _ _ h2).trans ((va_up_ne _ _ h3).trans ((va_up_ne _ _ h4).trans ((va_up_ne _ _ h5).trans ((va_up_ne _ _ h6).trans (va_up_self _ _ _))))))
theorem ups_8 {g : Nat → Option va_E} {x1 x2 x3 x4 x5 x6 x7 x8 : Nat} {e1 e2 e3 e4 e5 e6 e7 e8 : va_E} {r : List (Nat × va_E)} (h1 : x8 ≠ x1) (h2 : x8 ≠ x2) (h3 : x8 ≠ x3) (h4 : x8 ≠ x4) (h5 : x8 ≠ x5) (h6 : x8 ≠ x6) (h7 : x8 ≠ x7) : ups g ((x1, e1) :: (x2, e2) :: (x3, e3) :: (x4, e4) :: (x5, e5) :: (x6, e6) :: (x7, e7) :: (x8, e8) :: r) x8 = some e8 := (va_up_ne _ _ h1).trans ((va_up_ne _ _ h2).trans ((va_up_ne _ _ h3).trans ((va_up_ne _ _ h4).trans ((va_up_ne _ _ h5).trans ((va_up_ne _ _ h6).trans ((va_up_ne _ _ h7).trans (va_up_self _ _ _)))))))
theorem ups_9 {g : Nat → Option va_E} {x1 x2 x3 x4 x5 x6 x7 x8 x9 : Nat} {e1 e2 e3 e4 e5 e6 e7 e8 e9 : va_E} {r : List (Nat × va_E)} (h1 : x9 ≠ x1) (h2 : x9 ≠ x2) (h3 : x9 ≠ x3) (h4 : x9 ≠ x4) (h5 : x9 ≠ x5) (h6 : x9 ≠ x6) (h7 : x9 ≠ x7) (h8 : x9 ≠ x8) : ups g ((x1, e1) :: (x2, e2) :: (x3, e3) :: (x4, e4) :: (x5, e5) :: (x6, e6) :: (x7, e7) :: (x8, e8) :: (x9, e9) :: r) x9 = some e9 := (va_up_ne _ _ h1).trans ((va_up_ne _ _ h2).trans ((va_up_ne _ _ h3).trans ((va_up_ne _ _ h4).trans ((va_up_ne _ _ h5).trans ((va_up_ne _ _ h6).trans ((va_up_ne _ _ h7).trans ((va_up_ne _ _ h8).trans (va_up_self _ _ _))))))))
theorem ups_10 {g : Nat → Option va_E} {x1 x2 x3 x4 x5 x6 x7 x8 x9 x10 : Nat} {e1 e2 e3 e4 e5 e6 e7 e8 e9 e10 : va_E} {r : List (Nat × va_E)} (h1 : x10 ≠ x1) (h2 : x10 ≠ x2) (h3 : x10 ≠ x3) (h4 : x10 ≠ x4) (h5 : x10 ≠ x5) (h6 : x10 ≠ x6) (h7 : x10 ≠ x7) (h8 : x10 ≠ x8) (h9 : x10 ≠ x9) : ups g ((x1, e1) :: (x2, e2) :: (x3, e3) :: (x4, e4) :: (x5, e5) :: (x6, e6) :: (x7, e7) :: (x8, e8) :: (x9, e9) :: (x10, e10) :: r) x10 = some e10 := (va_up_ne _ _ h1).trans ((va_up_ne _ _ h2).trans ((va_up_ne _ _ h3).trans ((va_up_ne _ _ h4).trans ((va_up_ne _ _ h5).trans ((va_up_ne _ _ h6).trans ((va_up_ne _ _ h7).trans ((va_up_ne _ _ h8).trans ((va_up_ne _ _ h9).trans (va_up_self _ _ _)))))))))
theorem ups_11 {g : Nat → Option va_E} {x1 x2 x3 x4 x5 x6 x7 x8 x9 x10 x11 : Nat} {e1 e2 e3 e4 e5 e6 e7 e8 e9 e10 e11 : va_E} {r : List (Nat × va_E)} (h1 : x11 ≠ x1) (h2 : x11 ≠ x2) (h3 : x11 ≠ x3) (h4 : x11 ≠ x4) (h5 : x11 ≠ x5) (h6 : x11 ≠ x6) (h7 : x11 ≠ x7) (h8 : x11 ≠ x8) (h9 : x11 ≠ x9) (h10 : x11 ≠ x10) : ups g ((x1, e1) :: (x2, e2) :: (x3, e3) :: (x4, e4) :: (x5, e5) :: (x6, e6) :: (x7, e7) :: (x8, e8) :: (x9, e9) :: (x10, e10) :: (x11, e11) :: r) x11 = some e11 := (va_up_ne _ _ h1).trans ((va_up_ne _ _ h2).trans ((va_up_ne _ _ h3).trans ((va_up_ne _ _ h4).trans ((va_up_ne _ _ h5).trans ((va_up_ne _ _ h6).trans ((va_up_ne _ _ h7).trans ((va_up_ne _ _ h8).trans ((va_up_ne _ _ h9).trans ((va_up_ne _ _ h10).trans (va_up_self _ _ _))))))))))
theorem ups_12 {g : Nat → Option va_E} {x1 x2 x3 x4 x5 x6 x7 x8 x9 x10 x11 x12 : Nat} {e1 e2 e3 e4 e5 e6 e7 e8 e9 e10 e11 e12 : va_E} {r : List (Nat × va_E)} (h1 : x12 ≠ x1) (h2 : x12 ≠ x2) (h3 : x12 ≠ x3) (h4 : x12 ≠ x4) (h5 : x12 ≠ x5) (h6 : x12 ≠ x6) (h7 : x12 ≠ x7) (h8 : x12 ≠ x8) (h9 : x12 ≠ x9) (h10 : x12 ≠ x10) (h11 : x12 ≠ x11) : ups g ((x1, e1) :: (x2, e2) :: (x3, e3) :: (x4, e4) :: (x5, e5) :: (x6, e6) :: (x7, e7) :: (x8, e8) :: (x9, e9) :: (x10, e10) :: (x11, e11) :: (x12, e12) :: r) x12 = some e12 := (va_up_ne _ _ h1).trans ((va_up_ne _ _ h2).trans ((va_up_ne _ _ h3).trans ((va_up_ne _ _ h4).trans ((va_up_ne _ _ h5).trans ((va_up_ne _ _ h6).trans ((va_up_ne _ _ h7).trans ((va_up_ne _ _ h8).trans ((va_up_ne _ _ h9).trans ((va_up_ne _ _ h10).trans ((va_up_ne _ _ h11).trans (va_up_self _ _ _)))))))))))
theorem ups_13 {g : Nat → Option va_E} {x1 x2 x3 x4 x5 x6 x7 x8 x9 x10 x11 x12 x13 : Nat} {e1 e2 e3 e4 e5 e6 e7 e8 e9 e10 e11 e12 e13 : va_E} {r : List (Nat × va_E)} (h1 : x13 ≠ x1) (h2 : x13 ≠ x2) (h3 : x13 ≠ x3) (h4 : x13 ≠ x4) (h5 : x13 ≠ x5) (h6 : x13 ≠ x6) (h7 : x13 ≠ x7) (h8 : x13 ≠ x8) (h9 : x13 ≠ x9) (h10 : x13 ≠ x10) (h11 : x13 ≠ x11) (h12 : x13 ≠ x12) : ups g ((x1, e1) :: (x2, e2) :: (x3, e3) :: (x4, e4) :: (x5, e5) :: (x6, e6) :: (x7, e7) :: (x8, e8) :: (x9, e9) :: (x10, e10) :: (x11, e11) :: (x12, e12) :: (x13, e13) :: r) x13 = some e13 := (va_up_ne _ _ h1).trans ((va_up_ne _ _ h2).trans ((va_up_ne _ _ h3).trans ((va_up_ne _ _ h4).trans ((va_up_ne _ _ h5).trans ((va_up_ne _ _ h6).trans ((va_up_ne _ _ h7).trans ((va_up_ne _ _ h8).trans ((va_up_ne _ _ h9).trans ((va_up_ne _ _ h10).trans ((va_up_ne _ _ h11).trans ((va_up_ne _ _ h12).trans (va_up_self _ _ _))))))))))))
theorem ups_14 {g : Nat → Option va_E} {x1 x2 x3 x4 x5 x6 x7 x8 x9 x10 x11 x12 x13 x14 : Nat} {e1 e2 e3 e4 e5 e6 e7 e8 e9 e10 e11 e12 e13 e14 : va_E} {r : List (Nat × va_E)} (h1 : x14 ≠ x1) (h2 : x14 ≠ x2) (h3 : x14 ≠ x3) (h4 : x14 ≠ x4) (h5 : x14 ≠ x5) (h6 : x14 ≠ x6) (h7 : x14 ≠ x7) (h8 : x14 ≠ x8) (h9 : x14 ≠ x9) (h10 : x14 ≠ x10) (h11 : x14 ≠ x11) (h12 : x14 ≠ x12) (h13 : x14 ≠ x13) : ups g ((x1, e1) :: (x2, e2) :: (x3, e3) :: (x4, e4) :: (x5, e5) :: (x6, e6) :: (x7, e7) :: (x8, e8) :: (x9, e9) :: (x10, e10) :: (x11, e11) :: (x12, e12) :: (x13, e13) :: (x14, e14) :: r) x14 = some e14 := (va_up_ne _ _ h1).trans ((va_up_ne _ _ h2).trans ((va_up_ne _ _ h3).trans ((va_up_ne _ _ h4).trans ((va_up_ne _ _ h5).trans ((va_up_ne _ _ h6).trans ((va_up_ne _ _ h7).trans ((va_up_ne _ _ h8).trans ((va_up_ne _ _ h9).trans ((va_up_ne _ _ h10).trans ((va_up_ne _ _ h11).trans ((va_up_ne _ _ h12).trans ((va_up_ne _ _ h13).trans (va_up_self _ _ _)))))))))))))
theorem who_ups {cT : Nat → ClassId} {ad : Nat → Nat} {g : Nat → Option va_E} {x w R : Nat} {n b : Int32} {f : Nat → Int32} {z : Int} (hne : w ≠ x) (h : WN R n b f z) : WHO cT ad (ups g [(x, eW (ad w) n b), (w, eA (cT 0) R f)]) x w R z := ⟨n, b, f, ups_1, ups_2 hne, h⟩
/-- a code that is not among the cells, or whose cell is as it was -/
def KP (g : Nat → Option va_E) (z : Nat) : List (Nat × va_E) → Prop
  | [] => True
  | q :: r => (z ≠ q.1 ∨ g q.1 = some q.2) ∧ KP g z r
theorem kp_0 {g : Nat → Option va_E} {z : Nat} : KP g z [] := trivial
theorem kp_n {g : Nat → Option va_E} {z x : Nat} {e1 : va_E} {r : List (Nat × va_E)} (h : z ≠ x) (hr : KP g z r) : KP g z ((x, e1) :: r) := And.intro (Or.inl h) hr
theorem kp_s {g : Nat → Option va_E} {z x : Nat} {e1 : va_E} {r : List (Nat × va_E)} (h : g x = some e1) (hr : KP g z r) : KP g z ((x, e1) :: r) := And.intro (Or.inr h) hr
theorem ups_k {g : Nat → Option va_E} {z : Nat} : ∀ {w : List (Nat × va_E)}, KP g z w → ups g w z = g z
  | [], _ => rfl
  | q :: r, h => by
    show va_up _ _ _ _ = _
    by_cases e : z = q.1
    · rw [e, va_up_self]
      exact (h.1.resolve_left (fun n => n e)).symm
    · rw [va_up_ne _ _ e]
      exact ups_k h.2
