set_option maxHeartbeats 4000000 in
set_option maxRecDepth 100000 in
theorem m_takeS (l : Launch) (D : va_G) (cT : Nat → ClassId) (a : Nat) (f : Nat → Int32) (z : Int) (c2 : Nat) (f2 : Nat → Int32) (z2 : Int) (wv : Int) (s9 : Int32) (hN : MN f z) (hN2 : MN f2 z2) (hw : wv.natAbs = (z.natAbs - z2.natAbs) + (z2.natAbs - z.natAbs)) (hws : z.natAbs < z2.natAbs → s9 = sg wv) (hws2 : z2.natAbs < z.natAbs → sg z = sg wv) (sz : Nat) : Met l yM_takeSizes WM_takeSizes ({ frames := 1, cells := 0, slots := 0, locals := 22 } : Room) (RW D vwCl [.ref a, .ref c2, .int s9] [(a, .inl (cT 0, 302, .inl f)), (c2, .inl (cT 0, 302, .inl f2))] (TY cT) sz) (va_Qv (fun u9 : (Nat → Int32) => MN u9 wv) (BW D vwCl (va_A [(a, .inl (cT 0, 302, .inl f)), (c2, .inl (cT 0, 302, .inl f2))] sz) (fun u9 : (Nat → Int32) => [(a, .inl (cT 0, 302, .inl u9)), (c2, .inl (cT 0, 302, .inl f2))])) (va_A [(a, .inl (cT 0, 302, .inl f)), (c2, .inl (cT 0, 302, .inl f2))] sz)) 0 0 (va_A [(a, .inl (cT 0, 302, .inl f)), (c2, .inl (cT 0, 302, .inl f2))] sz) := by
  refine Met.ofW (cc := cM_takeSizes) (maxL := 10) (ret := none) (by decide) rfl ?_
  intro p e s m args below meth c s₁ B hml hv
  obtain ⟨rfl, hsz, hZ, hP, hK, hD0⟩ := hv
  have hx := B.exec
  have hb := B.bytes
  have hr := B.returns
  have hts := atoms_spec (ws := WM_takeSizes) B.pre
  have hT : ∀ w ∈ TB, w.before _ s = true := fun w h => hts w (List.mem_cons_of_mem _ h)
  have hown : s.vm.findClass R_M = some m.cls := findClass_of_methodNamed B.named
  have hlocks := B.notSynchronized
  subst hsz
  have hD := hD0.self (sz := s.heap.size)
  generalize hAe : va_A [(a, .inl (cT 0, 302, .inl f)), (c2, .inl (cT 0, 302, .inl f2))] s.heap.size = A at hD hZ ⊢
  have hA : ∀ q : Nat, s.heap.size ≤ q → A q := fun q h => by rw [← hAe]; exact Or.inr h
  have hS : va_S A s.heap s.heap [] := va_S.rf
  have hl := lv_entry ([.ref a, .ref c2, .int s9]) (n := 10) (Nat.le_of_ble_eq_true rfl)
  rw [lg_entry_eq]
  generalize (lg_sl ([.ref a, .ref c2, .int s9]) ++ List.replicate (10 - (lg_sl ([.ref a, .ref c2, .int s9])).length) Slot.unset).toArray = ls at hl ⊢
  have hl : lv_has ls 10 [(0, .ref a), (1, .ref c2), (2, .int s9)] := hl
  have hN0 := hN
  have hN20 := hN2
  obtain ⟨K, h300, hk, hd, htop, hs, hva⟩ := hN
  obtain ⟨K2, qh300, qhk, qhd, qhtop, qhs, qhva⟩ := hN2
  obtain ⟨nn, hnn⟩ : ∃ q9 : Nat, q9 = max K K2 := ⟨_, rfl⟩
  have hnn1 : K ≤ nn ∧ K2 ≤ nn ∧ nn ≤ 300 := by omega
  refine lv_aload_n hx hb dM_takeSizes_0 rfl (lv_at hl 0 rfl) ?_
  refine lv_aload_n hx hb dM_takeSizes_1 rfl (lv_at hl 1 rfl) ?_
  refine ro_i (va_Run.run (va_runS (As := [.ref a, .ref c2]) (rest := []) ⟨hx, hb, hml, hown, hT⟩ (m_cmps l D cT a f z c2 f2 z2 hN0 hN20) ⟨callB_of 2 hT (tb_gd w1436) rfl rfl rfl (hT _ w13) (hT _ w1434) hM_compareSizes ⟨Nat.le_of_ble_eq_true rfl, Nat.le_of_ble_eq_true rfl⟩, (hT _ w1435)⟩ (RO.preS hZ hS (hP.sub (ws' := [(a, .inl (cT 0, 302, .inl f)), (c2, .inl (cT 0, 302, .inl f2))]) [0, 1] rfl) hK) rfl rfl hl.1 rfl (lv_room (Nat.le_of_ble_eq_true rfl)) dM_takeSizes_2 ⟨Nat.le_of_ble_eq_true rfl, Nat.le_of_ble_eq_true rfl⟩)) ?_
  refine lv_if_ge (tgt := 12) hx hb dM_takeSizes_5 rfl (fun h1 => ?_) (fun h1 => ?_)
  · have hls : z2.natAbs ≤ z.natAbs := cn_ge.mp h1
    refine lv_iconst (v := 0) hx hb dM_takeSizes_12 (by decide) ?_
    refine lv_istore_n hx hb dM_takeSizes_13 rfl hl (by decide) rfl (fun ls hl => ?_)
    have hl : lv_has ls 10 [(3, .int 0), (0, .ref a), (1, .ref c2), (2, .int s9)] := hl
    refine lp_cut (fun x9 : Int32 => x9 = nI nn) (fun x9 => [.int x9]) 40 ls (fun x9 e9 => ?_) (fun hct2 => ?_)
    · cases (show x9 = nI nn from e9)
      refine lv_istore hx hb dM_takeSizes_40 hl (by decide) rfl (fun ls hl => ?_)
      have hl : lv_has ls 10 [(4, .int (nI nn)), (3, .int 0), (0, .ref a), (1, .ref c2), (2, .int s9)] := hl
      refine lv_iconst (v := 0) hx hb dM_takeSizes_42 (by decide) ?_
      refine lv_istore hx hb dM_takeSizes_43 hl (by decide) rfl (fun ls hl => ?_)
      have hl : lv_has ls 10 [(5, .int 0), (4, .int (nI nn)), (3, .int 0), (0, .ref a), (1, .ref c2), (2, .int s9)] := hl
      refine lv_iconst (v := 0) hx hb dM_takeSizes_45 (by decide) ?_
      refine lv_istore hx hb dM_takeSizes_46 hl (by decide) rfl (fun ls hl => ?_)
      have hl : lv_has ls 10 [(6, .int 0), (5, .int 0), (4, .int (nI nn)), (3, .int 0), (0, .ref a), (1, .ref c2), (2, .int s9)] := hl
      refine lp_w (α := Nat × Nat × (Nat → Int32)) (fun a9 => a9.1 ≤ nn ∧ a9.2.1 ≤ 1 ∧ dok 268435456 a9.2.2 a9.1 ∧ (∀ q, a9.1 ≤ q → a9.2.2 q = f q) ∧ hv 268435456 (dg a9.2.2) 0 a9.1 + hv 268435456 (ct K2 (dg f2)) 0 a9.1 = hv 268435456 (ct K (dg f)) 0 a9.1 + 268435456 ^ a9.1 * a9.2.1) (fun a9 => nn - a9.1) (fun a9 => [(0, .ref a), (1, .ref c2), (2, .int s9), (3, .int 0), (4, .int (nI nn)), (5, .int (nI a9.2.1)), (6, .int (nI a9.1))]) (fun a9 => [(a, .inl (cT 0, 302, .inl a9.2.2)), (c2, .inl (cT 0, 302, .inl f2))]) 48 ?_ (0, 0, f) (show 0 ≤ nn ∧ 0 ≤ 1 ∧ dok 268435456 f 0 ∧ (∀ q, 0 ≤ q → f q = f q) ∧ hv 268435456 (dg f) 0 0 + hv 268435456 (ct K2 (dg f2)) 0 0 = hv 268435456 (ct K (dg f)) 0 0 + 268435456 ^ 0 * 0 from ⟨by omega, by omega, fun q h => absurd h (by omega), fun _ _ => rfl, by simp [hv]⟩) (lv_sub hl [4, 5, 6, 3, 2, 1, 0] rfl) hP hD hS
      intro a9 hI48 ih48 ls H locs hl hP hD hS
      obtain ⟨j, o, g⟩ := a9
      have hI48 : j ≤ nn ∧ o ≤ 1 ∧ dok 268435456 g j ∧ (∀ q, j ≤ q → g q = f q) ∧ hv 268435456 (dg g) 0 j + hv 268435456 (ct K2 (dg f2)) 0 j = hv 268435456 (ct K (dg f)) 0 j + 268435456 ^ j * o := hI48
      obtain ⟨ij, io, idk, ig, iv⟩ := hI48
      have hl : lv_has ls 10 [(0, .ref a), (1, .ref c2), (2, .int s9), (3, .int 0), (4, .int (nI nn)), (5, .int (nI o)), (6, .int (nI j))] := hl
      have hP : va_P D vwCl [(a, .inl (cT 0, 302, .inl g)), (c2, .inl (cT 0, 302, .inl f2))] _ := hP
      have hD : va_D A [(a, .inl (cT 0, 302, .inl g)), (c2, .inl (cT 0, 302, .inl f2))] := hD
      refine lv_iload hx hb dM_takeSizes_48 (lv_at hl 6 rfl) ?_
      refine lv_iload hx hb dM_takeSizes_50 (lv_at hl 4 rfl) ?_
      refine lv_icmp_ge (tgt := 144) hx hb dM_takeSizes_52 rfl (fun h3 => ?_) (fun h3 => ?_)
      · have gh3 : nn ≤ j := (nI_leI (a := nn) (b := j) (by omega) (by omega)).mp h3
        have ej : j = nn := by omega
        subst ej
        have hl : lv_has ls 10 [(0, .ref a), (1, .ref c2), (2, .int s9), (3, .int 0), (4, .int (nI j)), (5, .int (nI o)), (6, .int (nI j))] := hl
        have hP : va_P D vwCl [(a, .inl (cT 0, 302, .inl g)), (c2, .inl (cT 0, 302, .inl f2))] _ := hP
        have hD : va_D A [(a, .inl (cT 0, 302, .inl g)), (c2, .inl (cT 0, 302, .inl f2))] := hD
        rw [hv_ct (show K ≤ j by omega), hv_ct (show K2 ≤ j by omega)] at iv
        have iv : vM g j + vM f2 K2 = vM f K + 268435456 ^ j * o := iv
        have ho : o = 0 := by
          have hb9 := vM_b idk
          rcases (show o = 0 ∨ o = 1 by omega) with r | r
          · exact r
          · rw [r, Nat.mul_one] at iv; omega
        rw [ho, Nat.mul_zero, Nat.add_zero] at iv
        refine lv_aload_n hx hb dM_takeSizes_144 rfl (lv_at hl 0 rfl) ?_
        refine lv_sipush (v := 301) hx hb dM_takeSizes_145 (by decide) ?_
        refine lv_iload_n hx hb dM_takeSizes_148 rfl (lv_at hl 3 rfl) ?_
        refine lv_if_eq (tgt := 156) hx hb dM_takeSizes_149 rfl (fun _ => ?_) (fun h4 => absurd (by decide) h4)
        refine lv_aload_n hx hb dM_takeSizes_156 rfl (lv_at hl 0 rfl) ?_
        refine lv_sipush (v := 301) hx hb dM_takeSizes_157 (by decide) ?_
        refine lq_iald (j := 301) hx hb hK hP 0 0 rfl rfl rfl (by decide) (by decide) dM_takeSizes_160 ?_
        refine lv_topi (fun y9 e9 => ?_)
        cases (show y9 = f 301 from e9.trans (ig 301 (by omega)))
        refine lq_iast (j := 301) hx hb hK hP hD hS 0 0 rfl rfl rfl (by decide) (by decide) dM_takeSizes_161 (fun H locs hP hD hS => ?_)
        have hP : va_P D vwCl [(a, .inl (cT 0, 302, .inl (upd g 301 (f 301)))), (c2, .inl (cT 0, 302, .inl f2))] _ := hP
        have hD : va_D A [(a, .inl (cT 0, 302, .inl (upd g 301 (f 301)))), (c2, .inl (cT 0, 302, .inl f2))] := hD
        refine lv_aload_n hx hb dM_takeSizes_162 rfl (lv_at hl 0 rfl) ?_
        refine lv_iload hx hb dM_takeSizes_163 (lv_at hl 4 rfl) ?_
        refine rw_v (wc := [(a, .inl (cT 0, 302, .inl (upd g 301 (f 301))))]) (wr := [(c2, .inl (cT 0, 302, .inl f2))]) hP hD hS hA [0] [1] rfl rfl (by decide) (by decide) (va_runS (As := [.ref a, .int (nI j)]) (rest := []) ⟨hx, hb, hml, hown, hT⟩ (m_trim l D cT a (upd g 301 (f 301)) j (by omega) (dok_cg idk (fun q hq => pk_un (by omega))) _) ⟨callB_of 2 hT (tb_gd w1420) rfl rfl rfl (hT _ w13) (hT _ w1418) hM_trim ⟨Nat.le_of_ble_eq_true rfl, Nat.le_of_ble_eq_true rfl⟩, (hT _ w1419)⟩ (RW.preS hZ hS (va_free (wc := [(a, .inl (cT 0, 302, .inl (upd g 301 (f 301))))]) hD hS hA [0] rfl) (hP.sub (ws' := [(a, .inl (cT 0, 302, .inl (upd g 301 (f 301))))]) [0] rfl) hK (hD.sub (ws' := [(a, .inl (cT 0, 302, .inl (upd g 301 (f 301))))]) [0] (by decide) rfl)) rfl rfl hl.1 rfl (lv_room (Nat.le_of_ble_eq_true rfl)) dM_takeSizes_165 ⟨Nat.le_of_ble_eq_true rfl, Nat.le_of_ble_eq_true rfl⟩) (fun u9 H locs hpu5 hP hD hS => ?_)
        obtain ⟨ku5, f1u5⟩ := u9
        have hpu5 : ku5 ≤ j ∧ top0 (upd g 301 (f 301)) ku5 ∧ vM (upd g 301 (f 301)) ku5 = vM (upd g 301 (f 301)) j ∧ f1u5 300 = nI ku5 ∧ f1u5 301 = (if ku5 = 0 then 0 else (upd g 301 (f 301)) 301) ∧ ∀ q8, q8 < 300 → f1u5 q8 = (upd g 301 (f 301)) q8 := hpu5
        have hP : va_P D vwCl [(c2, .inl (cT 0, 302, .inl f2)), (a, .inl (cT 0, 302, .inl f1u5))] _ := hP
        have hD : va_D A [(c2, .inl (cT 0, 302, .inl f2)), (a, .inl (cT 0, 302, .inl f1u5))] := hD
        have hP9 := hP.sub (ws' := [(a, .inl (cT 0, 302, .inl f1u5)), (c2, .inl (cT 0, 302, .inl f2))]) [1, 0] rfl
        have hD9 := hD.sub (ws' := [(a, .inl (cT 0, 302, .inl f1u5)), (c2, .inl (cT 0, 302, .inl f2))]) [1, 0] (by decide) rfl
        refine W.widen (k := 0) (n := 0) (Nat.le_of_ble_eq_true rfl) (Nat.le_of_ble_eq_true rfl) ?_
        exact W.vret hx hb hr (fun t9 ht9 hW9 => ⟨⟨f1u5, rfl, (show MN f1u5 wv from mn_trim (by omega) (dok_cg idk (fun q hq => pk_un (by omega))) hpu5 (by rw [hw, show vM (upd g 301 (f 301)) j = vM g j from hv_cg (fun q hq => pk_un (by omega))]; omega) (fun q => pk_us.trans (hs.trans (hws2 (by omega))))), by rw [ht9]; exact hP9, hD9⟩, hS.F ht9⟩) hS.2.2 dM_takeSizes_168
      · have gh3 : j < nn := Nat.not_le.mp (fun q => h3 ((nI_leI (a := nn) (b := j) (by omega) (by omega)).mpr q))
        obtain ⟨x1, hx1⟩ : ∃ q9 : Nat, q9 = ct K (dg f) j := ⟨_, rfl⟩
        have hx1b : x1 < 268435456 := by
          rw [hx1]
          by_cases q : j < K
          · rw [ct_lt q]; exact (hd j q).2
          · rw [ct_ge (show K ≤ j by omega)]; decide
        obtain ⟨y1, hy1⟩ : ∃ q9 : Nat, q9 = ct K2 (dg f2) j := ⟨_, rfl⟩
        have hy1b : y1 < 268435456 := by
          rw [hy1]
          by_cases q : j < K2
          · rw [ct_lt q]; exact (qhd j q).2
          · rw [ct_ge (show K2 ≤ j by omega)]; decide
        refine lp_cut (fun x9 : Int32 => x9 = nI x1) (fun x9 => [.int x9]) 73 ls (fun x9 e9 => ?_) (fun hct6 => ?_)
        · cases (show x9 = nI x1 from e9)
          refine lv_istore hx hb dM_takeSizes_73 hl (by decide) rfl (fun ls hl => ?_)
          have hl : lv_has ls 10 [(7, .int (nI x1)), (0, .ref a), (1, .ref c2), (2, .int s9), (3, .int 0), (4, .int (nI nn)), (5, .int (nI o)), (6, .int (nI j))] := hl
          refine lp_cut (fun x9 : Int32 => x9 = nI y1) (fun x9 => [.int x9]) 93 ls (fun x9 e9 => ?_) (fun hct7 => ?_)
          · cases (show x9 = nI y1 from e9)
            refine lv_istore hx hb dM_takeSizes_93 hl (by decide) rfl (fun ls hl => ?_)
            have hl : lv_has ls 10 [(8, .int (nI y1)), (7, .int (nI x1)), (0, .ref a), (1, .ref c2), (2, .int s9), (3, .int 0), (4, .int (nI nn)), (5, .int (nI o)), (6, .int (nI j))] := hl
            refine lv_iload_n hx hb dM_takeSizes_95 rfl (lv_at hl 5 rfl) ?_
            refine lv_if_eq (tgt := 107) hx hb dM_takeSizes_96 rfl (fun _ => ?_) (fun h8 => absurd (by decide) h8)
            refine lv_iload hx hb dM_takeSizes_107 (lv_at hl 1 rfl) ?_
            refine lv_iload hx hb dM_takeSizes_109 (lv_at hl 0 rfl) ?_
            refine lv_isub hx hb dM_takeSizes_111 ?_
            refine lv_iload hx hb dM_takeSizes_112 (lv_at hl 7 rfl) ?_
            refine lv_isub hx hb dM_takeSizes_114 ?_
            obtain ⟨s1, hs1⟩ : ∃ q9 : Int32, q9 = nI x1 - nI y1 - nI o := ⟨_, rfl⟩
            refine lv_topi (fun y9 e9 => ?_)
            cases (show y9 = s1 from e9.trans hs1.symm)
            have hs1i : s1.toInt = (x1 : Int) - y1 - o := by rw [hs1]; exact sb_ti2 (by omega) (by omega) io
            refine lv_istore hx hb dM_takeSizes_115 hl (by decide) rfl (fun ls hl => ?_)
            have hl : lv_has ls 10 [(9, .int s1), (8, .int (nI y1)), (7, .int (nI x1)), (0, .ref a), (1, .ref c2), (2, .int s9), (3, .int 0), (4, .int (nI nn)), (5, .int (nI o)), (6, .int (nI j))] := hl
            refine lv_iload hx hb dM_takeSizes_117 (lv_at hl 0 rfl) ?_
            refine lv_if_ge (tgt := 126) hx hb dM_takeSizes_119 rfl (fun h9 => ?_) (fun h9 => ?_)
            · have hng : 0 ≤ (x1 : Int) - y1 - o := by have q := Int32.le_iff_toInt_le.mp h9; rw [hs1i] at q; exact q
              obtain ⟨e1, he1⟩ : ∃ q9 : Nat, q9 = x1 - y1 - o := ⟨_, rfl⟩
              have he1b : e1 < 268435456 := by omega
              refine lv_iconst (v := 0) hx hb dM_takeSizes_126 (by decide) ?_
              refine lv_istore hx hb dM_takeSizes_127 hl (by decide) rfl (fun ls hl => ?_)
              have hl : lv_has ls 10 [(5, .int 0), (9, .int s1), (8, .int (nI y1)), (7, .int (nI x1)), (0, .ref a), (1, .ref c2), (2, .int s9), (3, .int 0), (4, .int (nI nn)), (6, .int (nI j))] := hl
              refine lv_aload_n hx hb dM_takeSizes_129 rfl (lv_at hl 4 rfl) ?_
              refine lv_iload hx hb dM_takeSizes_130 (lv_at hl 9 rfl) ?_
              refine lv_iload hx hb dM_takeSizes_132 (lv_at hl 1 rfl) ?_
              refine lv_ldc (v := 268435455) hx hb hown (hT _ w1430) dM_takeSizes_134 ?_
              refine lv_iand hx hb dM_takeSizes_136 ?_
              refine lv_topi (fun y9 e9 => ?_)
              cases (show y9 = nI e1 from e9.trans (an_z hs1i hng (by omega) (by omega)))
              refine lq_iast (j := j) hx hb hK hP hD hS 0 0 rfl rfl rfl (by omega) (by omega) dM_takeSizes_137 (fun H locs hP hD hS => ?_)
              have hP : va_P D vwCl [(a, .inl (cT 0, 302, .inl (upd g j (nI e1)))), (c2, .inl (cT 0, 302, .inl f2))] _ := hP
              have hD : va_D A [(a, .inl (cT 0, 302, .inl (upd g j (nI e1)))), (c2, .inl (cT 0, 302, .inl f2))] := hD
              refine lv_iinc (k := 9) (v := nI (j + 1)) hx hb dM_takeSizes_138 hl rfl (nI_1 j) (by decide) rfl (fun ls hl => ?_)
              have hl : lv_has ls 10 [(6, .int (nI (j + 1))), (5, .int 0), (9, .int s1), (8, .int (nI y1)), (7, .int (nI x1)), (0, .ref a), (1, .ref c2), (2, .int s9), (3, .int 0), (4, .int (nI nn))] := hl
              refine lv_goto (tgt := 48) hx hb dM_takeSizes_141 rfl ?_
              exact ih48 (j + 1, 0, upd g j (nI e1)) (show (j + 1) ≤ nn ∧ 0 ≤ 1 ∧ dok 268435456 (upd g j (nI e1)) (j + 1) ∧ (∀ q, (j + 1) ≤ q → (upd g j (nI e1)) q = f q) ∧ hv 268435456 (dg (upd g j (nI e1))) 0 (j + 1) + hv 268435456 (ct K2 (dg f2)) 0 (j + 1) = hv 268435456 (ct K (dg f)) 0 (j + 1) + 268435456 ^ (j + 1) * 0 from ⟨by omega, by omega, dok_s idk he1b (by decide), fun q h => (pk_un (by omega)).trans (ig q (by omega)), by rw [hv_us (v := e1) (by omega), hv_snoc, hv_snoc, Nat.zero_add, Nat.pow_succ, ← hx1, ← hy1]; exact sub_s iv (by omega)⟩) (show nn - (j + 1) < nn - j from (by omega)) ls H locs (lv_sub hl [5, 6, 7, 8, 9, 1, 0] rfl) hP hD hS
            · have hng : (x1 : Int) - y1 - o < 0 := by have q := Int32.lt_iff_toInt_lt.mp (Int32.not_le.mp h9); rw [hs1i] at q; exact q
              obtain ⟨e1, he1⟩ : ∃ q9 : Nat, q9 = x1 + 268435456 - y1 - o := ⟨_, rfl⟩
              have he1b : e1 < 268435456 := by omega
              refine lv_iconst (v := 1) hx hb dM_takeSizes_122 (by decide) ?_
              refine lv_goto (tgt := 127) hx hb dM_takeSizes_123 rfl ?_
              refine lv_istore hx hb dM_takeSizes_127 hl (by decide) rfl (fun ls hl => ?_)
              have hl : lv_has ls 10 [(5, .int 1), (9, .int s1), (8, .int (nI y1)), (7, .int (nI x1)), (0, .ref a), (1, .ref c2), (2, .int s9), (3, .int 0), (4, .int (nI nn)), (6, .int (nI j))] := hl
              refine lv_aload_n hx hb dM_takeSizes_129 rfl (lv_at hl 4 rfl) ?_
              refine lv_iload hx hb dM_takeSizes_130 (lv_at hl 9 rfl) ?_
              refine lv_iload hx hb dM_takeSizes_132 (lv_at hl 1 rfl) ?_
              refine lv_ldc (v := 268435455) hx hb hown (hT _ w1430) dM_takeSizes_134 ?_
              refine lv_iand hx hb dM_takeSizes_136 ?_
              refine lv_topi (fun y9 e9 => ?_)
              cases (show y9 = nI e1 from e9.trans (an_m hs1i (by omega) hng (by omega)))
              refine lq_iast (j := j) hx hb hK hP hD hS 0 0 rfl rfl rfl (by omega) (by omega) dM_takeSizes_137 (fun H locs hP hD hS => ?_)
              have hP : va_P D vwCl [(a, .inl (cT 0, 302, .inl (upd g j (nI e1)))), (c2, .inl (cT 0, 302, .inl f2))] _ := hP
              have hD : va_D A [(a, .inl (cT 0, 302, .inl (upd g j (nI e1)))), (c2, .inl (cT 0, 302, .inl f2))] := hD
              refine lv_iinc (k := 9) (v := nI (j + 1)) hx hb dM_takeSizes_138 hl rfl (nI_1 j) (by decide) rfl (fun ls hl => ?_)
              have hl : lv_has ls 10 [(6, .int (nI (j + 1))), (5, .int 1), (9, .int s1), (8, .int (nI y1)), (7, .int (nI x1)), (0, .ref a), (1, .ref c2), (2, .int s9), (3, .int 0), (4, .int (nI nn))] := hl
              refine lv_goto (tgt := 48) hx hb dM_takeSizes_141 rfl ?_
              exact ih48 (j + 1, 1, upd g j (nI e1)) (show (j + 1) ≤ nn ∧ 1 ≤ 1 ∧ dok 268435456 (upd g j (nI e1)) (j + 1) ∧ (∀ q, (j + 1) ≤ q → (upd g j (nI e1)) q = f q) ∧ hv 268435456 (dg (upd g j (nI e1))) 0 (j + 1) + hv 268435456 (ct K2 (dg f2)) 0 (j + 1) = hv 268435456 (ct K (dg f)) 0 (j + 1) + 268435456 ^ (j + 1) * 1 from ⟨by omega, by omega, dok_s idk he1b (by decide), fun q h => (pk_un (by omega)).trans (ig q (by omega)), by rw [hv_us (v := e1) (by omega), hv_snoc, hv_snoc, Nat.zero_add, Nat.pow_succ, ← hx1, ← hy1]; exact sub_s iv (by omega)⟩) (show nn - (j + 1) < nn - j from (by omega)) ls H locs (lv_sub hl [5, 6, 7, 8, 9, 1, 0] rfl) hP hD hS
          · refine lv_iload hx hb dM_takeSizes_75 (lv_at hl 7 rfl) ?_
            refine lv_aload_n hx hb dM_takeSizes_77 rfl (lv_at hl 2 rfl) ?_
            refine lv_sipush (v := 300) hx hb dM_takeSizes_78 (by decide) ?_
            refine lq_iald (j := 300) hx hb hK hP 1 0 rfl rfl rfl (by decide) (by decide) dM_takeSizes_81 ?_
            refine lv_topi (fun y9 e9 => ?_)
            cases (show y9 = nI K2 from e9.trans qh300)
            refine lv_icmp_ge (tgt := 92) hx hb dM_takeSizes_82 rfl (fun h10 => ?_) (fun h10 => ?_)
            · have gh10 : K2 ≤ j := (nI_leI (a := K2) (b := j) (by omega) (by omega)).mp h10
              refine lv_iconst (v := 0) hx hb dM_takeSizes_92 (by decide) ?_
              exact hct7 _ (by rw [hy1, ct_ge (show K2 ≤ j by omega)]; rfl)
            · have gh10 : j < K2 := Nat.not_le.mp (fun q => h10 ((nI_leI (a := K2) (b := j) (by omega) (by omega)).mpr q))
              refine lv_aload_n hx hb dM_takeSizes_85 rfl (lv_at hl 2 rfl) ?_
              refine lv_iload hx hb dM_takeSizes_86 (lv_at hl 7 rfl) ?_
              refine lq_iald (j := j) hx hb hK hP 1 0 rfl rfl rfl (by omega) (by omega) dM_takeSizes_88 ?_
              refine lv_goto (tgt := 93) hx hb dM_takeSizes_89 rfl ?_
              exact hct7 _ (by rw [hy1, ct_lt (show j < K2 by omega)]; exact (qhd j (by omega)).1)
        · refine lv_iload hx hb dM_takeSizes_55 (lv_at hl 6 rfl) ?_
          refine lv_aload_n hx hb dM_takeSizes_57 rfl (lv_at hl 0 rfl) ?_
          refine lv_sipush (v := 300) hx hb dM_takeSizes_58 (by decide) ?_
          refine lq_iald (j := 300) hx hb hK hP 0 0 rfl rfl rfl (by decide) (by decide) dM_takeSizes_61 ?_
          refine lv_topi (fun y9 e9 => ?_)
          cases (show y9 = nI K from e9.trans ((ig 300 (by omega)).trans h300))
          refine lv_icmp_ge (tgt := 72) hx hb dM_takeSizes_62 rfl (fun h11 => ?_) (fun h11 => ?_)
          · have gh11 : K ≤ j := (nI_leI (a := K) (b := j) (by omega) (by omega)).mp h11
            refine lv_iconst (v := 0) hx hb dM_takeSizes_72 (by decide) ?_
            exact hct6 _ (by rw [hx1, ct_ge (show K ≤ j by omega)]; rfl)
          · have gh11 : j < K := Nat.not_le.mp (fun q => h11 ((nI_leI (a := K) (b := j) (by omega) (by omega)).mpr q))
            refine lv_aload_n hx hb dM_takeSizes_65 rfl (lv_at hl 0 rfl) ?_
            refine lv_iload hx hb dM_takeSizes_66 (lv_at hl 6 rfl) ?_
            refine lq_iald (j := j) hx hb hK hP 0 0 rfl rfl rfl (by omega) (by omega) dM_takeSizes_68 ?_
            refine lv_goto (tgt := 73) hx hb dM_takeSizes_69 rfl ?_
            exact hct6 _ (by rw [ig j (Nat.le_refl _), hx1, ct_lt (show j < K by omega)]; exact (hd j (by omega)).1)
    · refine lv_aload_n hx hb dM_takeSizes_14 rfl (lv_at hl 1 rfl) ?_
      refine lv_sipush (v := 300) hx hb dM_takeSizes_15 (by decide) ?_
      refine lq_iald (j := 300) hx hb hK hP 0 0 rfl rfl rfl (by decide) (by decide) dM_takeSizes_18 ?_
      refine lv_topi (fun y9 e9 => ?_)
      cases (show y9 = nI K from e9.trans h300)
      refine lv_aload_n hx hb dM_takeSizes_19 rfl (lv_at hl 2 rfl) ?_
      refine lv_sipush (v := 300) hx hb dM_takeSizes_20 (by decide) ?_
      refine lq_iald (j := 300) hx hb hK hP 1 0 rfl rfl rfl (by decide) (by decide) dM_takeSizes_23 ?_
      refine lv_topi (fun y9 e9 => ?_)
      cases (show y9 = nI K2 from e9.trans qh300)
      refine lv_icmp_le (tgt := 35) hx hb dM_takeSizes_24 rfl (fun h12 => ?_) (fun h12 => ?_)
      · have gh12 : K ≤ K2 := (nI_leI (a := K) (b := K2) (by omega) (by omega)).mp h12
        refine lv_aload_n hx hb dM_takeSizes_35 rfl (lv_at hl 2 rfl) ?_
        refine lv_sipush (v := 300) hx hb dM_takeSizes_36 (by decide) ?_
        refine lq_iald (j := 300) hx hb hK hP 1 0 rfl rfl rfl (by decide) (by decide) dM_takeSizes_39 ?_
        exact hct2 _ (by rw [qh300, hnn, Nat.max_eq_right (by omega)])
      · have gh12 : K2 < K := Nat.not_le.mp (fun q => h12 ((nI_leI (a := K) (b := K2) (by omega) (by omega)).mpr q))
        refine lv_aload_n hx hb dM_takeSizes_27 rfl (lv_at hl 1 rfl) ?_
        refine lv_sipush (v := 300) hx hb dM_takeSizes_28 (by decide) ?_
        refine lq_iald (j := 300) hx hb hK hP 0 0 rfl rfl rfl (by decide) (by decide) dM_takeSizes_31 ?_
        refine lv_topi (fun y9 e9 => ?_)
        cases (show y9 = nI K from e9.trans h300)
        refine lv_goto (tgt := 40) hx hb dM_takeSizes_32 rfl ?_
        exact hct2 _ (by rw [hnn, Nat.max_eq_left (by omega)])
  · have hls : z.natAbs < z2.natAbs := Nat.not_le.mp (fun q => h1 (cn_ge.mpr q))
    refine lv_iconst (v := 1) hx hb dM_takeSizes_8 (by decide) ?_
    refine lv_goto (tgt := 13) hx hb dM_takeSizes_9 rfl ?_
    refine lv_istore_n hx hb dM_takeSizes_13 rfl hl (by decide) rfl (fun ls hl => ?_)
    have hl : lv_has ls 10 [(3, .int 1), (0, .ref a), (1, .ref c2), (2, .int s9)] := hl
    refine lp_cut (fun x9 : Int32 => x9 = nI nn) (fun x9 => [.int x9]) 40 ls (fun x9 e9 => ?_) (fun hct13 => ?_)
    · cases (show x9 = nI nn from e9)
      refine lv_istore hx hb dM_takeSizes_40 hl (by decide) rfl (fun ls hl => ?_)
      have hl : lv_has ls 10 [(4, .int (nI nn)), (3, .int 1), (0, .ref a), (1, .ref c2), (2, .int s9)] := hl
      refine lv_iconst (v := 0) hx hb dM_takeSizes_42 (by decide) ?_
      refine lv_istore hx hb dM_takeSizes_43 hl (by decide) rfl (fun ls hl => ?_)
      have hl : lv_has ls 10 [(5, .int 0), (4, .int (nI nn)), (3, .int 1), (0, .ref a), (1, .ref c2), (2, .int s9)] := hl
      refine lv_iconst (v := 0) hx hb dM_takeSizes_45 (by decide) ?_
      refine lv_istore hx hb dM_takeSizes_46 hl (by decide) rfl (fun ls hl => ?_)
      have hl : lv_has ls 10 [(6, .int 0), (5, .int 0), (4, .int (nI nn)), (3, .int 1), (0, .ref a), (1, .ref c2), (2, .int s9)] := hl
      refine lp_w (α := Nat × Nat × (Nat → Int32)) (fun a9 => a9.1 ≤ nn ∧ a9.2.1 ≤ 1 ∧ dok 268435456 a9.2.2 a9.1 ∧ (∀ q, a9.1 ≤ q → a9.2.2 q = f q) ∧ hv 268435456 (dg a9.2.2) 0 a9.1 + hv 268435456 (ct K (dg f)) 0 a9.1 = hv 268435456 (ct K2 (dg f2)) 0 a9.1 + 268435456 ^ a9.1 * a9.2.1) (fun a9 => nn - a9.1) (fun a9 => [(0, .ref a), (1, .ref c2), (2, .int s9), (3, .int 1), (4, .int (nI nn)), (5, .int (nI a9.2.1)), (6, .int (nI a9.1))]) (fun a9 => [(a, .inl (cT 0, 302, .inl a9.2.2)), (c2, .inl (cT 0, 302, .inl f2))]) 48 ?_ (0, 0, f) (show 0 ≤ nn ∧ 0 ≤ 1 ∧ dok 268435456 f 0 ∧ (∀ q, 0 ≤ q → f q = f q) ∧ hv 268435456 (dg f) 0 0 + hv 268435456 (ct K (dg f)) 0 0 = hv 268435456 (ct K2 (dg f2)) 0 0 + 268435456 ^ 0 * 0 from ⟨by omega, by omega, fun q h => absurd h (by omega), fun _ _ => rfl, by simp [hv]⟩) (lv_sub hl [4, 5, 6, 3, 2, 1, 0] rfl) hP hD hS
      intro a9 hI48 ih48 ls H locs hl hP hD hS
      obtain ⟨j, o, g⟩ := a9
      have hI48 : j ≤ nn ∧ o ≤ 1 ∧ dok 268435456 g j ∧ (∀ q, j ≤ q → g q = f q) ∧ hv 268435456 (dg g) 0 j + hv 268435456 (ct K (dg f)) 0 j = hv 268435456 (ct K2 (dg f2)) 0 j + 268435456 ^ j * o := hI48
      obtain ⟨ij, io, idk, ig, iv⟩ := hI48
      have hl : lv_has ls 10 [(0, .ref a), (1, .ref c2), (2, .int s9), (3, .int 1), (4, .int (nI nn)), (5, .int (nI o)), (6, .int (nI j))] := hl
      have hP : va_P D vwCl [(a, .inl (cT 0, 302, .inl g)), (c2, .inl (cT 0, 302, .inl f2))] _ := hP
      have hD : va_D A [(a, .inl (cT 0, 302, .inl g)), (c2, .inl (cT 0, 302, .inl f2))] := hD
      refine lv_iload hx hb dM_takeSizes_48 (lv_at hl 6 rfl) ?_
      refine lv_iload hx hb dM_takeSizes_50 (lv_at hl 4 rfl) ?_
      refine lv_icmp_ge (tgt := 144) hx hb dM_takeSizes_52 rfl (fun h14 => ?_) (fun h14 => ?_)
      · have gh14 : nn ≤ j := (nI_leI (a := nn) (b := j) (by omega) (by omega)).mp h14
        have ej : j = nn := by omega
        subst ej
        have hl : lv_has ls 10 [(0, .ref a), (1, .ref c2), (2, .int s9), (3, .int 1), (4, .int (nI j)), (5, .int (nI o)), (6, .int (nI j))] := hl
        have hP : va_P D vwCl [(a, .inl (cT 0, 302, .inl g)), (c2, .inl (cT 0, 302, .inl f2))] _ := hP
        have hD : va_D A [(a, .inl (cT 0, 302, .inl g)), (c2, .inl (cT 0, 302, .inl f2))] := hD
        rw [hv_ct (show K ≤ j by omega), hv_ct (show K2 ≤ j by omega)] at iv
        have iv : vM g j + vM f K = vM f2 K2 + 268435456 ^ j * o := iv
        have ho : o = 0 := by
          have hb9 := vM_b idk
          rcases (show o = 0 ∨ o = 1 by omega) with r | r
          · exact r
          · rw [r, Nat.mul_one] at iv; omega
        rw [ho, Nat.mul_zero, Nat.add_zero] at iv
        refine lv_aload_n hx hb dM_takeSizes_144 rfl (lv_at hl 0 rfl) ?_
        refine lv_sipush (v := 301) hx hb dM_takeSizes_145 (by decide) ?_
        refine lv_iload_n hx hb dM_takeSizes_148 rfl (lv_at hl 3 rfl) ?_
        refine lv_if_eq (tgt := 156) hx hb dM_takeSizes_149 rfl (fun h15 => absurd h15 (by decide)) (fun _ => ?_)
        refine lv_iload_n hx hb dM_takeSizes_152 rfl (lv_at hl 2 rfl) ?_
        refine lv_goto (tgt := 161) hx hb dM_takeSizes_153 rfl ?_
        refine lq_iast (j := 301) hx hb hK hP hD hS 0 0 rfl rfl rfl (by decide) (by decide) dM_takeSizes_161 (fun H locs hP hD hS => ?_)
        have hP : va_P D vwCl [(a, .inl (cT 0, 302, .inl (upd g 301 s9))), (c2, .inl (cT 0, 302, .inl f2))] _ := hP
        have hD : va_D A [(a, .inl (cT 0, 302, .inl (upd g 301 s9))), (c2, .inl (cT 0, 302, .inl f2))] := hD
        refine lv_aload_n hx hb dM_takeSizes_162 rfl (lv_at hl 0 rfl) ?_
        refine lv_iload hx hb dM_takeSizes_163 (lv_at hl 4 rfl) ?_
        refine rw_v (wc := [(a, .inl (cT 0, 302, .inl (upd g 301 s9)))]) (wr := [(c2, .inl (cT 0, 302, .inl f2))]) hP hD hS hA [0] [1] rfl rfl (by decide) (by decide) (va_runS (As := [.ref a, .int (nI j)]) (rest := []) ⟨hx, hb, hml, hown, hT⟩ (m_trim l D cT a (upd g 301 s9) j (by omega) (dok_cg idk (fun q hq => pk_un (by omega))) _) ⟨callB_of 2 hT (tb_gd w1420) rfl rfl rfl (hT _ w13) (hT _ w1418) hM_trim ⟨Nat.le_of_ble_eq_true rfl, Nat.le_of_ble_eq_true rfl⟩, (hT _ w1419)⟩ (RW.preS hZ hS (va_free (wc := [(a, .inl (cT 0, 302, .inl (upd g 301 s9)))]) hD hS hA [0] rfl) (hP.sub (ws' := [(a, .inl (cT 0, 302, .inl (upd g 301 s9)))]) [0] rfl) hK (hD.sub (ws' := [(a, .inl (cT 0, 302, .inl (upd g 301 s9)))]) [0] (by decide) rfl)) rfl rfl hl.1 rfl (lv_room (Nat.le_of_ble_eq_true rfl)) dM_takeSizes_165 ⟨Nat.le_of_ble_eq_true rfl, Nat.le_of_ble_eq_true rfl⟩) (fun u9 H locs hpu16 hP hD hS => ?_)
        obtain ⟨ku16, f1u16⟩ := u9
        have hpu16 : ku16 ≤ j ∧ top0 (upd g 301 s9) ku16 ∧ vM (upd g 301 s9) ku16 = vM (upd g 301 s9) j ∧ f1u16 300 = nI ku16 ∧ f1u16 301 = (if ku16 = 0 then 0 else (upd g 301 s9) 301) ∧ ∀ q8, q8 < 300 → f1u16 q8 = (upd g 301 s9) q8 := hpu16
        have hP : va_P D vwCl [(c2, .inl (cT 0, 302, .inl f2)), (a, .inl (cT 0, 302, .inl f1u16))] _ := hP
        have hD : va_D A [(c2, .inl (cT 0, 302, .inl f2)), (a, .inl (cT 0, 302, .inl f1u16))] := hD
        have hP9 := hP.sub (ws' := [(a, .inl (cT 0, 302, .inl f1u16)), (c2, .inl (cT 0, 302, .inl f2))]) [1, 0] rfl
        have hD9 := hD.sub (ws' := [(a, .inl (cT 0, 302, .inl f1u16)), (c2, .inl (cT 0, 302, .inl f2))]) [1, 0] (by decide) rfl
        refine W.widen (k := 0) (n := 0) (Nat.le_of_ble_eq_true rfl) (Nat.le_of_ble_eq_true rfl) ?_
        exact W.vret hx hb hr (fun t9 ht9 hW9 => ⟨⟨f1u16, rfl, (show MN f1u16 wv from mn_trim (by omega) (dok_cg idk (fun q hq => pk_un (by omega))) hpu16 (by rw [hw, show vM (upd g 301 s9) j = vM g j from hv_cg (fun q hq => pk_un (by omega))]; omega) (fun q => pk_us.trans (hws (by omega)))), by rw [ht9]; exact hP9, hD9⟩, hS.F ht9⟩) hS.2.2 dM_takeSizes_168
      · have gh14 : j < nn := Nat.not_le.mp (fun q => h14 ((nI_leI (a := nn) (b := j) (by omega) (by omega)).mpr q))
        obtain ⟨x1, hx1⟩ : ∃ q9 : Nat, q9 = ct K (dg f) j := ⟨_, rfl⟩
        have hx1b : x1 < 268435456 := by
          rw [hx1]
          by_cases q : j < K
          · rw [ct_lt q]; exact (hd j q).2
          · rw [ct_ge (show K ≤ j by omega)]; decide
        obtain ⟨y1, hy1⟩ : ∃ q9 : Nat, q9 = ct K2 (dg f2) j := ⟨_, rfl⟩
        have hy1b : y1 < 268435456 := by
          rw [hy1]
          by_cases q : j < K2
          · rw [ct_lt q]; exact (qhd j q).2
          · rw [ct_ge (show K2 ≤ j by omega)]; decide
        refine lp_cut (fun x9 : Int32 => x9 = nI x1) (fun x9 => [.int x9]) 73 ls (fun x9 e9 => ?_) (fun hct17 => ?_)
        · cases (show x9 = nI x1 from e9)
          refine lv_istore hx hb dM_takeSizes_73 hl (by decide) rfl (fun ls hl => ?_)
          have hl : lv_has ls 10 [(7, .int (nI x1)), (0, .ref a), (1, .ref c2), (2, .int s9), (3, .int 1), (4, .int (nI nn)), (5, .int (nI o)), (6, .int (nI j))] := hl
          refine lp_cut (fun x9 : Int32 => x9 = nI y1) (fun x9 => [.int x9]) 93 ls (fun x9 e9 => ?_) (fun hct18 => ?_)
          · cases (show x9 = nI y1 from e9)
            refine lv_istore hx hb dM_takeSizes_93 hl (by decide) rfl (fun ls hl => ?_)
            have hl : lv_has ls 10 [(8, .int (nI y1)), (7, .int (nI x1)), (0, .ref a), (1, .ref c2), (2, .int s9), (3, .int 1), (4, .int (nI nn)), (5, .int (nI o)), (6, .int (nI j))] := hl
            refine lv_iload_n hx hb dM_takeSizes_95 rfl (lv_at hl 5 rfl) ?_
            refine lv_if_eq (tgt := 107) hx hb dM_takeSizes_96 rfl (fun h19 => absurd h19 (by decide)) (fun _ => ?_)
            refine lv_iload hx hb dM_takeSizes_99 (lv_at hl 0 rfl) ?_
            refine lv_iload hx hb dM_takeSizes_101 (lv_at hl 1 rfl) ?_
            refine lv_isub hx hb dM_takeSizes_103 ?_
            refine lv_goto (tgt := 112) hx hb dM_takeSizes_104 rfl ?_
            refine lv_iload hx hb dM_takeSizes_112 (lv_at hl 7 rfl) ?_
            refine lv_isub hx hb dM_takeSizes_114 ?_
            obtain ⟨s1, hs1⟩ : ∃ q9 : Int32, q9 = nI y1 - nI x1 - nI o := ⟨_, rfl⟩
            refine lv_topi (fun y9 e9 => ?_)
            cases (show y9 = s1 from e9.trans hs1.symm)
            have hs1i : s1.toInt = (y1 : Int) - x1 - o := by rw [hs1]; exact sb_ti2 (by omega) (by omega) io
            refine lv_istore hx hb dM_takeSizes_115 hl (by decide) rfl (fun ls hl => ?_)
            have hl : lv_has ls 10 [(9, .int s1), (8, .int (nI y1)), (7, .int (nI x1)), (0, .ref a), (1, .ref c2), (2, .int s9), (3, .int 1), (4, .int (nI nn)), (5, .int (nI o)), (6, .int (nI j))] := hl
            refine lv_iload hx hb dM_takeSizes_117 (lv_at hl 0 rfl) ?_
            refine lv_if_ge (tgt := 126) hx hb dM_takeSizes_119 rfl (fun h20 => ?_) (fun h20 => ?_)
            · have hng : 0 ≤ (y1 : Int) - x1 - o := by have q := Int32.le_iff_toInt_le.mp h20; rw [hs1i] at q; exact q
              obtain ⟨e1, he1⟩ : ∃ q9 : Nat, q9 = y1 - x1 - o := ⟨_, rfl⟩
              have he1b : e1 < 268435456 := by omega
              refine lv_iconst (v := 0) hx hb dM_takeSizes_126 (by decide) ?_
              refine lv_istore hx hb dM_takeSizes_127 hl (by decide) rfl (fun ls hl => ?_)
              have hl : lv_has ls 10 [(5, .int 0), (9, .int s1), (8, .int (nI y1)), (7, .int (nI x1)), (0, .ref a), (1, .ref c2), (2, .int s9), (3, .int 1), (4, .int (nI nn)), (6, .int (nI j))] := hl
              refine lv_aload_n hx hb dM_takeSizes_129 rfl (lv_at hl 4 rfl) ?_
              refine lv_iload hx hb dM_takeSizes_130 (lv_at hl 9 rfl) ?_
              refine lv_iload hx hb dM_takeSizes_132 (lv_at hl 1 rfl) ?_
              refine lv_ldc (v := 268435455) hx hb hown (hT _ w1430) dM_takeSizes_134 ?_
              refine lv_iand hx hb dM_takeSizes_136 ?_
              refine lv_topi (fun y9 e9 => ?_)
              cases (show y9 = nI e1 from e9.trans (an_z hs1i hng (by omega) (by omega)))
              refine lq_iast (j := j) hx hb hK hP hD hS 0 0 rfl rfl rfl (by omega) (by omega) dM_takeSizes_137 (fun H locs hP hD hS => ?_)
              have hP : va_P D vwCl [(a, .inl (cT 0, 302, .inl (upd g j (nI e1)))), (c2, .inl (cT 0, 302, .inl f2))] _ := hP
              have hD : va_D A [(a, .inl (cT 0, 302, .inl (upd g j (nI e1)))), (c2, .inl (cT 0, 302, .inl f2))] := hD
              refine lv_iinc (k := 9) (v := nI (j + 1)) hx hb dM_takeSizes_138 hl rfl (nI_1 j) (by decide) rfl (fun ls hl => ?_)
              have hl : lv_has ls 10 [(6, .int (nI (j + 1))), (5, .int 0), (9, .int s1), (8, .int (nI y1)), (7, .int (nI x1)), (0, .ref a), (1, .ref c2), (2, .int s9), (3, .int 1), (4, .int (nI nn))] := hl
              refine lv_goto (tgt := 48) hx hb dM_takeSizes_141 rfl ?_
              exact ih48 (j + 1, 0, upd g j (nI e1)) (show (j + 1) ≤ nn ∧ 0 ≤ 1 ∧ dok 268435456 (upd g j (nI e1)) (j + 1) ∧ (∀ q, (j + 1) ≤ q → (upd g j (nI e1)) q = f q) ∧ hv 268435456 (dg (upd g j (nI e1))) 0 (j + 1) + hv 268435456 (ct K (dg f)) 0 (j + 1) = hv 268435456 (ct K2 (dg f2)) 0 (j + 1) + 268435456 ^ (j + 1) * 0 from ⟨by omega, by omega, dok_s idk he1b (by decide), fun q h => (pk_un (by omega)).trans (ig q (by omega)), by rw [hv_us (v := e1) (by omega), hv_snoc, hv_snoc, Nat.zero_add, Nat.pow_succ, ← hx1, ← hy1]; exact sub_s iv (by omega)⟩) (show nn - (j + 1) < nn - j from (by omega)) ls H locs (lv_sub hl [5, 6, 7, 8, 9, 1, 0] rfl) hP hD hS
            · have hng : (y1 : Int) - x1 - o < 0 := by have q := Int32.lt_iff_toInt_lt.mp (Int32.not_le.mp h20); rw [hs1i] at q; exact q
              obtain ⟨e1, he1⟩ : ∃ q9 : Nat, q9 = y1 + 268435456 - x1 - o := ⟨_, rfl⟩
              have he1b : e1 < 268435456 := by omega
              refine lv_iconst (v := 1) hx hb dM_takeSizes_122 (by decide) ?_
              refine lv_goto (tgt := 127) hx hb dM_takeSizes_123 rfl ?_
              refine lv_istore hx hb dM_takeSizes_127 hl (by decide) rfl (fun ls hl => ?_)
              have hl : lv_has ls 10 [(5, .int 1), (9, .int s1), (8, .int (nI y1)), (7, .int (nI x1)), (0, .ref a), (1, .ref c2), (2, .int s9), (3, .int 1), (4, .int (nI nn)), (6, .int (nI j))] := hl
              refine lv_aload_n hx hb dM_takeSizes_129 rfl (lv_at hl 4 rfl) ?_
              refine lv_iload hx hb dM_takeSizes_130 (lv_at hl 9 rfl) ?_
              refine lv_iload hx hb dM_takeSizes_132 (lv_at hl 1 rfl) ?_
              refine lv_ldc (v := 268435455) hx hb hown (hT _ w1430) dM_takeSizes_134 ?_
              refine lv_iand hx hb dM_takeSizes_136 ?_
              refine lv_topi (fun y9 e9 => ?_)
              cases (show y9 = nI e1 from e9.trans (an_m hs1i (by omega) hng (by omega)))
              refine lq_iast (j := j) hx hb hK hP hD hS 0 0 rfl rfl rfl (by omega) (by omega) dM_takeSizes_137 (fun H locs hP hD hS => ?_)
              have hP : va_P D vwCl [(a, .inl (cT 0, 302, .inl (upd g j (nI e1)))), (c2, .inl (cT 0, 302, .inl f2))] _ := hP
              have hD : va_D A [(a, .inl (cT 0, 302, .inl (upd g j (nI e1)))), (c2, .inl (cT 0, 302, .inl f2))] := hD
              refine lv_iinc (k := 9) (v := nI (j + 1)) hx hb dM_takeSizes_138 hl rfl (nI_1 j) (by decide) rfl (fun ls hl => ?_)
              have hl : lv_has ls 10 [(6, .int (nI (j + 1))), (5, .int 1), (9, .int s1), (8, .int (nI y1)), (7, .int (nI x1)), (0, .ref a), (1, .ref c2), (2, .int s9), (3, .int 1), (4, .int (nI nn))] := hl
              refine lv_goto (tgt := 48) hx hb dM_takeSizes_141 rfl ?_
              exact ih48 (j + 1, 1, upd g j (nI e1)) (show (j + 1) ≤ nn ∧ 1 ≤ 1 ∧ dok 268435456 (upd g j (nI e1)) (j + 1) ∧ (∀ q, (j + 1) ≤ q → (upd g j (nI e1)) q = f q) ∧ hv 268435456 (dg (upd g j (nI e1))) 0 (j + 1) + hv 268435456 (ct K (dg f)) 0 (j + 1) = hv 268435456 (ct K2 (dg f2)) 0 (j + 1) + 268435456 ^ (j + 1) * 1 from ⟨by omega, by omega, dok_s idk he1b (by decide), fun q h => (pk_un (by omega)).trans (ig q (by omega)), by rw [hv_us (v := e1) (by omega), hv_snoc, hv_snoc, Nat.zero_add, Nat.pow_succ, ← hx1, ← hy1]; exact sub_s iv (by omega)⟩) (show nn - (j + 1) < nn - j from (by omega)) ls H locs (lv_sub hl [5, 6, 7, 8, 9, 1, 0] rfl) hP hD hS
          · refine lv_iload hx hb dM_takeSizes_75 (lv_at hl 7 rfl) ?_
            refine lv_aload_n hx hb dM_takeSizes_77 rfl (lv_at hl 2 rfl) ?_
            refine lv_sipush (v := 300) hx hb dM_takeSizes_78 (by decide) ?_
            refine lq_iald (j := 300) hx hb hK hP 1 0 rfl rfl rfl (by decide) (by decide) dM_takeSizes_81 ?_
            refine lv_topi (fun y9 e9 => ?_)
            cases (show y9 = nI K2 from e9.trans qh300)
            refine lv_icmp_ge (tgt := 92) hx hb dM_takeSizes_82 rfl (fun h21 => ?_) (fun h21 => ?_)
            · have gh21 : K2 ≤ j := (nI_leI (a := K2) (b := j) (by omega) (by omega)).mp h21
              refine lv_iconst (v := 0) hx hb dM_takeSizes_92 (by decide) ?_
              exact hct18 _ (by rw [hy1, ct_ge (show K2 ≤ j by omega)]; rfl)
            · have gh21 : j < K2 := Nat.not_le.mp (fun q => h21 ((nI_leI (a := K2) (b := j) (by omega) (by omega)).mpr q))
              refine lv_aload_n hx hb dM_takeSizes_85 rfl (lv_at hl 2 rfl) ?_
              refine lv_iload hx hb dM_takeSizes_86 (lv_at hl 7 rfl) ?_
              refine lq_iald (j := j) hx hb hK hP 1 0 rfl rfl rfl (by omega) (by omega) dM_takeSizes_88 ?_
              refine lv_goto (tgt := 93) hx hb dM_takeSizes_89 rfl ?_
              exact hct18 _ (by rw [hy1, ct_lt (show j < K2 by omega)]; exact (qhd j (by omega)).1)
        · refine lv_iload hx hb dM_takeSizes_55 (lv_at hl 6 rfl) ?_
          refine lv_aload_n hx hb dM_takeSizes_57 rfl (lv_at hl 0 rfl) ?_
          refine lv_sipush (v := 300) hx hb dM_takeSizes_58 (by decide) ?_
          refine lq_iald (j := 300) hx hb hK hP 0 0 rfl rfl rfl (by decide) (by decide) dM_takeSizes_61 ?_
          refine lv_topi (fun y9 e9 => ?_)
          cases (show y9 = nI K from e9.trans ((ig 300 (by omega)).trans h300))
          refine lv_icmp_ge (tgt := 72) hx hb dM_takeSizes_62 rfl (fun h22 => ?_) (fun h22 => ?_)
          · have gh22 : K ≤ j := (nI_leI (a := K) (b := j) (by omega) (by omega)).mp h22
            refine lv_iconst (v := 0) hx hb dM_takeSizes_72 (by decide) ?_
            exact hct17 _ (by rw [hx1, ct_ge (show K ≤ j by omega)]; rfl)
          · have gh22 : j < K := Nat.not_le.mp (fun q => h22 ((nI_leI (a := K) (b := j) (by omega) (by omega)).mpr q))
            refine lv_aload_n hx hb dM_takeSizes_65 rfl (lv_at hl 0 rfl) ?_
            refine lv_iload hx hb dM_takeSizes_66 (lv_at hl 6 rfl) ?_
            refine lq_iald (j := j) hx hb hK hP 0 0 rfl rfl rfl (by omega) (by omega) dM_takeSizes_68 ?_
            refine lv_goto (tgt := 73) hx hb dM_takeSizes_69 rfl ?_
            exact hct17 _ (by rw [ig j (Nat.le_refl _), hx1, ct_lt (show j < K by omega)]; exact (hd j (by omega)).1)
    · refine lv_aload_n hx hb dM_takeSizes_14 rfl (lv_at hl 1 rfl) ?_
      refine lv_sipush (v := 300) hx hb dM_takeSizes_15 (by decide) ?_
      refine lq_iald (j := 300) hx hb hK hP 0 0 rfl rfl rfl (by decide) (by decide) dM_takeSizes_18 ?_
      refine lv_topi (fun y9 e9 => ?_)
      cases (show y9 = nI K from e9.trans h300)
      refine lv_aload_n hx hb dM_takeSizes_19 rfl (lv_at hl 2 rfl) ?_
      refine lv_sipush (v := 300) hx hb dM_takeSizes_20 (by decide) ?_
      refine lq_iald (j := 300) hx hb hK hP 1 0 rfl rfl rfl (by decide) (by decide) dM_takeSizes_23 ?_
      refine lv_topi (fun y9 e9 => ?_)
      cases (show y9 = nI K2 from e9.trans qh300)
      refine lv_icmp_le (tgt := 35) hx hb dM_takeSizes_24 rfl (fun h23 => ?_) (fun h23 => ?_)
      · have gh23 : K ≤ K2 := (nI_leI (a := K) (b := K2) (by omega) (by omega)).mp h23
        refine lv_aload_n hx hb dM_takeSizes_35 rfl (lv_at hl 2 rfl) ?_
        refine lv_sipush (v := 300) hx hb dM_takeSizes_36 (by decide) ?_
        refine lq_iald (j := 300) hx hb hK hP 1 0 rfl rfl rfl (by decide) (by decide) dM_takeSizes_39 ?_
        exact hct13 _ (by rw [qh300, hnn, Nat.max_eq_right (by omega)])
      · have gh23 : K2 < K := Nat.not_le.mp (fun q => h23 ((nI_leI (a := K) (b := K2) (by omega) (by omega)).mpr q))
        refine lv_aload_n hx hb dM_takeSizes_27 rfl (lv_at hl 1 rfl) ?_
        refine lv_sipush (v := 300) hx hb dM_takeSizes_28 (by decide) ?_
        refine lq_iald (j := 300) hx hb hK hP 0 0 rfl rfl rfl (by decide) (by decide) dM_takeSizes_31 ?_
        refine lv_topi (fun y9 e9 => ?_)
        cases (show y9 = nI K from e9.trans h300)
        refine lv_goto (tgt := 40) hx hb dM_takeSizes_32 rfl ?_
        exact hct13 _ (by rw [hnn, Nat.max_eq_left (by omega)])
set_option maxHeartbeats 4000000 in
set_option maxRecDepth 100000 in
theorem m_add0 (l : Launch) (D : va_G) (cT : Nat → ClassId) (a : Nat) (f : Nat → Int32) (z : Int) (c2 : Nat) (f2 : Nat → Int32) (z2 : Int) (hN : MN f z) (hN2 : MN f2 z2) (hfit : z.natAbs + z2.natAbs < 268435456 ^ 250) (sz : Nat) : Met l yM_add WM_add ({ frames := 2, cells := 0, slots := 0, locals := 51 } : Room) (RW D vwCl [.ref a, .ref c2, .int 1] [(a, .inl (cT 0, 302, .inl f)), (c2, .inl (cT 0, 302, .inl f2))] (TY cT) sz) (va_Qv (fun u9 : (Nat → Int32) => MN u9 (z + z2)) (BW D vwCl (va_A [(a, .inl (cT 0, 302, .inl f)), (c2, .inl (cT 0, 302, .inl f2))] sz) (fun u9 : (Nat → Int32) => [(a, .inl (cT 0, 302, .inl u9)), (c2, .inl (cT 0, 302, .inl f2))])) (va_A [(a, .inl (cT 0, 302, .inl f)), (c2, .inl (cT 0, 302, .inl f2))] sz)) 0 0 (va_A [(a, .inl (cT 0, 302, .inl f)), (c2, .inl (cT 0, 302, .inl f2))] sz) := by
  refine Met.ofW (cc := cM_add) (maxL := 4) (ret := none) (by decide) rfl ?_
  intro p e s m args below meth c s₁ B hml hv
  obtain ⟨rfl, hsz, hZ, hP, hK, hD0⟩ := hv
  have hx := B.exec
  have hb := B.bytes
  have hr := B.returns
  have hts := atoms_spec (ws := WM_add) B.pre
  have hT : ∀ w ∈ TB, w.before _ s = true := fun w h => hts w (List.mem_cons_of_mem _ h)
  have hown : s.vm.findClass R_M = some m.cls := findClass_of_methodNamed B.named
  have hlocks := B.notSynchronized
  subst hsz
  have hD := hD0.self (sz := s.heap.size)
  generalize hAe : va_A [(a, .inl (cT 0, 302, .inl f)), (c2, .inl (cT 0, 302, .inl f2))] s.heap.size = A at hD hZ ⊢
  have hA : ∀ q : Nat, s.heap.size ≤ q → A q := fun q h => by rw [← hAe]; exact Or.inr h
  have hS : va_S A s.heap s.heap [] := va_S.rf
  have hl := lv_entry ([.ref a, .ref c2, .int 1]) (n := 4) (Nat.le_of_ble_eq_true rfl)
  rw [lg_entry_eq]
  generalize (lg_sl ([.ref a, .ref c2, .int 1]) ++ List.replicate (4 - (lg_sl ([.ref a, .ref c2, .int 1])).length) Slot.unset).toArray = ls at hl ⊢
  have hl : lv_has ls 4 [(0, .ref a), (1, .ref c2), (2, .int 1)] := hl
  have hN0 := hN
  have hN20 := hN2
  obtain ⟨K, h300, hk, hd, htop, hs, hva⟩ := hN
  obtain ⟨K2, qh300, qhk, qhd, qhtop, qhs, qhva⟩ := hN2
  refine lv_iload_n hx hb dM_add_0 rfl (lv_at hl 2 rfl) ?_
  refine lv_aload_n hx hb dM_add_1 rfl (lv_at hl 1 rfl) ?_
  refine lv_sipush (v := 301) hx hb dM_add_2 (by decide) ?_
  refine lq_iald (j := 301) hx hb hK hP 1 0 rfl rfl rfl (by decide) (by decide) dM_add_5 ?_
  refine lv_topi (fun y9 e9 => ?_)
  cases (show y9 = sg z2 from e9.trans qhs)
  refine lv_imul hx hb dM_add_6 ?_
  refine lv_topi (fun y9 e9 => ?_)
  cases (show y9 = sg z2 from e9.trans sg_one)
  refine lv_istore_n hx hb dM_add_7 rfl hl (by decide) rfl (fun ls hl => ?_)
  have hl : lv_has ls 4 [(3, .int (sg z2)), (0, .ref a), (1, .ref c2), (2, .int 1)] := hl
  refine lv_iload_n hx hb dM_add_8 rfl (lv_at hl 0 rfl) ?_
  refine lv_if_ne (tgt := 13) hx hb dM_add_9 rfl (fun h1 => ?_) (fun h1 => ?_)
  · refine lv_aload_n hx hb dM_add_13 rfl (lv_at hl 1 rfl) ?_
    refine lv_sipush (v := 301) hx hb dM_add_14 (by decide) ?_
    refine lq_iald (j := 301) hx hb hK hP 0 0 rfl rfl rfl (by decide) (by decide) dM_add_17 ?_
    refine lv_topi (fun y9 e9 => ?_)
    cases (show y9 = sg z from e9.trans hs)
    refine lv_if_ne (tgt := 35) hx hb dM_add_18 rfl (fun h2 => ?_) (fun h2 => ?_)
    · refine lv_aload_n hx hb dM_add_35 rfl (lv_at hl 1 rfl) ?_
      refine lv_sipush (v := 301) hx hb dM_add_36 (by decide) ?_
      refine lq_iald (j := 301) hx hb hK hP 0 0 rfl rfl rfl (by decide) (by decide) dM_add_39 ?_
      refine lv_topi (fun y9 e9 => ?_)
      cases (show y9 = sg z from e9.trans hs)
      refine lv_iload_n hx hb dM_add_40 rfl (lv_at hl 0 rfl) ?_
      refine lv_icmp_ne (tgt := 52) hx hb dM_add_41 rfl (fun h3 => ?_) (fun h3 => ?_)
      · refine lv_aload_n hx hb dM_add_52 rfl (lv_at hl 1 rfl) ?_
        refine lv_aload_n hx hb dM_add_53 rfl (lv_at hl 2 rfl) ?_
        refine lv_iload_n hx hb dM_add_54 rfl (lv_at hl 0 rfl) ?_
        refine rw_v (wc := [(a, .inl (cT 0, 302, .inl f)), (c2, .inl (cT 0, 302, .inl f2))]) (wr := []) hP hD hS hA [0, 1] [] rfl rfl (by decide) (by decide) (va_runS (As := [.ref a, .ref c2, .int (sg z2)]) (rest := []) ⟨hx, hb, hml, hown, hT⟩ (m_takeS l D cT a f z c2 f2 z2 (z + z2) (sg z2) hN0 hN20 (by have q := (sg_diff h2 h1 h3).1; omega) (fun r => by have q := (sg_diff h2 h1 h3).2.1 (by omega); rw [q]) (fun r => by have q := (sg_diff h2 h1 h3).2.2 (by omega); rw [q]) _) ⟨callB_of 3 hT (tb_gd w1433) rfl rfl rfl (hT _ w13) (hT _ w1431) hM_takeSizes ⟨Nat.le_of_ble_eq_true rfl, Nat.le_of_ble_eq_true rfl⟩, (hT _ w1432)⟩ (RW.preS hZ hS (va_free (wc := [(a, .inl (cT 0, 302, .inl f)), (c2, .inl (cT 0, 302, .inl f2))]) hD hS hA [0, 1] rfl) (hP.sub (ws' := [(a, .inl (cT 0, 302, .inl f)), (c2, .inl (cT 0, 302, .inl f2))]) [0, 1] rfl) hK (hD.sub (ws' := [(a, .inl (cT 0, 302, .inl f)), (c2, .inl (cT 0, 302, .inl f2))]) [0, 1] (by decide) rfl)) rfl rfl hl.1 rfl (lv_room (Nat.le_of_ble_eq_true rfl)) dM_add_55 ⟨Nat.le_of_ble_eq_true rfl, Nat.le_of_ble_eq_true rfl⟩) (fun u9 H locs hpu4 hP hD hS => ?_)
        obtain ⟨f1u4, rfl⟩ : ∃ q9, q9 = u9 := ⟨_, rfl⟩
        have hpu4 : MN f1u4 (z + z2) := hpu4
        have hP : va_P D vwCl [(a, .inl (cT 0, 302, .inl f1u4)), (c2, .inl (cT 0, 302, .inl f2))] _ := hP
        have hD : va_D A [(a, .inl (cT 0, 302, .inl f1u4)), (c2, .inl (cT 0, 302, .inl f2))] := hD
        have hP9 := hP.sub (ws' := [(a, .inl (cT 0, 302, .inl f1u4)), (c2, .inl (cT 0, 302, .inl f2))]) [0, 1] rfl
        have hD9 := hD.sub (ws' := [(a, .inl (cT 0, 302, .inl f1u4)), (c2, .inl (cT 0, 302, .inl f2))]) [0, 1] (by decide) rfl
        refine W.widen (k := 0) (n := 0) (Nat.le_of_ble_eq_true rfl) (Nat.le_of_ble_eq_true rfl) ?_
        exact W.vret hx hb hr (fun t9 ht9 hW9 => ⟨⟨f1u4, rfl, (show MN f1u4 (z + z2) from hpu4), by rw [ht9]; exact hP9, hD9⟩, hS.F ht9⟩) hS.2.2 dM_add_58
      · refine lv_aload_n hx hb dM_add_44 rfl (lv_at hl 1 rfl) ?_
        refine lv_aload_n hx hb dM_add_45 rfl (lv_at hl 2 rfl) ?_
        refine rw_v (wc := [(a, .inl (cT 0, 302, .inl f)), (c2, .inl (cT 0, 302, .inl f2))]) (wr := []) hP hD hS hA [0, 1] [] rfl rfl (by decide) (by decide) (va_runS (As := [.ref a, .ref c2]) (rest := []) ⟨hx, hb, hml, hown, hT⟩ (m_addS l D cT a f z c2 f2 z2 (z + z2) hN0 hN20 (by have q := (sg_same h1 h3).1; omega) (by have q := (sg_same h1 h3).2; rw [q]) hfit _) ⟨callB_of 2 hT (tb_gd w1429) rfl rfl rfl (hT _ w13) (hT _ w1427) hM_addSizes ⟨Nat.le_of_ble_eq_true rfl, Nat.le_of_ble_eq_true rfl⟩, (hT _ w1428)⟩ (RW.preS hZ hS (va_free (wc := [(a, .inl (cT 0, 302, .inl f)), (c2, .inl (cT 0, 302, .inl f2))]) hD hS hA [0, 1] rfl) (hP.sub (ws' := [(a, .inl (cT 0, 302, .inl f)), (c2, .inl (cT 0, 302, .inl f2))]) [0, 1] rfl) hK (hD.sub (ws' := [(a, .inl (cT 0, 302, .inl f)), (c2, .inl (cT 0, 302, .inl f2))]) [0, 1] (by decide) rfl)) rfl rfl hl.1 rfl (lv_room (Nat.le_of_ble_eq_true rfl)) dM_add_46 ⟨Nat.le_of_ble_eq_true rfl, Nat.le_of_ble_eq_true rfl⟩) (fun u9 H locs hpu5 hP hD hS => ?_)
        obtain ⟨f1u5, rfl⟩ : ∃ q9, q9 = u9 := ⟨_, rfl⟩
        have hpu5 : MN f1u5 (z + z2) := hpu5
        have hP : va_P D vwCl [(a, .inl (cT 0, 302, .inl f1u5)), (c2, .inl (cT 0, 302, .inl f2))] _ := hP
        have hD : va_D A [(a, .inl (cT 0, 302, .inl f1u5)), (c2, .inl (cT 0, 302, .inl f2))] := hD
        refine lv_goto (tgt := 58) hx hb dM_add_49 rfl ?_
        have hP9 := hP.sub (ws' := [(a, .inl (cT 0, 302, .inl f1u5)), (c2, .inl (cT 0, 302, .inl f2))]) [0, 1] rfl
        have hD9 := hD.sub (ws' := [(a, .inl (cT 0, 302, .inl f1u5)), (c2, .inl (cT 0, 302, .inl f2))]) [0, 1] (by decide) rfl
        refine W.widen (k := 0) (n := 0) (Nat.le_of_ble_eq_true rfl) (Nat.le_of_ble_eq_true rfl) ?_
        exact W.vret hx hb hr (fun t9 ht9 hW9 => ⟨⟨f1u5, rfl, (show MN f1u5 (z + z2) from hpu5), by rw [ht9]; exact hP9, hD9⟩, hS.F ht9⟩) hS.2.2 dM_add_58
    · refine lv_aload_n hx hb dM_add_21 rfl (lv_at hl 2 rfl) ?_
      refine lv_aload_n hx hb dM_add_22 rfl (lv_at hl 1 rfl) ?_
      refine rw_v (wc := [(c2, .inl (cT 0, 302, .inl f2)), (a, .inl (cT 0, 302, .inl f))]) (wr := []) hP hD hS hA [1, 0] [] rfl rfl (by decide) (by decide) (va_runS (As := [.ref c2, .ref a]) (rest := []) ⟨hx, hb, hml, hown, hT⟩ (m_copy l D cT c2 f2 z2 a f hN20 _) ⟨callB_of 2 hT (tb_gd w1426) rfl rfl rfl (hT _ w13) (hT _ w1424) hM_copy ⟨Nat.le_of_ble_eq_true rfl, Nat.le_of_ble_eq_true rfl⟩, (hT _ w1425)⟩ (RW.preS hZ hS (va_free (wc := [(c2, .inl (cT 0, 302, .inl f2)), (a, .inl (cT 0, 302, .inl f))]) hD hS hA [1, 0] rfl) (hP.sub (ws' := [(c2, .inl (cT 0, 302, .inl f2)), (a, .inl (cT 0, 302, .inl f))]) [1, 0] rfl) hK (hD.sub (ws' := [(c2, .inl (cT 0, 302, .inl f2)), (a, .inl (cT 0, 302, .inl f))]) [1, 0] (by decide) rfl)) rfl rfl hl.1 rfl (lv_room (Nat.le_of_ble_eq_true rfl)) dM_add_23 ⟨Nat.le_of_ble_eq_true rfl, Nat.le_of_ble_eq_true rfl⟩) (fun u9 H locs hpu6 hP hD hS => ?_)
      obtain ⟨f1u6, rfl⟩ : ∃ q9, q9 = u9 := ⟨_, rfl⟩
      have hpu6 : MN f1u6 z2 := hpu6
      have hP : va_P D vwCl [(c2, .inl (cT 0, 302, .inl f2)), (a, .inl (cT 0, 302, .inl f1u6))] _ := hP
      have hD : va_D A [(c2, .inl (cT 0, 302, .inl f2)), (a, .inl (cT 0, 302, .inl f1u6))] := hD
      refine lv_aload_n hx hb dM_add_26 rfl (lv_at hl 1 rfl) ?_
      refine lv_sipush (v := 301) hx hb dM_add_27 (by decide) ?_
      refine lv_iload_n hx hb dM_add_30 rfl (lv_at hl 0 rfl) ?_
      refine lq_iast (j := 301) hx hb hK hP hD hS 1 0 rfl rfl rfl (by decide) (by decide) dM_add_31 (fun H locs hP hD hS => ?_)
      have hP : va_P D vwCl [(c2, .inl (cT 0, 302, .inl f2)), (a, .inl (cT 0, 302, .inl (upd f1u6 301 (sg z2))))] _ := hP
      have hD : va_D A [(c2, .inl (cT 0, 302, .inl f2)), (a, .inl (cT 0, 302, .inl (upd f1u6 301 (sg z2))))] := hD
      refine lv_goto (tgt := 58) hx hb dM_add_32 rfl ?_
      have hP9 := hP.sub (ws' := [(a, .inl (cT 0, 302, .inl (upd f1u6 301 (sg z2)))), (c2, .inl (cT 0, 302, .inl f2))]) [1, 0] rfl
      have hD9 := hD.sub (ws' := [(a, .inl (cT 0, 302, .inl (upd f1u6 301 (sg z2)))), (c2, .inl (cT 0, 302, .inl f2))]) [1, 0] (by decide) rfl
      refine W.widen (k := 0) (n := 0) (Nat.le_of_ble_eq_true rfl) (Nat.le_of_ble_eq_true rfl) ?_
      exact W.vret hx hb hr (fun t9 ht9 hW9 => ⟨⟨(upd f1u6 301 (sg z2)), rfl, (show MN (upd f1u6 301 (sg z2)) (z + z2) from by obtain ⟨K3, g1, g2, g3, g4, g5, g6⟩ := hpu6; have ez := sg_z h2; exact mn_mk g2 g3 g4 (by rw [← g6]; omega) (fun q hq => pk_un (by omega)) ((pk_un (by decide)).trans g1) (pk_us.trans (congrArg sg (show z2 = z + z2 by omega)))), by rw [ht9]; exact hP9, hD9⟩, hS.F ht9⟩) hS.2.2 dM_add_58
  · have hP9 := hP.sub (ws' := [(a, .inl (cT 0, 302, .inl f)), (c2, .inl (cT 0, 302, .inl f2))]) [0, 1] rfl
    have hD9 := hD.sub (ws' := [(a, .inl (cT 0, 302, .inl f)), (c2, .inl (cT 0, 302, .inl f2))]) [0, 1] (by decide) rfl
    refine W.widen (k := 0) (n := 0) (Nat.le_of_ble_eq_true rfl) (Nat.le_of_ble_eq_true rfl) ?_
    exact W.vret hx hb hr (fun t9 ht9 hW9 => ⟨⟨f, rfl, (show MN f (z + z2) from by rw [show z + z2 = z by have := sg_z h1; omega]; exact hN0), by rw [ht9]; exact hP9, hD9⟩, hS.F ht9⟩) hS.2.2 dM_add_12
set_option maxHeartbeats 4000000 in
set_option maxRecDepth 100000 in
theorem m_add1 (l : Launch) (D : va_G) (cT : Nat → ClassId) (a : Nat) (f : Nat → Int32) (z : Int) (c2 : Nat) (f2 : Nat → Int32) (z2 : Int) (hN : MN f z) (hN2 : MN f2 z2) (hfit : z.natAbs + z2.natAbs < 268435456 ^ 250) (sz : Nat) : Met l yM_add WM_add ({ frames := 2, cells := 0, slots := 0, locals := 51 } : Room) (RW D vwCl [.ref a, .ref c2, .int (-1)] [(a, .inl (cT 0, 302, .inl f)), (c2, .inl (cT 0, 302, .inl f2))] (TY cT) sz) (va_Qv (fun u9 : (Nat → Int32) => MN u9 (z - z2)) (BW D vwCl (va_A [(a, .inl (cT 0, 302, .inl f)), (c2, .inl (cT 0, 302, .inl f2))] sz) (fun u9 : (Nat → Int32) => [(a, .inl (cT 0, 302, .inl u9)), (c2, .inl (cT 0, 302, .inl f2))])) (va_A [(a, .inl (cT 0, 302, .inl f)), (c2, .inl (cT 0, 302, .inl f2))] sz)) 0 0 (va_A [(a, .inl (cT 0, 302, .inl f)), (c2, .inl (cT 0, 302, .inl f2))] sz) := by
  refine Met.ofW (cc := cM_add) (maxL := 4) (ret := none) (by decide) rfl ?_
  intro p e s m args below meth c s₁ B hml hv
  obtain ⟨rfl, hsz, hZ, hP, hK, hD0⟩ := hv
  have hx := B.exec
  have hb := B.bytes
  have hr := B.returns
  have hts := atoms_spec (ws := WM_add) B.pre
  have hT : ∀ w ∈ TB, w.before _ s = true := fun w h => hts w (List.mem_cons_of_mem _ h)
  have hown : s.vm.findClass R_M = some m.cls := findClass_of_methodNamed B.named
  have hlocks := B.notSynchronized
  subst hsz
  have hD := hD0.self (sz := s.heap.size)
  generalize hAe : va_A [(a, .inl (cT 0, 302, .inl f)), (c2, .inl (cT 0, 302, .inl f2))] s.heap.size = A at hD hZ ⊢
  have hA : ∀ q : Nat, s.heap.size ≤ q → A q := fun q h => by rw [← hAe]; exact Or.inr h
  have hS : va_S A s.heap s.heap [] := va_S.rf
  have hl := lv_entry ([.ref a, .ref c2, .int (-1)]) (n := 4) (Nat.le_of_ble_eq_true rfl)
  rw [lg_entry_eq]
  generalize (lg_sl ([.ref a, .ref c2, .int (-1)]) ++ List.replicate (4 - (lg_sl ([.ref a, .ref c2, .int (-1)])).length) Slot.unset).toArray = ls at hl ⊢
  have hl : lv_has ls 4 [(0, .ref a), (1, .ref c2), (2, .int (-1))] := hl
  have hN0 := hN
  have hN20 := hN2
  obtain ⟨K, h300, hk, hd, htop, hs, hva⟩ := hN
  obtain ⟨K2, qh300, qhk, qhd, qhtop, qhs, qhva⟩ := hN2
  refine lv_iload_n hx hb dM_add_0 rfl (lv_at hl 2 rfl) ?_
  refine lv_aload_n hx hb dM_add_1 rfl (lv_at hl 1 rfl) ?_
  refine lv_sipush (v := 301) hx hb dM_add_2 (by decide) ?_
  refine lq_iald (j := 301) hx hb hK hP 1 0 rfl rfl rfl (by decide) (by decide) dM_add_5 ?_
  refine lv_topi (fun y9 e9 => ?_)
  cases (show y9 = sg z2 from e9.trans qhs)
  refine lv_imul hx hb dM_add_6 ?_
  refine lv_topi (fun y9 e9 => ?_)
  cases (show y9 = sg (-z2) from e9.trans sg_neg)
  refine lv_istore_n hx hb dM_add_7 rfl hl (by decide) rfl (fun ls hl => ?_)
  have hl : lv_has ls 4 [(3, .int (sg (-z2))), (0, .ref a), (1, .ref c2), (2, .int (-1))] := hl
  refine lv_iload_n hx hb dM_add_8 rfl (lv_at hl 0 rfl) ?_
  refine lv_if_ne (tgt := 13) hx hb dM_add_9 rfl (fun h1 => ?_) (fun h1 => ?_)
  · refine lv_aload_n hx hb dM_add_13 rfl (lv_at hl 1 rfl) ?_
    refine lv_sipush (v := 301) hx hb dM_add_14 (by decide) ?_
    refine lq_iald (j := 301) hx hb hK hP 0 0 rfl rfl rfl (by decide) (by decide) dM_add_17 ?_
    refine lv_topi (fun y9 e9 => ?_)
    cases (show y9 = sg z from e9.trans hs)
    refine lv_if_ne (tgt := 35) hx hb dM_add_18 rfl (fun h2 => ?_) (fun h2 => ?_)
    · refine lv_aload_n hx hb dM_add_35 rfl (lv_at hl 1 rfl) ?_
      refine lv_sipush (v := 301) hx hb dM_add_36 (by decide) ?_
      refine lq_iald (j := 301) hx hb hK hP 0 0 rfl rfl rfl (by decide) (by decide) dM_add_39 ?_
      refine lv_topi (fun y9 e9 => ?_)
      cases (show y9 = sg z from e9.trans hs)
      refine lv_iload_n hx hb dM_add_40 rfl (lv_at hl 0 rfl) ?_
      refine lv_icmp_ne (tgt := 52) hx hb dM_add_41 rfl (fun h3 => ?_) (fun h3 => ?_)
      · refine lv_aload_n hx hb dM_add_52 rfl (lv_at hl 1 rfl) ?_
        refine lv_aload_n hx hb dM_add_53 rfl (lv_at hl 2 rfl) ?_
        refine lv_iload_n hx hb dM_add_54 rfl (lv_at hl 0 rfl) ?_
        refine rw_v (wc := [(a, .inl (cT 0, 302, .inl f)), (c2, .inl (cT 0, 302, .inl f2))]) (wr := []) hP hD hS hA [0, 1] [] rfl rfl (by decide) (by decide) (va_runS (As := [.ref a, .ref c2, .int (sg (-z2))]) (rest := []) ⟨hx, hb, hml, hown, hT⟩ (m_takeS l D cT a f z c2 f2 z2 (z - z2) (sg (-z2)) hN0 hN20 (by have q := (sg_diff h2 h1 h3).1; omega) (fun r => by have q := (sg_diff h2 h1 h3).2.1 (by omega); rw [Int.sub_eq_add_neg, q]) (fun r => by have q := (sg_diff h2 h1 h3).2.2 (by omega); rw [Int.sub_eq_add_neg, q]) _) ⟨callB_of 3 hT (tb_gd w1433) rfl rfl rfl (hT _ w13) (hT _ w1431) hM_takeSizes ⟨Nat.le_of_ble_eq_true rfl, Nat.le_of_ble_eq_true rfl⟩, (hT _ w1432)⟩ (RW.preS hZ hS (va_free (wc := [(a, .inl (cT 0, 302, .inl f)), (c2, .inl (cT 0, 302, .inl f2))]) hD hS hA [0, 1] rfl) (hP.sub (ws' := [(a, .inl (cT 0, 302, .inl f)), (c2, .inl (cT 0, 302, .inl f2))]) [0, 1] rfl) hK (hD.sub (ws' := [(a, .inl (cT 0, 302, .inl f)), (c2, .inl (cT 0, 302, .inl f2))]) [0, 1] (by decide) rfl)) rfl rfl hl.1 rfl (lv_room (Nat.le_of_ble_eq_true rfl)) dM_add_55 ⟨Nat.le_of_ble_eq_true rfl, Nat.le_of_ble_eq_true rfl⟩) (fun u9 H locs hpu4 hP hD hS => ?_)
        obtain ⟨f1u4, rfl⟩ : ∃ q9, q9 = u9 := ⟨_, rfl⟩
        have hpu4 : MN f1u4 (z - z2) := hpu4
        have hP : va_P D vwCl [(a, .inl (cT 0, 302, .inl f1u4)), (c2, .inl (cT 0, 302, .inl f2))] _ := hP
        have hD : va_D A [(a, .inl (cT 0, 302, .inl f1u4)), (c2, .inl (cT 0, 302, .inl f2))] := hD
        have hP9 := hP.sub (ws' := [(a, .inl (cT 0, 302, .inl f1u4)), (c2, .inl (cT 0, 302, .inl f2))]) [0, 1] rfl
        have hD9 := hD.sub (ws' := [(a, .inl (cT 0, 302, .inl f1u4)), (c2, .inl (cT 0, 302, .inl f2))]) [0, 1] (by decide) rfl
        refine W.widen (k := 0) (n := 0) (Nat.le_of_ble_eq_true rfl) (Nat.le_of_ble_eq_true rfl) ?_
        exact W.vret hx hb hr (fun t9 ht9 hW9 => ⟨⟨f1u4, rfl, (show MN f1u4 (z - z2) from hpu4), by rw [ht9]; exact hP9, hD9⟩, hS.F ht9⟩) hS.2.2 dM_add_58
      · refine lv_aload_n hx hb dM_add_44 rfl (lv_at hl 1 rfl) ?_
        refine lv_aload_n hx hb dM_add_45 rfl (lv_at hl 2 rfl) ?_
        refine rw_v (wc := [(a, .inl (cT 0, 302, .inl f)), (c2, .inl (cT 0, 302, .inl f2))]) (wr := []) hP hD hS hA [0, 1] [] rfl rfl (by decide) (by decide) (va_runS (As := [.ref a, .ref c2]) (rest := []) ⟨hx, hb, hml, hown, hT⟩ (m_addS l D cT a f z c2 f2 z2 (z - z2) hN0 hN20 (by have q := (sg_same h1 h3).1; omega) (by have q := (sg_same h1 h3).2; rw [Int.sub_eq_add_neg, q]) hfit _) ⟨callB_of 2 hT (tb_gd w1429) rfl rfl rfl (hT _ w13) (hT _ w1427) hM_addSizes ⟨Nat.le_of_ble_eq_true rfl, Nat.le_of_ble_eq_true rfl⟩, (hT _ w1428)⟩ (RW.preS hZ hS (va_free (wc := [(a, .inl (cT 0, 302, .inl f)), (c2, .inl (cT 0, 302, .inl f2))]) hD hS hA [0, 1] rfl) (hP.sub (ws' := [(a, .inl (cT 0, 302, .inl f)), (c2, .inl (cT 0, 302, .inl f2))]) [0, 1] rfl) hK (hD.sub (ws' := [(a, .inl (cT 0, 302, .inl f)), (c2, .inl (cT 0, 302, .inl f2))]) [0, 1] (by decide) rfl)) rfl rfl hl.1 rfl (lv_room (Nat.le_of_ble_eq_true rfl)) dM_add_46 ⟨Nat.le_of_ble_eq_true rfl, Nat.le_of_ble_eq_true rfl⟩) (fun u9 H locs hpu5 hP hD hS => ?_)
        obtain ⟨f1u5, rfl⟩ : ∃ q9, q9 = u9 := ⟨_, rfl⟩
        have hpu5 : MN f1u5 (z - z2) := hpu5
        have hP : va_P D vwCl [(a, .inl (cT 0, 302, .inl f1u5)), (c2, .inl (cT 0, 302, .inl f2))] _ := hP
        have hD : va_D A [(a, .inl (cT 0, 302, .inl f1u5)), (c2, .inl (cT 0, 302, .inl f2))] := hD
        refine lv_goto (tgt := 58) hx hb dM_add_49 rfl ?_
        have hP9 := hP.sub (ws' := [(a, .inl (cT 0, 302, .inl f1u5)), (c2, .inl (cT 0, 302, .inl f2))]) [0, 1] rfl
        have hD9 := hD.sub (ws' := [(a, .inl (cT 0, 302, .inl f1u5)), (c2, .inl (cT 0, 302, .inl f2))]) [0, 1] (by decide) rfl
        refine W.widen (k := 0) (n := 0) (Nat.le_of_ble_eq_true rfl) (Nat.le_of_ble_eq_true rfl) ?_
        exact W.vret hx hb hr (fun t9 ht9 hW9 => ⟨⟨f1u5, rfl, (show MN f1u5 (z - z2) from hpu5), by rw [ht9]; exact hP9, hD9⟩, hS.F ht9⟩) hS.2.2 dM_add_58
    · refine lv_aload_n hx hb dM_add_21 rfl (lv_at hl 2 rfl) ?_
      refine lv_aload_n hx hb dM_add_22 rfl (lv_at hl 1 rfl) ?_
      refine rw_v (wc := [(c2, .inl (cT 0, 302, .inl f2)), (a, .inl (cT 0, 302, .inl f))]) (wr := []) hP hD hS hA [1, 0] [] rfl rfl (by decide) (by decide) (va_runS (As := [.ref c2, .ref a]) (rest := []) ⟨hx, hb, hml, hown, hT⟩ (m_copy l D cT c2 f2 z2 a f hN20 _) ⟨callB_of 2 hT (tb_gd w1426) rfl rfl rfl (hT _ w13) (hT _ w1424) hM_copy ⟨Nat.le_of_ble_eq_true rfl, Nat.le_of_ble_eq_true rfl⟩, (hT _ w1425)⟩ (RW.preS hZ hS (va_free (wc := [(c2, .inl (cT 0, 302, .inl f2)), (a, .inl (cT 0, 302, .inl f))]) hD hS hA [1, 0] rfl) (hP.sub (ws' := [(c2, .inl (cT 0, 302, .inl f2)), (a, .inl (cT 0, 302, .inl f))]) [1, 0] rfl) hK (hD.sub (ws' := [(c2, .inl (cT 0, 302, .inl f2)), (a, .inl (cT 0, 302, .inl f))]) [1, 0] (by decide) rfl)) rfl rfl hl.1 rfl (lv_room (Nat.le_of_ble_eq_true rfl)) dM_add_23 ⟨Nat.le_of_ble_eq_true rfl, Nat.le_of_ble_eq_true rfl⟩) (fun u9 H locs hpu6 hP hD hS => ?_)
      obtain ⟨f1u6, rfl⟩ : ∃ q9, q9 = u9 := ⟨_, rfl⟩
      have hpu6 : MN f1u6 z2 := hpu6
      have hP : va_P D vwCl [(c2, .inl (cT 0, 302, .inl f2)), (a, .inl (cT 0, 302, .inl f1u6))] _ := hP
      have hD : va_D A [(c2, .inl (cT 0, 302, .inl f2)), (a, .inl (cT 0, 302, .inl f1u6))] := hD
      refine lv_aload_n hx hb dM_add_26 rfl (lv_at hl 1 rfl) ?_
      refine lv_sipush (v := 301) hx hb dM_add_27 (by decide) ?_
      refine lv_iload_n hx hb dM_add_30 rfl (lv_at hl 0 rfl) ?_
      refine lq_iast (j := 301) hx hb hK hP hD hS 1 0 rfl rfl rfl (by decide) (by decide) dM_add_31 (fun H locs hP hD hS => ?_)
      have hP : va_P D vwCl [(c2, .inl (cT 0, 302, .inl f2)), (a, .inl (cT 0, 302, .inl (upd f1u6 301 (sg (-z2)))))] _ := hP
      have hD : va_D A [(c2, .inl (cT 0, 302, .inl f2)), (a, .inl (cT 0, 302, .inl (upd f1u6 301 (sg (-z2)))))] := hD
      refine lv_goto (tgt := 58) hx hb dM_add_32 rfl ?_
      have hP9 := hP.sub (ws' := [(a, .inl (cT 0, 302, .inl (upd f1u6 301 (sg (-z2))))), (c2, .inl (cT 0, 302, .inl f2))]) [1, 0] rfl
      have hD9 := hD.sub (ws' := [(a, .inl (cT 0, 302, .inl (upd f1u6 301 (sg (-z2))))), (c2, .inl (cT 0, 302, .inl f2))]) [1, 0] (by decide) rfl
      refine W.widen (k := 0) (n := 0) (Nat.le_of_ble_eq_true rfl) (Nat.le_of_ble_eq_true rfl) ?_
      exact W.vret hx hb hr (fun t9 ht9 hW9 => ⟨⟨(upd f1u6 301 (sg (-z2))), rfl, (show MN (upd f1u6 301 (sg (-z2))) (z - z2) from by obtain ⟨K3, g1, g2, g3, g4, g5, g6⟩ := hpu6; have ez := sg_z h2; exact mn_mk g2 g3 g4 (by rw [← g6]; omega) (fun q hq => pk_un (by omega)) ((pk_un (by decide)).trans g1) (pk_us.trans (congrArg sg (show (-z2) = z - z2 by omega)))), by rw [ht9]; exact hP9, hD9⟩, hS.F ht9⟩) hS.2.2 dM_add_58
  · have hP9 := hP.sub (ws' := [(a, .inl (cT 0, 302, .inl f)), (c2, .inl (cT 0, 302, .inl f2))]) [0, 1] rfl
    have hD9 := hD.sub (ws' := [(a, .inl (cT 0, 302, .inl f)), (c2, .inl (cT 0, 302, .inl f2))]) [0, 1] (by decide) rfl
    refine W.widen (k := 0) (n := 0) (Nat.le_of_ble_eq_true rfl) (Nat.le_of_ble_eq_true rfl) ?_
    exact W.vret hx hb hr (fun t9 ht9 hW9 => ⟨⟨f, rfl, (show MN f (z - z2) from by rw [show z - z2 = z by have := sg_z h1; omega]; exact hN0), by rw [ht9]; exact hP9, hD9⟩, hS.F ht9⟩) hS.2.2 dM_add_12
set_option maxHeartbeats 4000000 in
set_option maxRecDepth 100000 in
theorem m_setInt (l : Launch) (D : va_G) (cT : Nat → ClassId) (a : Nat) (f : Nat → Int32) (v : Int64) (hv0 : -4611686018427387904 < (v : Int64).toInt ∧ (v : Int64).toInt < 4611686018427387904) (sz : Nat) : Met l yM_setInt WM_setInt ({ frames := 0, cells := 0, slots := 0, locals := 0 } : Room) (RW D vwCl [.ref a, .long v] [(a, .inl (cT 0, 302, .inl f))] (TY cT) sz) (va_Qv (fun u9 : (Nat → Int32) => MN u9 (v : Int64).toInt) (BW D vwCl (va_A [(a, .inl (cT 0, 302, .inl f))] sz) (fun u9 : (Nat → Int32) => [(a, .inl (cT 0, 302, .inl u9))])) (va_A [(a, .inl (cT 0, 302, .inl f))] sz)) 0 0 (va_A [(a, .inl (cT 0, 302, .inl f))] sz) := by
  refine Met.ofW (cc := cM_setInt) (maxL := 6) (ret := none) (by decide) rfl ?_
  intro p e s m args below meth c s₁ B hml hv
  obtain ⟨rfl, hsz, hZ, hP, hK, hD0⟩ := hv
  have hx := B.exec
  have hb := B.bytes
  have hr := B.returns
  have hts := atoms_spec (ws := WM_setInt) B.pre
  have hT : ∀ w ∈ TB, w.before _ s = true := fun w h => hts w (List.mem_cons_of_mem _ h)
  have hown : s.vm.findClass R_M = some m.cls := findClass_of_methodNamed B.named
  have hlocks := B.notSynchronized
  subst hsz
  have hD := hD0.self (sz := s.heap.size)
  generalize hAe : va_A [(a, .inl (cT 0, 302, .inl f))] s.heap.size = A at hD hZ ⊢
  have hA : ∀ q : Nat, s.heap.size ≤ q → A q := fun q h => by rw [← hAe]; exact Or.inr h
  have hS : va_S A s.heap s.heap [] := va_S.rf
  have hl := lv_entry ([.ref a, .long v]) (n := 6) (Nat.le_of_ble_eq_true rfl)
  rw [lg_entry_eq]
  generalize (lg_sl ([.ref a, .long v]) ++ List.replicate (6 - (lg_sl ([.ref a, .long v])).length) Slot.unset).toArray = ls at hl ⊢
  have hl : lv_has ls 6 [(0, .ref a), (1, .long v)] := hl
  refine lv_lload_n hx hb dM_setInt_0 rfl (lv_at hl 1 rfl) ?_
  refine lv_lconst (v := 0) hx hb dM_setInt_1 (by decide) ?_
  refine W.lcmp hx hb dM_setInt_2 ?_
  refine lv_if_ge (tgt := 11) hx hb dM_setInt_3 rfl (fun h1 => ?_) (fun h1 => ?_)
  · obtain ⟨r0, hr0, hrx, hrz⟩ := lj_pos (Int64.not_lt.mpr ((lg_cmp_ge v 0).mp h1)) hv0.2
    refine lv_lload_n hx hb dM_setInt_11 rfl (lv_at hl 1 rfl) ?_
    refine lv_topl (fun y9 e9 => ?_)
    cases (show y9 = lN r0 from e9.trans hrx)
    refine lv_lstore_n hx hb dM_setInt_12 rfl hl (by decide) rfl (fun ls hl => ?_)
    have hl : lv_has ls 6 [(3, .long (lN r0)), (0, .ref a), (1, .long v)] := hl
    refine lv_iconst (v := 0) hx hb dM_setInt_13 (by decide) ?_
    refine lv_istore hx hb dM_setInt_14 hl (by decide) rfl (fun ls hl => ?_)
    have hl : lv_has ls 6 [(5, .int 0), (3, .long (lN r0)), (0, .ref a), (1, .long v)] := hl
    refine lp_w (α := Nat × Nat × (Nat → Int32)) (fun a9 => a9.2.1 < 4611686018427387904 ∧ a9.1 ≤ 3 ∧ dok 268435456 a9.2.2 a9.1 ∧ (∀ q, a9.1 ≤ q → a9.2.2 q = f q) ∧ hv 268435456 (dg a9.2.2) 0 a9.1 + 268435456 ^ a9.1 * a9.2.1 = r0 ∧ (a9.2.1 = 0 → top0 a9.2.2 a9.1)) (fun a9 => a9.2.1) (fun a9 => [(0, .ref a), (1, .long v), (3, .long (lN a9.2.1)), (5, .int (nI a9.1))]) (fun a9 => [(a, .inl (cT 0, 302, .inl a9.2.2))]) 16 ?_ (0, r0, f) (show r0 < 4611686018427387904 ∧ 0 ≤ 3 ∧ dok 268435456 f 0 ∧ (∀ q, 0 ≤ q → f q = f q) ∧ hv 268435456 (dg f) 0 0 + 268435456 ^ 0 * r0 = r0 ∧ (r0 = 0 → top0 f 0) from ⟨hr0, by omega, fun q h => absurd h (by omega), fun _ _ => rfl, by simp [hv], fun _ q => absurd q (by omega)⟩) (lv_sub hl [2, 3, 1, 0] rfl) hP hD hS
    intro a9 hI16 ih16 ls H locs hl hP hD hS
    obtain ⟨j, r, g⟩ := a9
    have hI16 : r < 4611686018427387904 ∧ j ≤ 3 ∧ dok 268435456 g j ∧ (∀ q, j ≤ q → g q = f q) ∧ hv 268435456 (dg g) 0 j + 268435456 ^ j * r = r0 ∧ (r = 0 → top0 g j) := hI16
    obtain ⟨ir, ij, idk, ig, iv, it⟩ := hI16
    have hl : lv_has ls 6 [(0, .ref a), (1, .long v), (3, .long (lN r)), (5, .int (nI j))] := hl
    have hP : va_P D vwCl [(a, .inl (cT 0, 302, .inl g))] _ := hP
    have hD : va_D A [(a, .inl (cT 0, 302, .inl g))] := hD
    refine lv_lload_n hx hb dM_setInt_16 rfl (lv_at hl 2 rfl) ?_
    refine lv_lconst (v := 0) hx hb dM_setInt_17 (by decide) ?_
    refine W.lcmp hx hb dM_setInt_18 ?_
    refine lv_if_le (tgt := 43) hx hb dM_setInt_19 rfl (fun h2 => ?_) (fun h2 => ?_)
    · have gh2 : r ≤ 0 := ((lg_cmp_le (lN r) 0).trans (pk_lLE (a := r) (b := 0) (by omega) (by decide))).mp h2
      have hrz0 : r = 0 := by omega
      rw [hrz0, Nat.mul_zero, Nat.add_zero] at iv
      refine lv_aload_n hx hb dM_setInt_43 rfl (lv_at hl 0 rfl) ?_
      refine lv_sipush (v := 300) hx hb dM_setInt_44 (by decide) ?_
      refine lv_iload hx hb dM_setInt_47 (lv_at hl 3 rfl) ?_
      refine lq_iast (j := 300) hx hb hK hP hD hS 0 0 rfl rfl rfl (by decide) (by decide) dM_setInt_49 (fun H locs hP hD hS => ?_)
      have hP : va_P D vwCl [(a, .inl (cT 0, 302, .inl (upd g 300 (nI j))))] _ := hP
      have hD : va_D A [(a, .inl (cT 0, 302, .inl (upd g 300 (nI j))))] := hD
      refine lv_aload_n hx hb dM_setInt_50 rfl (lv_at hl 0 rfl) ?_
      refine lv_sipush (v := 301) hx hb dM_setInt_51 (by decide) ?_
      refine lv_lload_n hx hb dM_setInt_54 rfl (lv_at hl 1 rfl) ?_
      refine lv_lconst (v := 0) hx hb dM_setInt_55 (by decide) ?_
      refine W.lcmp hx hb dM_setInt_56 ?_
      refine lv_if_ge (tgt := 64) hx hb dM_setInt_57 rfl (fun _ => ?_) (fun h3 => absurd h1 h3)
      refine lv_lload_n hx hb dM_setInt_64 rfl (lv_at hl 1 rfl) ?_
      refine lv_lconst (v := 0) hx hb dM_setInt_65 (by decide) ?_
      refine W.lcmp hx hb dM_setInt_66 ?_
      refine lv_if_le (tgt := 74) hx hb dM_setInt_67 rfl (fun h4 => ?_) (fun h4 => ?_)
      · refine lv_iconst (v := 0) hx hb dM_setInt_74 (by decide) ?_
        refine lq_iast (j := 301) hx hb hK hP hD hS 0 0 rfl rfl rfl (by decide) (by decide) dM_setInt_75 (fun H locs hP hD hS => ?_)
        have hP : va_P D vwCl [(a, .inl (cT 0, 302, .inl (upd (upd g 300 (nI j)) 301 0)))] _ := hP
        have hD : va_D A [(a, .inl (cT 0, 302, .inl (upd (upd g 300 (nI j)) 301 0)))] := hD
        have hP9 := hP.sub (ws' := [(a, .inl (cT 0, 302, .inl (upd (upd g 300 (nI j)) 301 0)))]) [0] rfl
        have hD9 := hD.sub (ws' := [(a, .inl (cT 0, 302, .inl (upd (upd g 300 (nI j)) 301 0)))]) [0] (by decide) rfl
        refine W.widen (k := 0) (n := 0) (Nat.le_of_ble_eq_true rfl) (Nat.le_of_ble_eq_true rfl) ?_
        exact W.vret hx hb hr (fun t9 ht9 hW9 => ⟨⟨(upd (upd g 300 (nI j)) 301 0), rfl, (show MN (upd (upd g 300 (nI j)) 301 0) (v : Int64).toInt from mn_mk (f := g) (K := j) (by omega) idk (it hrz0) (by rw [hrz]; show _ = hv _ _ _ _; rw [iv]; omega) (fun q hq => (pk_un (by omega)).trans (pk_un (by omega))) ((pk_un (by decide)).trans pk_us) (pk_us.trans (sgZ (by have q1 := Int64.le_iff_toInt_le.mp ((lg_cmp_le v 0).mp h4); have q2 : (0 : Int64).toInt = 0 := rfl; rw [q2] at q1; omega)).symm)), by rw [ht9]; exact hP9, hD9⟩, hS.F ht9⟩) hS.2.2 dM_setInt_76
      · refine lv_iconst (v := 1) hx hb dM_setInt_70 (by decide) ?_
        refine lv_goto (tgt := 75) hx hb dM_setInt_71 rfl ?_
        refine lq_iast (j := 301) hx hb hK hP hD hS 0 0 rfl rfl rfl (by decide) (by decide) dM_setInt_75 (fun H locs hP hD hS => ?_)
        have hP : va_P D vwCl [(a, .inl (cT 0, 302, .inl (upd (upd g 300 (nI j)) 301 1)))] _ := hP
        have hD : va_D A [(a, .inl (cT 0, 302, .inl (upd (upd g 300 (nI j)) 301 1)))] := hD
        have hP9 := hP.sub (ws' := [(a, .inl (cT 0, 302, .inl (upd (upd g 300 (nI j)) 301 1)))]) [0] rfl
        have hD9 := hD.sub (ws' := [(a, .inl (cT 0, 302, .inl (upd (upd g 300 (nI j)) 301 1)))]) [0] (by decide) rfl
        refine W.widen (k := 0) (n := 0) (Nat.le_of_ble_eq_true rfl) (Nat.le_of_ble_eq_true rfl) ?_
        exact W.vret hx hb hr (fun t9 ht9 hW9 => ⟨⟨(upd (upd g 300 (nI j)) 301 1), rfl, (show MN (upd (upd g 300 (nI j)) 301 1) (v : Int64).toInt from mn_mk (f := g) (K := j) (by omega) idk (it hrz0) (by rw [hrz]; show _ = hv _ _ _ _; rw [iv]; omega) (fun q hq => (pk_un (by omega)).trans (pk_un (by omega))) ((pk_un (by decide)).trans pk_us) (pk_us.trans (sgP (by have q1 := Int64.lt_iff_toInt_lt.mp (Int64.not_le.mp (fun q => h4 ((lg_cmp_le v 0).mpr q))); have q2 : (0 : Int64).toInt = 0 := rfl; rw [q2] at q1; omega)).symm)), by rw [ht9]; exact hP9, hD9⟩, hS.F ht9⟩) hS.2.2 dM_setInt_76
    · have gh2 : ¬ (r ≤ 0) := fun q => h2 (((lg_cmp_le (lN r) 0).trans (pk_lLE (a := r) (b := 0) (by omega) (by decide))).mpr q)
      have hj3 : j < 3 := by
        rcases (show j < 3 ∨ j = 3 by omega) with q | q
        · exact q
        · rw [q] at iv; omega
      refine lv_aload_n hx hb dM_setInt_22 rfl (lv_at hl 0 rfl) ?_
      refine lv_iload hx hb dM_setInt_23 (lv_at hl 3 rfl) ?_
      refine lv_lload_n hx hb dM_setInt_25 rfl (lv_at hl 2 rfl) ?_
      refine lv_ldc2 (v := 268435455) hx hb hown (hT _ w1388) dM_setInt_26 ?_
      refine lv_land hx hb dM_setInt_29 ?_
      obtain ⟨e1, he1⟩ : ∃ q9 : Nat, q9 = r % 268435456 := ⟨_, rfl⟩
      have he1b : e1 < 268435456 := by omega
      refine lv_topl (fun y9 e9 => ?_)
      cases (show y9 = lN e1 from e9.trans (by rw [he1]; exact msk (by omega)))
      refine lv_l2i hx hb dM_setInt_30 rfl ?_
      refine lv_topi (fun y9 e9 => ?_)
      cases (show y9 = nI e1 from e9.trans (lN_i e1))
      refine lq_iast (j := j) hx hb hK hP hD hS 0 0 rfl rfl rfl (by omega) (by omega) dM_setInt_31 (fun H locs hP hD hS => ?_)
      have hP : va_P D vwCl [(a, .inl (cT 0, 302, .inl (upd g j (nI e1))))] _ := hP
      have hD : va_D A [(a, .inl (cT 0, 302, .inl (upd g j (nI e1))))] := hD
      refine lv_lload_n hx hb dM_setInt_32 rfl (lv_at hl 2 rfl) ?_
      refine lv_bipush (v := 28) hx hb dM_setInt_33 (by decide) ?_
      refine lv_lshr hx hb dM_setInt_35 rfl ?_
      obtain ⟨r1, hr1⟩ : ∃ q9 : Nat, q9 = r / 268435456 := ⟨_, rfl⟩
      refine lv_topl (fun y9 e9 => ?_)
      cases (show y9 = lN r1 from e9.trans (by rw [hr1]; exact msh (by omega)))
      refine lv_lstore_n hx hb dM_setInt_36 rfl hl (by decide) rfl (fun ls hl => ?_)
      have hl : lv_has ls 6 [(3, .long (lN r1)), (0, .ref a), (1, .long v), (5, .int (nI j))] := hl
      refine lv_iinc (k := 3) (v := nI (j + 1)) hx hb dM_setInt_37 hl rfl (nI_1 j) (by decide) rfl (fun ls hl => ?_)
      have hl : lv_has ls 6 [(5, .int (nI (j + 1))), (3, .long (lN r1)), (0, .ref a), (1, .long v)] := hl
      refine lv_goto (tgt := 16) hx hb dM_setInt_40 rfl ?_
      exact ih16 (j + 1, r1, upd g j (nI e1)) (show r1 < 4611686018427387904 ∧ (j + 1) ≤ 3 ∧ dok 268435456 (upd g j (nI e1)) (j + 1) ∧ (∀ q, (j + 1) ≤ q → (upd g j (nI e1)) q = f q) ∧ hv 268435456 (dg (upd g j (nI e1))) 0 (j + 1) + 268435456 ^ (j + 1) * r1 = r0 ∧ (r1 = 0 → top0 (upd g j (nI e1)) (j + 1)) from ⟨by omega, by omega, dok_s idk he1b (by decide), fun q h => (pk_un (by omega)).trans (ig q (by omega)), by rw [hv_us (v := e1) (by omega), Nat.pow_succ, he1, hr1, car_s]; exact iv, fun q _ => by rw [Nat.add_sub_cancel, dg_us (by omega)]; omega⟩) (show r1 < r from (by omega)) ls H locs (lv_sub hl [2, 3, 1, 0] rfl) hP hD hS
  · obtain ⟨r0, hr0, hrx, hrz⟩ := lj_neg (Int64.not_le.mp (fun q => h1 ((lg_cmp_ge v 0).mpr q))) hv0.1
    refine lv_lload_n hx hb dM_setInt_6 rfl (lv_at hl 1 rfl) ?_
    refine lv_lneg hx hb dM_setInt_7 ?_
    refine lv_topl (fun y9 e9 => ?_)
    cases (show y9 = lN r0 from e9.trans hrx)
    refine lv_goto (tgt := 12) hx hb dM_setInt_8 rfl ?_
    refine lv_lstore_n hx hb dM_setInt_12 rfl hl (by decide) rfl (fun ls hl => ?_)
    have hl : lv_has ls 6 [(3, .long (lN r0)), (0, .ref a), (1, .long v)] := hl
    refine lv_iconst (v := 0) hx hb dM_setInt_13 (by decide) ?_
    refine lv_istore hx hb dM_setInt_14 hl (by decide) rfl (fun ls hl => ?_)
    have hl : lv_has ls 6 [(5, .int 0), (3, .long (lN r0)), (0, .ref a), (1, .long v)] := hl
    refine lp_w (α := Nat × Nat × (Nat → Int32)) (fun a9 => a9.2.1 < 4611686018427387904 ∧ a9.1 ≤ 3 ∧ dok 268435456 a9.2.2 a9.1 ∧ (∀ q, a9.1 ≤ q → a9.2.2 q = f q) ∧ hv 268435456 (dg a9.2.2) 0 a9.1 + 268435456 ^ a9.1 * a9.2.1 = r0 ∧ (a9.2.1 = 0 → top0 a9.2.2 a9.1)) (fun a9 => a9.2.1) (fun a9 => [(0, .ref a), (1, .long v), (3, .long (lN a9.2.1)), (5, .int (nI a9.1))]) (fun a9 => [(a, .inl (cT 0, 302, .inl a9.2.2))]) 16 ?_ (0, r0, f) (show r0 < 4611686018427387904 ∧ 0 ≤ 3 ∧ dok 268435456 f 0 ∧ (∀ q, 0 ≤ q → f q = f q) ∧ hv 268435456 (dg f) 0 0 + 268435456 ^ 0 * r0 = r0 ∧ (r0 = 0 → top0 f 0) from ⟨hr0, by omega, fun q h => absurd h (by omega), fun _ _ => rfl, by simp [hv], fun _ q => absurd q (by omega)⟩) (lv_sub hl [2, 3, 1, 0] rfl) hP hD hS
    intro a9 hI16 ih16 ls H locs hl hP hD hS
    obtain ⟨j, r, g⟩ := a9
    have hI16 : r < 4611686018427387904 ∧ j ≤ 3 ∧ dok 268435456 g j ∧ (∀ q, j ≤ q → g q = f q) ∧ hv 268435456 (dg g) 0 j + 268435456 ^ j * r = r0 ∧ (r = 0 → top0 g j) := hI16
    obtain ⟨ir, ij, idk, ig, iv, it⟩ := hI16
    have hl : lv_has ls 6 [(0, .ref a), (1, .long v), (3, .long (lN r)), (5, .int (nI j))] := hl
    have hP : va_P D vwCl [(a, .inl (cT 0, 302, .inl g))] _ := hP
    have hD : va_D A [(a, .inl (cT 0, 302, .inl g))] := hD
    refine lv_lload_n hx hb dM_setInt_16 rfl (lv_at hl 2 rfl) ?_
    refine lv_lconst (v := 0) hx hb dM_setInt_17 (by decide) ?_
    refine W.lcmp hx hb dM_setInt_18 ?_
    refine lv_if_le (tgt := 43) hx hb dM_setInt_19 rfl (fun h5 => ?_) (fun h5 => ?_)
    · have gh5 : r ≤ 0 := ((lg_cmp_le (lN r) 0).trans (pk_lLE (a := r) (b := 0) (by omega) (by decide))).mp h5
      have hrz0 : r = 0 := by omega
      rw [hrz0, Nat.mul_zero, Nat.add_zero] at iv
      refine lv_aload_n hx hb dM_setInt_43 rfl (lv_at hl 0 rfl) ?_
      refine lv_sipush (v := 300) hx hb dM_setInt_44 (by decide) ?_
      refine lv_iload hx hb dM_setInt_47 (lv_at hl 3 rfl) ?_
      refine lq_iast (j := 300) hx hb hK hP hD hS 0 0 rfl rfl rfl (by decide) (by decide) dM_setInt_49 (fun H locs hP hD hS => ?_)
      have hP : va_P D vwCl [(a, .inl (cT 0, 302, .inl (upd g 300 (nI j))))] _ := hP
      have hD : va_D A [(a, .inl (cT 0, 302, .inl (upd g 300 (nI j))))] := hD
      refine lv_aload_n hx hb dM_setInt_50 rfl (lv_at hl 0 rfl) ?_
      refine lv_sipush (v := 301) hx hb dM_setInt_51 (by decide) ?_
      refine lv_lload_n hx hb dM_setInt_54 rfl (lv_at hl 1 rfl) ?_
      refine lv_lconst (v := 0) hx hb dM_setInt_55 (by decide) ?_
      refine W.lcmp hx hb dM_setInt_56 ?_
      refine lv_if_ge (tgt := 64) hx hb dM_setInt_57 rfl (fun h6 => absurd h6 h1) (fun _ => ?_)
      refine lv_iconst (v := (-1)) hx hb dM_setInt_60 (by decide) ?_
      refine lv_goto (tgt := 75) hx hb dM_setInt_61 rfl ?_
      refine lq_iast (j := 301) hx hb hK hP hD hS 0 0 rfl rfl rfl (by decide) (by decide) dM_setInt_75 (fun H locs hP hD hS => ?_)
      have hP : va_P D vwCl [(a, .inl (cT 0, 302, .inl (upd (upd g 300 (nI j)) 301 (-1))))] _ := hP
      have hD : va_D A [(a, .inl (cT 0, 302, .inl (upd (upd g 300 (nI j)) 301 (-1))))] := hD
      have hP9 := hP.sub (ws' := [(a, .inl (cT 0, 302, .inl (upd (upd g 300 (nI j)) 301 (-1))))]) [0] rfl
      have hD9 := hD.sub (ws' := [(a, .inl (cT 0, 302, .inl (upd (upd g 300 (nI j)) 301 (-1))))]) [0] (by decide) rfl
      refine W.widen (k := 0) (n := 0) (Nat.le_of_ble_eq_true rfl) (Nat.le_of_ble_eq_true rfl) ?_
      exact W.vret hx hb hr (fun t9 ht9 hW9 => ⟨⟨(upd (upd g 300 (nI j)) 301 (-1)), rfl, (show MN (upd (upd g 300 (nI j)) 301 (-1)) (v : Int64).toInt from mn_mk (f := g) (K := j) (by omega) idk (it hrz0) (by rw [hrz]; show _ = hv _ _ _ _; rw [iv]; omega) (fun q hq => (pk_un (by omega)).trans (pk_un (by omega))) ((pk_un (by decide)).trans pk_us) (pk_us.trans (sgN (Int64.lt_iff_toInt_lt.mp (Int64.not_le.mp (fun q => h1 ((lg_cmp_ge v 0).mpr q))))).symm)), by rw [ht9]; exact hP9, hD9⟩, hS.F ht9⟩) hS.2.2 dM_setInt_76
    · have gh5 : ¬ (r ≤ 0) := fun q => h5 (((lg_cmp_le (lN r) 0).trans (pk_lLE (a := r) (b := 0) (by omega) (by decide))).mpr q)
      have hj3 : j < 3 := by
        rcases (show j < 3 ∨ j = 3 by omega) with q | q
        · exact q
        · rw [q] at iv; omega
      refine lv_aload_n hx hb dM_setInt_22 rfl (lv_at hl 0 rfl) ?_
      refine lv_iload hx hb dM_setInt_23 (lv_at hl 3 rfl) ?_
      refine lv_lload_n hx hb dM_setInt_25 rfl (lv_at hl 2 rfl) ?_
      refine lv_ldc2 (v := 268435455) hx hb hown (hT _ w1388) dM_setInt_26 ?_
      refine lv_land hx hb dM_setInt_29 ?_
      obtain ⟨e1, he1⟩ : ∃ q9 : Nat, q9 = r % 268435456 := ⟨_, rfl⟩
      have he1b : e1 < 268435456 := by omega
      refine lv_topl (fun y9 e9 => ?_)
      cases (show y9 = lN e1 from e9.trans (by rw [he1]; exact msk (by omega)))
      refine lv_l2i hx hb dM_setInt_30 rfl ?_
      refine lv_topi (fun y9 e9 => ?_)
      cases (show y9 = nI e1 from e9.trans (lN_i e1))
      refine lq_iast (j := j) hx hb hK hP hD hS 0 0 rfl rfl rfl (by omega) (by omega) dM_setInt_31 (fun H locs hP hD hS => ?_)
      have hP : va_P D vwCl [(a, .inl (cT 0, 302, .inl (upd g j (nI e1))))] _ := hP
      have hD : va_D A [(a, .inl (cT 0, 302, .inl (upd g j (nI e1))))] := hD
      refine lv_lload_n hx hb dM_setInt_32 rfl (lv_at hl 2 rfl) ?_
      refine lv_bipush (v := 28) hx hb dM_setInt_33 (by decide) ?_
      refine lv_lshr hx hb dM_setInt_35 rfl ?_
      obtain ⟨r1, hr1⟩ : ∃ q9 : Nat, q9 = r / 268435456 := ⟨_, rfl⟩
      refine lv_topl (fun y9 e9 => ?_)
      cases (show y9 = lN r1 from e9.trans (by rw [hr1]; exact msh (by omega)))
      refine lv_lstore_n hx hb dM_setInt_36 rfl hl (by decide) rfl (fun ls hl => ?_)
      have hl : lv_has ls 6 [(3, .long (lN r1)), (0, .ref a), (1, .long v), (5, .int (nI j))] := hl
      refine lv_iinc (k := 3) (v := nI (j + 1)) hx hb dM_setInt_37 hl rfl (nI_1 j) (by decide) rfl (fun ls hl => ?_)
      have hl : lv_has ls 6 [(5, .int (nI (j + 1))), (3, .long (lN r1)), (0, .ref a), (1, .long v)] := hl
      refine lv_goto (tgt := 16) hx hb dM_setInt_40 rfl ?_
      exact ih16 (j + 1, r1, upd g j (nI e1)) (show r1 < 4611686018427387904 ∧ (j + 1) ≤ 3 ∧ dok 268435456 (upd g j (nI e1)) (j + 1) ∧ (∀ q, (j + 1) ≤ q → (upd g j (nI e1)) q = f q) ∧ hv 268435456 (dg (upd g j (nI e1))) 0 (j + 1) + 268435456 ^ (j + 1) * r1 = r0 ∧ (r1 = 0 → top0 (upd g j (nI e1)) (j + 1)) from ⟨by omega, by omega, dok_s idk he1b (by decide), fun q h => (pk_un (by omega)).trans (ig q (by omega)), by rw [hv_us (v := e1) (by omega), Nat.pow_succ, he1, hr1, car_s]; exact iv, fun q _ => by rw [Nat.add_sub_cancel, dg_us (by omega)]; omega⟩) (show r1 < r from (by omega)) ls H locs (lv_sub hl [2, 3, 1, 0] rfl) hP hD hS
set_option maxHeartbeats 4000000 in
set_option maxRecDepth 100000 in
theorem m_store (l : Launch) (D : va_G) (cT : Nat → ClassId) (a : Nat) (f : Nat → Int32) (z : Int) (c2 : Nat) (N : Nat) (f2 : Nat → Int32) (p0 : Nat) (hN : MN f z) (hfit : z.natAbs < 268435456 ^ 130) (hp0 : p0 + 132 ≤ N) (hN9 : N < 2 ^ 31) (sz : Nat) : Met l yM_store WM_store ({ frames := 0, cells := 0, slots := 0, locals := 0 } : Room) (RW D vwCl [.ref a, .ref c2, .int (nI p0)] [(a, .inl (cT 0, 302, .inl f)), (c2, .inl (cT 0, N, .inl f2))] (TY cT) sz) (va_Qv (fun u9 : (Nat → Int32) => MR u9 p0 z ∧ ∀ q8, q8 < p0 ∨ p0 + 132 ≤ q8 → u9 q8 = f2 q8) (BW D vwCl (va_A [(a, .inl (cT 0, 302, .inl f)), (c2, .inl (cT 0, N, .inl f2))] sz) (fun u9 : (Nat → Int32) => [(a, .inl (cT 0, 302, .inl f)), (c2, .inl (cT 0, N, .inl u9))])) (va_A [(a, .inl (cT 0, 302, .inl f)), (c2, .inl (cT 0, N, .inl f2))] sz)) 0 0 (va_A [(a, .inl (cT 0, 302, .inl f)), (c2, .inl (cT 0, N, .inl f2))] sz) := by
  refine Met.ofW (cc := cM_store) (maxL := 4) (ret := none) (by decide) rfl ?_
  intro p e s m args below meth c s₁ B hml hv
  obtain ⟨rfl, hsz, hZ, hP, hK, hD0⟩ := hv
  have hx := B.exec
  have hb := B.bytes
  have hr := B.returns
  have hts := atoms_spec (ws := WM_store) B.pre
  have hT : ∀ w ∈ TB, w.before _ s = true := fun w h => hts w (List.mem_cons_of_mem _ h)
  have hown : s.vm.findClass R_M = some m.cls := findClass_of_methodNamed B.named
  have hlocks := B.notSynchronized
  subst hsz
  have hD := hD0.self (sz := s.heap.size)
  generalize hAe : va_A [(a, .inl (cT 0, 302, .inl f)), (c2, .inl (cT 0, N, .inl f2))] s.heap.size = A at hD hZ ⊢
  have hA : ∀ q : Nat, s.heap.size ≤ q → A q := fun q h => by rw [← hAe]; exact Or.inr h
  have hS : va_S A s.heap s.heap [] := va_S.rf
  have hl := lv_entry ([.ref a, .ref c2, .int (nI p0)]) (n := 4) (Nat.le_of_ble_eq_true rfl)
  rw [lg_entry_eq]
  generalize (lg_sl ([.ref a, .ref c2, .int (nI p0)]) ++ List.replicate (4 - (lg_sl ([.ref a, .ref c2, .int (nI p0)])).length) Slot.unset).toArray = ls at hl ⊢
  have hl : lv_has ls 4 [(0, .ref a), (1, .ref c2), (2, .int (nI p0))] := hl
  obtain ⟨K, h300, hk, hd, htop, hs, hva⟩ := hN
  have hK130 : K ≤ 130 := M_le htop (by rw [← hva]; exact hfit)
  refine lv_iconst (v := 0) hx hb dM_store_0 (by decide) ?_
  refine lv_istore_n hx hb dM_store_1 rfl hl (by decide) rfl (fun ls hl => ?_)
  have hl : lv_has ls 4 [(3, .int 0), (0, .ref a), (1, .ref c2), (2, .int (nI p0))] := hl
  refine lp_w (α := Nat × (Nat → Int32)) (fun a9 => a9.1 ≤ K ∧ (∀ q, q < a9.1 → a9.2 (p0 + q) = f q) ∧ (∀ q, q < p0 ∨ p0 + 132 ≤ q → a9.2 q = f2 q)) (fun a9 => K - a9.1) (fun a9 => [(0, .ref a), (1, .ref c2), (2, .int (nI p0)), (3, .int (nI a9.1))]) (fun a9 => [(a, .inl (cT 0, 302, .inl f)), (c2, .inl (cT 0, N, .inl a9.2))]) 2 ?_ (0, f2) (show 0 ≤ K ∧ (∀ q, q < 0 → f2 (p0 + q) = f q) ∧ (∀ q, q < p0 ∨ p0 + 132 ≤ q → f2 q = f2 q) from ⟨by omega, fun q h => absurd h (by omega), fun _ _ => rfl⟩) (lv_sub hl [1, 2, 3, 0] rfl) hP hD hS
  intro a9 hI2 ih2 ls H locs hl hP hD hS
  obtain ⟨j, g⟩ := a9
  have hI2 : j ≤ K ∧ (∀ q, q < j → g (p0 + q) = f q) ∧ (∀ q, q < p0 ∨ p0 + 132 ≤ q → g q = f2 q) := hI2
  obtain ⟨ij, ig, io⟩ := hI2
  have hl : lv_has ls 4 [(0, .ref a), (1, .ref c2), (2, .int (nI p0)), (3, .int (nI j))] := hl
  have hP : va_P D vwCl [(a, .inl (cT 0, 302, .inl f)), (c2, .inl (cT 0, N, .inl g))] _ := hP
  have hD : va_D A [(a, .inl (cT 0, 302, .inl f)), (c2, .inl (cT 0, N, .inl g))] := hD
  refine lv_iload_n hx hb dM_store_2 rfl (lv_at hl 3 rfl) ?_
  refine lv_aload_n hx hb dM_store_3 rfl (lv_at hl 0 rfl) ?_
  refine lv_sipush (v := 300) hx hb dM_store_4 (by decide) ?_
  refine lq_iald (j := 300) hx hb hK hP 0 0 rfl rfl rfl (by decide) (by decide) dM_store_7 ?_
  refine lv_topi (fun y9 e9 => ?_)
  cases (show y9 = nI K from e9.trans h300)
  refine lv_icmp_ge (tgt := 25) hx hb dM_store_8 rfl (fun h1 => ?_) (fun h1 => ?_)
  · have gh1 : K ≤ j := (nI_leI (a := K) (b := j) (by omega) (by omega)).mp h1
    refine lv_aload_n hx hb dM_store_25 rfl (lv_at hl 1 rfl) ?_
    refine lv_iload_n hx hb dM_store_26 rfl (lv_at hl 2 rfl) ?_
    refine lv_sipush (v := 130) hx hb dM_store_27 (by decide) ?_
    refine lv_iadd hx hb dM_store_30 ?_
    refine lv_topi (fun y9 e9 => ?_)
    cases (show y9 = nI (p0 + 130) from e9.trans (nI_add p0 130))
    refine lv_aload_n hx hb dM_store_31 rfl (lv_at hl 0 rfl) ?_
    refine lv_sipush (v := 300) hx hb dM_store_32 (by decide) ?_
    refine lq_iald (j := 300) hx hb hK hP 0 0 rfl rfl rfl (by decide) (by decide) dM_store_35 ?_
    refine lv_topi (fun y9 e9 => ?_)
    cases (show y9 = nI K from e9.trans h300)
    refine lq_iast (j := p0 + 130) hx hb hK hP hD hS 1 0 rfl rfl rfl (by omega) (by omega) dM_store_36 (fun H locs hP hD hS => ?_)
    have hP : va_P D vwCl [(a, .inl (cT 0, 302, .inl f)), (c2, .inl (cT 0, N, .inl (upd g (p0 + 130) (nI K))))] _ := hP
    have hD : va_D A [(a, .inl (cT 0, 302, .inl f)), (c2, .inl (cT 0, N, .inl (upd g (p0 + 130) (nI K))))] := hD
    refine lv_aload_n hx hb dM_store_37 rfl (lv_at hl 1 rfl) ?_
    refine lv_iload_n hx hb dM_store_38 rfl (lv_at hl 2 rfl) ?_
    refine lv_sipush (v := 130) hx hb dM_store_39 (by decide) ?_
    refine lv_iadd hx hb dM_store_42 ?_
    refine lv_topi (fun y9 e9 => ?_)
    cases (show y9 = nI (p0 + 130) from e9.trans (nI_add p0 130))
    refine lv_iconst (v := 1) hx hb dM_store_43 (by decide) ?_
    refine lv_iadd hx hb dM_store_44 ?_
    refine lv_topi (fun y9 e9 => ?_)
    cases (show y9 = nI ((p0 + 130) + 1) from e9.trans (nI_add (p0 + 130) 1))
    refine lv_aload_n hx hb dM_store_45 rfl (lv_at hl 0 rfl) ?_
    refine lv_sipush (v := 301) hx hb dM_store_46 (by decide) ?_
    refine lq_iald (j := 301) hx hb hK hP 0 0 rfl rfl rfl (by decide) (by decide) dM_store_49 ?_
    refine lv_topi (fun y9 e9 => ?_)
    cases (show y9 = sg z from e9.trans hs)
    refine lq_iast (j := (p0 + 130) + 1) hx hb hK hP hD hS 1 0 rfl rfl rfl (by omega) (by omega) dM_store_50 (fun H locs hP hD hS => ?_)
    have hP : va_P D vwCl [(a, .inl (cT 0, 302, .inl f)), (c2, .inl (cT 0, N, .inl (upd (upd g (p0 + 130) (nI K)) ((p0 + 130) + 1) (sg z))))] _ := hP
    have hD : va_D A [(a, .inl (cT 0, 302, .inl f)), (c2, .inl (cT 0, N, .inl (upd (upd g (p0 + 130) (nI K)) ((p0 + 130) + 1) (sg z))))] := hD
    have hP9 := hP.sub (ws' := [(a, .inl (cT 0, 302, .inl f)), (c2, .inl (cT 0, N, .inl (upd (upd g (p0 + 130) (nI K)) (p0 + 130 + 1) (sg z))))]) [0, 1] rfl
    have hD9 := hD.sub (ws' := [(a, .inl (cT 0, 302, .inl f)), (c2, .inl (cT 0, N, .inl (upd (upd g (p0 + 130) (nI K)) (p0 + 130 + 1) (sg z))))]) [0, 1] (by decide) rfl
    refine W.widen (k := 0) (n := 0) (Nat.le_of_ble_eq_true rfl) (Nat.le_of_ble_eq_true rfl) ?_
    exact W.vret hx hb hr (fun t9 ht9 hW9 => ⟨⟨(upd (upd g (p0 + 130) (nI K)) (p0 + 130 + 1) (sg z)), rfl, (show MR (upd (upd g (p0 + 130) (nI K)) (p0 + 130 + 1) (sg z)) p0 z ∧ ∀ q8, q8 < p0 ∨ p0 + 132 ≤ q8 → (upd (upd g (p0 + 130) (nI K)) (p0 + 130 + 1) (sg z)) q8 = f2 q8 from ⟨mr_mk hK130 hd htop hva (fun q hq => (pk_un (by omega)).trans ((pk_un (by omega)).trans (ig q (by omega)))) ((pk_un (by omega)).trans pk_us) pk_us, fun q hq => (pk_un (by omega)).trans ((pk_un (by omega)).trans (io q hq))⟩), by rw [ht9]; exact hP9, hD9⟩, hS.F ht9⟩) hS.2.2 dM_store_51
  · have gh1 : j < K := Nat.not_le.mp (fun q => h1 ((nI_leI (a := K) (b := j) (by omega) (by omega)).mpr q))
    refine lv_aload_n hx hb dM_store_11 rfl (lv_at hl 1 rfl) ?_
    refine lv_iload_n hx hb dM_store_12 rfl (lv_at hl 2 rfl) ?_
    refine lv_iload_n hx hb dM_store_13 rfl (lv_at hl 3 rfl) ?_
    refine lv_iadd hx hb dM_store_14 ?_
    refine lv_topi (fun y9 e9 => ?_)
    cases (show y9 = nI (p0 + j) from e9.trans (nI_add p0 j))
    refine lv_aload_n hx hb dM_store_15 rfl (lv_at hl 0 rfl) ?_
    refine lv_iload_n hx hb dM_store_16 rfl (lv_at hl 3 rfl) ?_
    refine lq_iald (j := j) hx hb hK hP 0 0 rfl rfl rfl (by omega) (by omega) dM_store_17 ?_
    refine lq_iast (j := p0 + j) hx hb hK hP hD hS 1 0 rfl rfl rfl (by omega) (by omega) dM_store_18 (fun H locs hP hD hS => ?_)
    have hP : va_P D vwCl [(a, .inl (cT 0, 302, .inl f)), (c2, .inl (cT 0, N, .inl (upd g (p0 + j) (f j))))] _ := hP
    have hD : va_D A [(a, .inl (cT 0, 302, .inl f)), (c2, .inl (cT 0, N, .inl (upd g (p0 + j) (f j))))] := hD
    refine lv_iinc (k := 3) (v := nI (j + 1)) hx hb dM_store_19 hl rfl (nI_1 j) (by decide) rfl (fun ls hl => ?_)
    have hl : lv_has ls 4 [(3, .int (nI (j + 1))), (0, .ref a), (1, .ref c2), (2, .int (nI p0))] := hl
    refine lv_goto (tgt := 2) hx hb dM_store_22 rfl ?_
    exact ih2 (j + 1, upd g (p0 + j) (f j)) (show (j + 1) ≤ K ∧ (∀ q, q < (j + 1) → (upd g (p0 + j) (f j)) (p0 + q) = f q) ∧ (∀ q, q < p0 ∨ p0 + 132 ≤ q → (upd g (p0 + j) (f j)) q = f2 q) from ⟨by omega, fun q h => (by by_cases r : q = j; (subst r; exact pk_us); (exact (pk_un (by omega)).trans (ig q (by omega)))), fun q h => (pk_un (by omega)).trans (io q h)⟩) (show K - (j + 1) < K - j from (by omega)) ls H locs (lv_sub hl [1, 2, 3, 0] rfl) hP hD hS
set_option maxHeartbeats 4000000 in
set_option maxRecDepth 100000 in
theorem m_load (l : Launch) (D : va_G) (cT : Nat → ClassId) (c2 : Nat) (N : Nat) (f2 : Nat → Int32) (p0 : Nat) (z : Int) (a : Nat) (f : Nat → Int32) (hM : MR f2 p0 z) (hp0 : p0 + 132 ≤ N) (hN9 : N < 2 ^ 31) (sz : Nat) : Met l yM_load WM_load ({ frames := 0, cells := 0, slots := 0, locals := 0 } : Room) (RW D vwCl [.ref c2, .int (nI p0), .ref a] [(c2, .inl (cT 0, N, .inl f2)), (a, .inl (cT 0, 302, .inl f))] (TY cT) sz) (va_Qv (fun u9 : (Nat → Int32) => MN u9 z) (BW D vwCl (va_A [(c2, .inl (cT 0, N, .inl f2)), (a, .inl (cT 0, 302, .inl f))] sz) (fun u9 : (Nat → Int32) => [(c2, .inl (cT 0, N, .inl f2)), (a, .inl (cT 0, 302, .inl u9))])) (va_A [(c2, .inl (cT 0, N, .inl f2)), (a, .inl (cT 0, 302, .inl f))] sz)) 0 0 (va_A [(c2, .inl (cT 0, N, .inl f2)), (a, .inl (cT 0, 302, .inl f))] sz) := by
  refine Met.ofW (cc := cM_load) (maxL := 4) (ret := none) (by decide) rfl ?_
  intro p e s m args below meth c s₁ B hml hv
  obtain ⟨rfl, hsz, hZ, hP, hK, hD0⟩ := hv
  have hx := B.exec
  have hb := B.bytes
  have hr := B.returns
  have hts := atoms_spec (ws := WM_load) B.pre
  have hT : ∀ w ∈ TB, w.before _ s = true := fun w h => hts w (List.mem_cons_of_mem _ h)
  have hown : s.vm.findClass R_M = some m.cls := findClass_of_methodNamed B.named
  have hlocks := B.notSynchronized
  subst hsz
  have hD := hD0.self (sz := s.heap.size)
  generalize hAe : va_A [(c2, .inl (cT 0, N, .inl f2)), (a, .inl (cT 0, 302, .inl f))] s.heap.size = A at hD hZ ⊢
  have hA : ∀ q : Nat, s.heap.size ≤ q → A q := fun q h => by rw [← hAe]; exact Or.inr h
  have hS : va_S A s.heap s.heap [] := va_S.rf
  have hl := lv_entry ([.ref c2, .int (nI p0), .ref a]) (n := 4) (Nat.le_of_ble_eq_true rfl)
  rw [lg_entry_eq]
  generalize (lg_sl ([.ref c2, .int (nI p0), .ref a]) ++ List.replicate (4 - (lg_sl ([.ref c2, .int (nI p0), .ref a])).length) Slot.unset).toArray = ls at hl ⊢
  have hl : lv_has ls 4 [(0, .ref c2), (1, .int (nI p0)), (2, .ref a)] := hl
  obtain ⟨K, h300, hk, hd, htop, hs, hva⟩ := hM
  refine lv_iconst (v := 0) hx hb dM_load_0 (by decide) ?_
  refine lv_istore_n hx hb dM_load_1 rfl hl (by decide) rfl (fun ls hl => ?_)
  have hl : lv_has ls 4 [(3, .int 0), (0, .ref c2), (1, .int (nI p0)), (2, .ref a)] := hl
  refine lp_w (α := Nat × (Nat → Int32)) (fun a9 => a9.1 ≤ K ∧ (∀ q, q < a9.1 → a9.2 q = f2 (p0 + q))) (fun a9 => K - a9.1) (fun a9 => [(0, .ref c2), (1, .int (nI p0)), (2, .ref a), (3, .int (nI a9.1))]) (fun a9 => [(c2, .inl (cT 0, N, .inl f2)), (a, .inl (cT 0, 302, .inl a9.2))]) 2 ?_ (0, f) (show 0 ≤ K ∧ (∀ q, q < 0 → f q = f2 (p0 + q)) from ⟨by omega, fun q h => absurd h (by omega)⟩) (lv_sub hl [1, 2, 3, 0] rfl) hP hD hS
  intro a9 hI2 ih2 ls H locs hl hP hD hS
  obtain ⟨j, g⟩ := a9
  have hI2 : j ≤ K ∧ (∀ q, q < j → g q = f2 (p0 + q)) := hI2
  obtain ⟨ij, ig⟩ := hI2
  have hl : lv_has ls 4 [(0, .ref c2), (1, .int (nI p0)), (2, .ref a), (3, .int (nI j))] := hl
  have hP : va_P D vwCl [(c2, .inl (cT 0, N, .inl f2)), (a, .inl (cT 0, 302, .inl g))] _ := hP
  have hD : va_D A [(c2, .inl (cT 0, N, .inl f2)), (a, .inl (cT 0, 302, .inl g))] := hD
  refine lv_iload_n hx hb dM_load_2 rfl (lv_at hl 3 rfl) ?_
  refine lv_aload_n hx hb dM_load_3 rfl (lv_at hl 0 rfl) ?_
  refine lv_iload_n hx hb dM_load_4 rfl (lv_at hl 1 rfl) ?_
  refine lv_sipush (v := 130) hx hb dM_load_5 (by decide) ?_
  refine lv_iadd hx hb dM_load_8 ?_
  refine lv_topi (fun y9 e9 => ?_)
  cases (show y9 = nI (p0 + 130) from e9.trans (nI_add p0 130))
  refine lq_iald (j := p0 + 130) hx hb hK hP 0 0 rfl rfl rfl (by omega) (by omega) dM_load_9 ?_
  refine lv_topi (fun y9 e9 => ?_)
  cases (show y9 = nI K from e9.trans h300)
  refine lv_icmp_ge (tgt := 27) hx hb dM_load_10 rfl (fun h1 => ?_) (fun h1 => ?_)
  · have gh1 : K ≤ j := (nI_leI (a := K) (b := j) (by omega) (by omega)).mp h1
    refine lv_aload_n hx hb dM_load_27 rfl (lv_at hl 2 rfl) ?_
    refine lv_sipush (v := 300) hx hb dM_load_28 (by decide) ?_
    refine lv_aload_n hx hb dM_load_31 rfl (lv_at hl 0 rfl) ?_
    refine lv_iload_n hx hb dM_load_32 rfl (lv_at hl 1 rfl) ?_
    refine lv_sipush (v := 130) hx hb dM_load_33 (by decide) ?_
    refine lv_iadd hx hb dM_load_36 ?_
    refine lv_topi (fun y9 e9 => ?_)
    cases (show y9 = nI (p0 + 130) from e9.trans (nI_add p0 130))
    refine lq_iald (j := p0 + 130) hx hb hK hP 0 0 rfl rfl rfl (by omega) (by omega) dM_load_37 ?_
    refine lv_topi (fun y9 e9 => ?_)
    cases (show y9 = nI K from e9.trans h300)
    refine lq_iast (j := 300) hx hb hK hP hD hS 1 0 rfl rfl rfl (by decide) (by decide) dM_load_38 (fun H locs hP hD hS => ?_)
    have hP : va_P D vwCl [(c2, .inl (cT 0, N, .inl f2)), (a, .inl (cT 0, 302, .inl (upd g 300 (nI K))))] _ := hP
    have hD : va_D A [(c2, .inl (cT 0, N, .inl f2)), (a, .inl (cT 0, 302, .inl (upd g 300 (nI K))))] := hD
    refine lv_aload_n hx hb dM_load_39 rfl (lv_at hl 2 rfl) ?_
    refine lv_sipush (v := 301) hx hb dM_load_40 (by decide) ?_
    refine lv_aload_n hx hb dM_load_43 rfl (lv_at hl 0 rfl) ?_
    refine lv_iload_n hx hb dM_load_44 rfl (lv_at hl 1 rfl) ?_
    refine lv_sipush (v := 130) hx hb dM_load_45 (by decide) ?_
    refine lv_iadd hx hb dM_load_48 ?_
    refine lv_topi (fun y9 e9 => ?_)
    cases (show y9 = nI (p0 + 130) from e9.trans (nI_add p0 130))
    refine lv_iconst (v := 1) hx hb dM_load_49 (by decide) ?_
    refine lv_iadd hx hb dM_load_50 ?_
    refine lv_topi (fun y9 e9 => ?_)
    cases (show y9 = nI ((p0 + 130) + 1) from e9.trans (nI_add (p0 + 130) 1))
    refine lq_iald (j := (p0 + 130) + 1) hx hb hK hP 0 0 rfl rfl rfl (by omega) (by omega) dM_load_51 ?_
    refine lv_topi (fun y9 e9 => ?_)
    cases (show y9 = sg z from e9.trans hs)
    refine lq_iast (j := 301) hx hb hK hP hD hS 1 0 rfl rfl rfl (by decide) (by decide) dM_load_52 (fun H locs hP hD hS => ?_)
    have hP : va_P D vwCl [(c2, .inl (cT 0, N, .inl f2)), (a, .inl (cT 0, 302, .inl (upd (upd g 300 (nI K)) 301 (sg z))))] _ := hP
    have hD : va_D A [(c2, .inl (cT 0, N, .inl f2)), (a, .inl (cT 0, 302, .inl (upd (upd g 300 (nI K)) 301 (sg z))))] := hD
    have hP9 := hP.sub (ws' := [(c2, .inl (cT 0, N, .inl f2)), (a, .inl (cT 0, 302, .inl (upd (upd g 300 (nI K)) 301 (sg z))))]) [0, 1] rfl
    have hD9 := hD.sub (ws' := [(c2, .inl (cT 0, N, .inl f2)), (a, .inl (cT 0, 302, .inl (upd (upd g 300 (nI K)) 301 (sg z))))]) [0, 1] (by decide) rfl
    refine W.widen (k := 0) (n := 0) (Nat.le_of_ble_eq_true rfl) (Nat.le_of_ble_eq_true rfl) ?_
    exact W.vret hx hb hr (fun t9 ht9 hW9 => ⟨⟨(upd (upd g 300 (nI K)) 301 (sg z)), rfl, (show MN (upd (upd g 300 (nI K)) 301 (sg z)) z from mn_mk (f := sh p0 f2) (by omega) hd htop hva (fun q hq => (pk_un (by omega)).trans ((pk_un (by omega)).trans (ig q (by omega)))) ((pk_un (by decide)).trans pk_us) pk_us), by rw [ht9]; exact hP9, hD9⟩, hS.F ht9⟩) hS.2.2 dM_load_53
  · have gh1 : j < K := Nat.not_le.mp (fun q => h1 ((nI_leI (a := K) (b := j) (by omega) (by omega)).mpr q))
    refine lv_aload_n hx hb dM_load_13 rfl (lv_at hl 2 rfl) ?_
    refine lv_iload_n hx hb dM_load_14 rfl (lv_at hl 3 rfl) ?_
    refine lv_aload_n hx hb dM_load_15 rfl (lv_at hl 0 rfl) ?_
    refine lv_iload_n hx hb dM_load_16 rfl (lv_at hl 1 rfl) ?_
    refine lv_iload_n hx hb dM_load_17 rfl (lv_at hl 3 rfl) ?_
    refine lv_iadd hx hb dM_load_18 ?_
    refine lv_topi (fun y9 e9 => ?_)
    cases (show y9 = nI (p0 + j) from e9.trans (nI_add p0 j))
    refine lq_iald (j := p0 + j) hx hb hK hP 0 0 rfl rfl rfl (by omega) (by omega) dM_load_19 ?_
    refine lq_iast (j := j) hx hb hK hP hD hS 1 0 rfl rfl rfl (by omega) (by omega) dM_load_20 (fun H locs hP hD hS => ?_)
    have hP : va_P D vwCl [(c2, .inl (cT 0, N, .inl f2)), (a, .inl (cT 0, 302, .inl (upd g j (f2 (p0 + j)))))] _ := hP
    have hD : va_D A [(c2, .inl (cT 0, N, .inl f2)), (a, .inl (cT 0, 302, .inl (upd g j (f2 (p0 + j)))))] := hD
    refine lv_iinc (k := 3) (v := nI (j + 1)) hx hb dM_load_21 hl rfl (nI_1 j) (by decide) rfl (fun ls hl => ?_)
    have hl : lv_has ls 4 [(3, .int (nI (j + 1))), (0, .ref c2), (1, .int (nI p0)), (2, .ref a)] := hl
    refine lv_goto (tgt := 2) hx hb dM_load_24 rfl ?_
    exact ih2 (j + 1, upd g j (f2 (p0 + j))) (show (j + 1) ≤ K ∧ (∀ q, q < (j + 1) → (upd g j (f2 (p0 + j))) q = f2 (p0 + q)) from ⟨by omega, fun q h => (by by_cases r : q = j; (subst r; exact pk_us); (exact (pk_un r).trans (ig q (by omega))))⟩) (show K - (j + 1) < K - j from (by omega)) ls H locs (lv_sub hl [1, 2, 3, 0] rfl) hP hD hS
set_option maxHeartbeats 4000000 in
set_option maxRecDepth 100000 in
theorem m_storeL (l : Launch) (D : va_G) (cT : Nat → ClassId) (a : Nat) (f : Nat → Int32) (c2 : Nat) (N : Nat) (f2 : Nat → Int32) (p0 : Nat) (hp0 : p0 + 19 ≤ N) (hN9 : N < 2 ^ 31) (sz : Nat) : Met l yM_storeLows WM_storeLows ({ frames := 0, cells := 0, slots := 0, locals := 0 } : Room) (RW D vwCl [.ref a, .ref c2, .int (nI p0)] [(a, .inl (cT 0, 19, .inl f)), (c2, .inl (cT 0, N, .inl f2))] (TY cT) sz) (va_Qv (fun u9 : (Nat → Int32) => (∀ q8, q8 < 19 → u9 (p0 + q8) = f q8) ∧ ∀ q8, q8 < p0 ∨ p0 + 19 ≤ q8 → u9 q8 = f2 q8) (BW D vwCl (va_A [(a, .inl (cT 0, 19, .inl f)), (c2, .inl (cT 0, N, .inl f2))] sz) (fun u9 : (Nat → Int32) => [(a, .inl (cT 0, 19, .inl f)), (c2, .inl (cT 0, N, .inl u9))])) (va_A [(a, .inl (cT 0, 19, .inl f)), (c2, .inl (cT 0, N, .inl f2))] sz)) 0 0 (va_A [(a, .inl (cT 0, 19, .inl f)), (c2, .inl (cT 0, N, .inl f2))] sz) := by
  refine Met.ofW (cc := cM_storeLows) (maxL := 4) (ret := none) (by decide) rfl ?_
  intro p e s m args below meth c s₁ B hml hv
  obtain ⟨rfl, hsz, hZ, hP, hK, hD0⟩ := hv
  have hx := B.exec
  have hb := B.bytes
  have hr := B.returns
  have hts := atoms_spec (ws := WM_storeLows) B.pre
  have hT : ∀ w ∈ TB, w.before _ s = true := fun w h => hts w (List.mem_cons_of_mem _ h)
  have hown : s.vm.findClass R_M = some m.cls := findClass_of_methodNamed B.named
  have hlocks := B.notSynchronized
  subst hsz
  have hD := hD0.self (sz := s.heap.size)
  generalize hAe : va_A [(a, .inl (cT 0, 19, .inl f)), (c2, .inl (cT 0, N, .inl f2))] s.heap.size = A at hD hZ ⊢
  have hA : ∀ q : Nat, s.heap.size ≤ q → A q := fun q h => by rw [← hAe]; exact Or.inr h
  have hS : va_S A s.heap s.heap [] := va_S.rf
  have hl := lv_entry ([.ref a, .ref c2, .int (nI p0)]) (n := 4) (Nat.le_of_ble_eq_true rfl)
  rw [lg_entry_eq]
  generalize (lg_sl ([.ref a, .ref c2, .int (nI p0)]) ++ List.replicate (4 - (lg_sl ([.ref a, .ref c2, .int (nI p0)])).length) Slot.unset).toArray = ls at hl ⊢
  have hl : lv_has ls 4 [(0, .ref a), (1, .ref c2), (2, .int (nI p0))] := hl
  refine lv_iconst (v := 0) hx hb dM_storeLows_0 (by decide) ?_
  refine lv_istore_n hx hb dM_storeLows_1 rfl hl (by decide) rfl (fun ls hl => ?_)
  have hl : lv_has ls 4 [(3, .int 0), (0, .ref a), (1, .ref c2), (2, .int (nI p0))] := hl
  refine lp_w (α := Nat × (Nat → Int32)) (fun a9 => a9.1 ≤ 19 ∧ (∀ q, q < a9.1 → a9.2 (p0 + q) = f q) ∧ (∀ q, q < p0 ∨ p0 + 19 ≤ q → a9.2 q = f2 q)) (fun a9 => 19 - a9.1) (fun a9 => [(0, .ref a), (1, .ref c2), (2, .int (nI p0)), (3, .int (nI a9.1))]) (fun a9 => [(a, .inl (cT 0, 19, .inl f)), (c2, .inl (cT 0, N, .inl a9.2))]) 2 ?_ (0, f2) (show 0 ≤ 19 ∧ (∀ q, q < 0 → f2 (p0 + q) = f q) ∧ (∀ q, q < p0 ∨ p0 + 19 ≤ q → f2 q = f2 q) from ⟨by omega, fun q h => absurd h (by omega), fun _ _ => rfl⟩) (lv_sub hl [1, 2, 3, 0] rfl) hP hD hS
  intro a9 hI2 ih2 ls H locs hl hP hD hS
  obtain ⟨j, g⟩ := a9
  have hI2 : j ≤ 19 ∧ (∀ q, q < j → g (p0 + q) = f q) ∧ (∀ q, q < p0 ∨ p0 + 19 ≤ q → g q = f2 q) := hI2
  obtain ⟨ij, ig, io⟩ := hI2
  have hl : lv_has ls 4 [(0, .ref a), (1, .ref c2), (2, .int (nI p0)), (3, .int (nI j))] := hl
  have hP : va_P D vwCl [(a, .inl (cT 0, 19, .inl f)), (c2, .inl (cT 0, N, .inl g))] _ := hP
  have hD : va_D A [(a, .inl (cT 0, 19, .inl f)), (c2, .inl (cT 0, N, .inl g))] := hD
  refine lv_iload_n hx hb dM_storeLows_2 rfl (lv_at hl 3 rfl) ?_
  refine lv_bipush (v := 19) hx hb dM_storeLows_3 (by decide) ?_
  refine lv_icmp_ge (tgt := 22) hx hb dM_storeLows_5 rfl (fun h1 => ?_) (fun h1 => ?_)
  · have gh1 : 19 ≤ j := (nI_leI (a := 19) (b := j) (by omega) (by omega)).mp h1
    have hP9 := hP.sub (ws' := [(a, .inl (cT 0, 19, .inl f)), (c2, .inl (cT 0, N, .inl g))]) [0, 1] rfl
    have hD9 := hD.sub (ws' := [(a, .inl (cT 0, 19, .inl f)), (c2, .inl (cT 0, N, .inl g))]) [0, 1] (by decide) rfl
    refine W.widen (k := 0) (n := 0) (Nat.le_of_ble_eq_true rfl) (Nat.le_of_ble_eq_true rfl) ?_
    exact W.vret hx hb hr (fun t9 ht9 hW9 => ⟨⟨g, rfl, (show (∀ q8, q8 < 19 → g (p0 + q8) = f q8) ∧ ∀ q8, q8 < p0 ∨ p0 + 19 ≤ q8 → g q8 = f2 q8 from ⟨fun q hq => ig q (by omega), io⟩), by rw [ht9]; exact hP9, hD9⟩, hS.F ht9⟩) hS.2.2 dM_storeLows_22
  · have gh1 : j < 19 := Nat.not_le.mp (fun q => h1 ((nI_leI (a := 19) (b := j) (by omega) (by omega)).mpr q))
    refine lv_aload_n hx hb dM_storeLows_8 rfl (lv_at hl 1 rfl) ?_
    refine lv_iload_n hx hb dM_storeLows_9 rfl (lv_at hl 2 rfl) ?_
    refine lv_iload_n hx hb dM_storeLows_10 rfl (lv_at hl 3 rfl) ?_
    refine lv_iadd hx hb dM_storeLows_11 ?_
    refine lv_topi (fun y9 e9 => ?_)
    cases (show y9 = nI (p0 + j) from e9.trans (nI_add p0 j))
    refine lv_aload_n hx hb dM_storeLows_12 rfl (lv_at hl 0 rfl) ?_
    refine lv_iload_n hx hb dM_storeLows_13 rfl (lv_at hl 3 rfl) ?_
    refine lq_iald (j := j) hx hb hK hP 0 0 rfl rfl rfl (by omega) (by omega) dM_storeLows_14 ?_
    refine lq_iast (j := p0 + j) hx hb hK hP hD hS 1 0 rfl rfl rfl (by omega) (by omega) dM_storeLows_15 (fun H locs hP hD hS => ?_)
    have hP : va_P D vwCl [(a, .inl (cT 0, 19, .inl f)), (c2, .inl (cT 0, N, .inl (upd g (p0 + j) (f j))))] _ := hP
    have hD : va_D A [(a, .inl (cT 0, 19, .inl f)), (c2, .inl (cT 0, N, .inl (upd g (p0 + j) (f j))))] := hD
    refine lv_iinc (k := 3) (v := nI (j + 1)) hx hb dM_storeLows_16 hl rfl (nI_1 j) (by decide) rfl (fun ls hl => ?_)
    have hl : lv_has ls 4 [(3, .int (nI (j + 1))), (0, .ref a), (1, .ref c2), (2, .int (nI p0))] := hl
    refine lv_goto (tgt := 2) hx hb dM_storeLows_19 rfl ?_
    exact ih2 (j + 1, upd g (p0 + j) (f j)) (show (j + 1) ≤ 19 ∧ (∀ q, q < (j + 1) → (upd g (p0 + j) (f j)) (p0 + q) = f q) ∧ (∀ q, q < p0 ∨ p0 + 19 ≤ q → (upd g (p0 + j) (f j)) q = f2 q) from ⟨by omega, fun q h => (by by_cases r : q = j; (subst r; exact pk_us); (exact (pk_un (by omega)).trans (ig q (by omega)))), fun q h => (pk_un (by omega)).trans (io q h)⟩) (show 19 - (j + 1) < 19 - j from (by omega)) ls H locs (lv_sub hl [1, 2, 3, 0] rfl) hP hD hS
set_option maxHeartbeats 4000000 in
set_option maxRecDepth 100000 in
theorem m_loadL (l : Launch) (D : va_G) (cT : Nat → ClassId) (c2 : Nat) (N : Nat) (f2 : Nat → Int32) (p0 : Nat) (a : Nat) (f : Nat → Int32) (hp0 : p0 + 19 ≤ N) (hN9 : N < 2 ^ 31) (sz : Nat) : Met l yM_loadLows WM_loadLows ({ frames := 0, cells := 0, slots := 0, locals := 0 } : Room) (RW D vwCl [.ref c2, .int (nI p0), .ref a] [(c2, .inl (cT 0, N, .inl f2)), (a, .inl (cT 0, 19, .inl f))] (TY cT) sz) (va_Qv (fun u9 : (Nat → Int32) => ∀ q8, q8 < 19 → u9 q8 = f2 (p0 + q8)) (BW D vwCl (va_A [(c2, .inl (cT 0, N, .inl f2)), (a, .inl (cT 0, 19, .inl f))] sz) (fun u9 : (Nat → Int32) => [(c2, .inl (cT 0, N, .inl f2)), (a, .inl (cT 0, 19, .inl u9))])) (va_A [(c2, .inl (cT 0, N, .inl f2)), (a, .inl (cT 0, 19, .inl f))] sz)) 0 0 (va_A [(c2, .inl (cT 0, N, .inl f2)), (a, .inl (cT 0, 19, .inl f))] sz) := by
  refine Met.ofW (cc := cM_loadLows) (maxL := 4) (ret := none) (by decide) rfl ?_
  intro p e s m args below meth c s₁ B hml hv
  obtain ⟨rfl, hsz, hZ, hP, hK, hD0⟩ := hv
  have hx := B.exec
  have hb := B.bytes
  have hr := B.returns
  have hts := atoms_spec (ws := WM_loadLows) B.pre
  have hT : ∀ w ∈ TB, w.before _ s = true := fun w h => hts w (List.mem_cons_of_mem _ h)
  have hown : s.vm.findClass R_M = some m.cls := findClass_of_methodNamed B.named
  have hlocks := B.notSynchronized
  subst hsz
  have hD := hD0.self (sz := s.heap.size)
  generalize hAe : va_A [(c2, .inl (cT 0, N, .inl f2)), (a, .inl (cT 0, 19, .inl f))] s.heap.size = A at hD hZ ⊢
  have hA : ∀ q : Nat, s.heap.size ≤ q → A q := fun q h => by rw [← hAe]; exact Or.inr h
  have hS : va_S A s.heap s.heap [] := va_S.rf
  have hl := lv_entry ([.ref c2, .int (nI p0), .ref a]) (n := 4) (Nat.le_of_ble_eq_true rfl)
  rw [lg_entry_eq]
  generalize (lg_sl ([.ref c2, .int (nI p0), .ref a]) ++ List.replicate (4 - (lg_sl ([.ref c2, .int (nI p0), .ref a])).length) Slot.unset).toArray = ls at hl ⊢
  have hl : lv_has ls 4 [(0, .ref c2), (1, .int (nI p0)), (2, .ref a)] := hl
  refine lv_iconst (v := 0) hx hb dM_loadLows_0 (by decide) ?_
  refine lv_istore_n hx hb dM_loadLows_1 rfl hl (by decide) rfl (fun ls hl => ?_)
  have hl : lv_has ls 4 [(3, .int 0), (0, .ref c2), (1, .int (nI p0)), (2, .ref a)] := hl
  refine lp_w (α := Nat × (Nat → Int32)) (fun a9 => a9.1 ≤ 19 ∧ (∀ q, q < a9.1 → a9.2 q = f2 (p0 + q))) (fun a9 => 19 - a9.1) (fun a9 => [(0, .ref c2), (1, .int (nI p0)), (2, .ref a), (3, .int (nI a9.1))]) (fun a9 => [(c2, .inl (cT 0, N, .inl f2)), (a, .inl (cT 0, 19, .inl a9.2))]) 2 ?_ (0, f) (show 0 ≤ 19 ∧ (∀ q, q < 0 → f q = f2 (p0 + q)) from ⟨by omega, fun q h => absurd h (by omega)⟩) (lv_sub hl [1, 2, 3, 0] rfl) hP hD hS
  intro a9 hI2 ih2 ls H locs hl hP hD hS
  obtain ⟨j, g⟩ := a9
  have hI2 : j ≤ 19 ∧ (∀ q, q < j → g q = f2 (p0 + q)) := hI2
  obtain ⟨ij, ig⟩ := hI2
  have hl : lv_has ls 4 [(0, .ref c2), (1, .int (nI p0)), (2, .ref a), (3, .int (nI j))] := hl
  have hP : va_P D vwCl [(c2, .inl (cT 0, N, .inl f2)), (a, .inl (cT 0, 19, .inl g))] _ := hP
  have hD : va_D A [(c2, .inl (cT 0, N, .inl f2)), (a, .inl (cT 0, 19, .inl g))] := hD
  refine lv_iload_n hx hb dM_loadLows_2 rfl (lv_at hl 3 rfl) ?_
  refine lv_bipush (v := 19) hx hb dM_loadLows_3 (by decide) ?_
  refine lv_icmp_ge (tgt := 22) hx hb dM_loadLows_5 rfl (fun h1 => ?_) (fun h1 => ?_)
  · have gh1 : 19 ≤ j := (nI_leI (a := 19) (b := j) (by omega) (by omega)).mp h1
    have hP9 := hP.sub (ws' := [(c2, .inl (cT 0, N, .inl f2)), (a, .inl (cT 0, 19, .inl g))]) [0, 1] rfl
    have hD9 := hD.sub (ws' := [(c2, .inl (cT 0, N, .inl f2)), (a, .inl (cT 0, 19, .inl g))]) [0, 1] (by decide) rfl
    refine W.widen (k := 0) (n := 0) (Nat.le_of_ble_eq_true rfl) (Nat.le_of_ble_eq_true rfl) ?_
    exact W.vret hx hb hr (fun t9 ht9 hW9 => ⟨⟨g, rfl, (show ∀ q8, q8 < 19 → g q8 = f2 (p0 + q8) from fun q hq => ig q (by omega)), by rw [ht9]; exact hP9, hD9⟩, hS.F ht9⟩) hS.2.2 dM_loadLows_22
  · have gh1 : j < 19 := Nat.not_le.mp (fun q => h1 ((nI_leI (a := 19) (b := j) (by omega) (by omega)).mpr q))
    refine lv_aload_n hx hb dM_loadLows_8 rfl (lv_at hl 2 rfl) ?_
    refine lv_iload_n hx hb dM_loadLows_9 rfl (lv_at hl 3 rfl) ?_
    refine lv_aload_n hx hb dM_loadLows_10 rfl (lv_at hl 0 rfl) ?_
    refine lv_iload_n hx hb dM_loadLows_11 rfl (lv_at hl 1 rfl) ?_
    refine lv_iload_n hx hb dM_loadLows_12 rfl (lv_at hl 3 rfl) ?_
    refine lv_iadd hx hb dM_loadLows_13 ?_
    refine lv_topi (fun y9 e9 => ?_)
    cases (show y9 = nI (p0 + j) from e9.trans (nI_add p0 j))
    refine lq_iald (j := p0 + j) hx hb hK hP 0 0 rfl rfl rfl (by omega) (by omega) dM_loadLows_14 ?_
    refine lq_iast (j := j) hx hb hK hP hD hS 1 0 rfl rfl rfl (by omega) (by omega) dM_loadLows_15 (fun H locs hP hD hS => ?_)
    have hP : va_P D vwCl [(c2, .inl (cT 0, N, .inl f2)), (a, .inl (cT 0, 19, .inl (upd g j (f2 (p0 + j)))))] _ := hP
    have hD : va_D A [(c2, .inl (cT 0, N, .inl f2)), (a, .inl (cT 0, 19, .inl (upd g j (f2 (p0 + j)))))] := hD
    refine lv_iinc (k := 3) (v := nI (j + 1)) hx hb dM_loadLows_16 hl rfl (nI_1 j) (by decide) rfl (fun ls hl => ?_)
    have hl : lv_has ls 4 [(3, .int (nI (j + 1))), (0, .ref c2), (1, .int (nI p0)), (2, .ref a)] := hl
    refine lv_goto (tgt := 2) hx hb dM_loadLows_19 rfl ?_
    exact ih2 (j + 1, upd g j (f2 (p0 + j))) (show (j + 1) ≤ 19 ∧ (∀ q, q < (j + 1) → (upd g j (f2 (p0 + j))) q = f2 (p0 + q)) from ⟨by omega, fun q h => (by by_cases r : q = j; (subst r; exact pk_us); (exact (pk_un r).trans (ig q (by omega))))⟩) (show 19 - (j + 1) < 19 - j from (by omega)) ls H locs (lv_sub hl [1, 2, 3, 0] rfl) hP hD hS
set_option maxHeartbeats 4000000 in
set_option maxRecDepth 100000 in
theorem m_zero (l : Launch) (D : va_G) (cT : Nat → ClassId) (a : Nat) (f : Nat → Int32) (sz : Nat) : Met l yM_zero WM_zero ({ frames := 0, cells := 0, slots := 0, locals := 0 } : Room) (RW D vwCl [.ref a] [(a, .inl (cT 0, 19, .inl f))] (TY cT) sz) (va_Qv (fun u9 : (Nat → Int32) => ∀ q8, q8 < 19 → u9 q8 = 0) (BW D vwCl (va_A [(a, .inl (cT 0, 19, .inl f))] sz) (fun u9 : (Nat → Int32) => [(a, .inl (cT 0, 19, .inl u9))])) (va_A [(a, .inl (cT 0, 19, .inl f))] sz)) 0 0 (va_A [(a, .inl (cT 0, 19, .inl f))] sz) := by
  refine Met.ofW (cc := cM_zero) (maxL := 2) (ret := none) (by decide) rfl ?_
  intro p e s m args below meth c s₁ B hml hv
  obtain ⟨rfl, hsz, hZ, hP, hK, hD0⟩ := hv
  have hx := B.exec
  have hb := B.bytes
  have hr := B.returns
  have hts := atoms_spec (ws := WM_zero) B.pre
  have hT : ∀ w ∈ TB, w.before _ s = true := fun w h => hts w (List.mem_cons_of_mem _ h)
  have hown : s.vm.findClass R_M = some m.cls := findClass_of_methodNamed B.named
  have hlocks := B.notSynchronized
  subst hsz
  have hD := hD0.self (sz := s.heap.size)
  generalize hAe : va_A [(a, .inl (cT 0, 19, .inl f))] s.heap.size = A at hD hZ ⊢
  have hA : ∀ q : Nat, s.heap.size ≤ q → A q := fun q h => by rw [← hAe]; exact Or.inr h
  have hS : va_S A s.heap s.heap [] := va_S.rf
  have hl := lv_entry ([.ref a]) (n := 2) (Nat.le_of_ble_eq_true rfl)
  rw [lg_entry_eq]
  generalize (lg_sl ([.ref a]) ++ List.replicate (2 - (lg_sl ([.ref a])).length) Slot.unset).toArray = ls at hl ⊢
  have hl : lv_has ls 2 [(0, .ref a)] := hl
  refine lv_iconst (v := 0) hx hb dM_zero_0 (by decide) ?_
  refine lv_istore_n hx hb dM_zero_1 rfl hl (by decide) rfl (fun ls hl => ?_)
  have hl : lv_has ls 2 [(1, .int 0), (0, .ref a)] := hl
  refine lp_w (α := Nat × (Nat → Int32)) (fun a9 => a9.1 ≤ 19 ∧ (∀ q, q < a9.1 → a9.2 q = 0)) (fun a9 => 19 - a9.1) (fun a9 => [(0, .ref a), (1, .int (nI a9.1))]) (fun a9 => [(a, .inl (cT 0, 19, .inl a9.2))]) 2 ?_ (0, f) (show 0 ≤ 19 ∧ (∀ q, q < 0 → f q = 0) from ⟨by omega, fun q h => absurd h (by omega)⟩) (lv_sub hl [1, 0] rfl) hP hD hS
  intro a9 hI2 ih2 ls H locs hl hP hD hS
  obtain ⟨j, g⟩ := a9
  have hI2 : j ≤ 19 ∧ (∀ q, q < j → g q = 0) := hI2
  obtain ⟨ij, ig⟩ := hI2
  have hl : lv_has ls 2 [(0, .ref a), (1, .int (nI j))] := hl
  have hP : va_P D vwCl [(a, .inl (cT 0, 19, .inl g))] _ := hP
  have hD : va_D A [(a, .inl (cT 0, 19, .inl g))] := hD
  refine lv_iload_n hx hb dM_zero_2 rfl (lv_at hl 1 rfl) ?_
  refine lv_bipush (v := 19) hx hb dM_zero_3 (by decide) ?_
  refine lv_icmp_ge (tgt := 18) hx hb dM_zero_5 rfl (fun h1 => ?_) (fun h1 => ?_)
  · have gh1 : 19 ≤ j := (nI_leI (a := 19) (b := j) (by omega) (by omega)).mp h1
    have hP9 := hP.sub (ws' := [(a, .inl (cT 0, 19, .inl g))]) [0] rfl
    have hD9 := hD.sub (ws' := [(a, .inl (cT 0, 19, .inl g))]) [0] (by decide) rfl
    refine W.widen (k := 0) (n := 0) (Nat.le_of_ble_eq_true rfl) (Nat.le_of_ble_eq_true rfl) ?_
    exact W.vret hx hb hr (fun t9 ht9 hW9 => ⟨⟨g, rfl, (show ∀ q8, q8 < 19 → g q8 = 0 from fun q hq => ig q (by omega)), by rw [ht9]; exact hP9, hD9⟩, hS.F ht9⟩) hS.2.2 dM_zero_18
  · have gh1 : j < 19 := Nat.not_le.mp (fun q => h1 ((nI_leI (a := 19) (b := j) (by omega) (by omega)).mpr q))
    refine lv_aload_n hx hb dM_zero_8 rfl (lv_at hl 0 rfl) ?_
    refine lv_iload_n hx hb dM_zero_9 rfl (lv_at hl 1 rfl) ?_
    refine lv_iconst (v := 0) hx hb dM_zero_10 (by decide) ?_
    refine lq_iast (j := j) hx hb hK hP hD hS 0 0 rfl rfl rfl (by omega) (by omega) dM_zero_11 (fun H locs hP hD hS => ?_)
    have hP : va_P D vwCl [(a, .inl (cT 0, 19, .inl (upd g j 0)))] _ := hP
    have hD : va_D A [(a, .inl (cT 0, 19, .inl (upd g j 0)))] := hD
    refine lv_iinc (k := 1) (v := nI (j + 1)) hx hb dM_zero_12 hl rfl (nI_1 j) (by decide) rfl (fun ls hl => ?_)
    have hl : lv_has ls 2 [(1, .int (nI (j + 1))), (0, .ref a)] := hl
    refine lv_goto (tgt := 2) hx hb dM_zero_15 rfl ?_
    exact ih2 (j + 1, upd g j 0) (show (j + 1) ≤ 19 ∧ (∀ q, q < (j + 1) → (upd g j 0) q = 0) from ⟨by omega, fun q h => (by by_cases r : q = j; (subst r; exact pk_us); (exact (pk_un r).trans (ig q (by omega))))⟩) (show 19 - (j + 1) < 19 - j from (by omega)) ls H locs (lv_sub hl [1, 0] rfl) hP hD hS
