set_option maxHeartbeats 4000000 in
set_option maxRecDepth 100000 in
theorem k_newLen (l : Launch) (D : va_G) (cT : Nat → ClassId) (nl1 : Nat) (nl2 : Nat) (nl3 : Nat) (hn1 : nl1 < 1000000) (hn2 : 0 < nl2 ∧ nl2 < 1000000) (hn3 : nl3 < 1000000) : Met l yAs_newLength WAs_newLength ({ frames := 1, cells := 0, slots := 0, locals := 21 } : Room) (RO D vwCl [.int (nI nl1), .int (nI nl2), .int (nI nl3)] [] (TY cT)) (QcRead (nI (nl1 + max nl2 nl3))) 0 0 (fun _ => False) := by
  refine Met.ofW (cc := cAs_newLength) (maxL := 4) (ret := (some .int)) (by decide) rfl ?_
  intro p e s m args below meth c s₁ B hml hv
  obtain ⟨rfl, hZ, hP, hK⟩ := hv
  have hx := B.exec
  have hb := B.bytes
  have hr := B.returns
  have hts := atoms_spec (ws := WAs_newLength) B.pre
  have hT : ∀ w ∈ TB, w.before _ s = true := fun w h => hts w (List.mem_cons_of_mem _ h)
  have hown : s.vm.findClass R_As = some m.cls := findClass_of_methodNamed B.named
  have hlocks := B.notSynchronized
  have hS : va_S (fun _ => False) s.heap s.heap [] := va_S.rf
  have hl := lv_entry ([.int (nI nl1), .int (nI nl2), .int (nI nl3)]) (n := 4) (Nat.le_of_ble_eq_true rfl)
  rw [lg_entry_eq]
  generalize (lg_sl ([.int (nI nl1), .int (nI nl2), .int (nI nl3)]) ++ List.replicate (4 - (lg_sl ([.int (nI nl1), .int (nI nl2), .int (nI nl3)])).length) Slot.unset).toArray = ls at hl ⊢
  have hl : lv_has ls 4 [(0, .int (nI nl1)), (1, .int (nI nl2)), (2, .int (nI nl3))] := hl
  refine lv_iload_n hx hb dAs_newLength_0 rfl (lv_at hl 0 rfl) ?_
  refine lv_iload_n hx hb dAs_newLength_1 rfl (lv_at hl 1 rfl) ?_
  refine lv_iload_n hx hb dAs_newLength_2 rfl (lv_at hl 2 rfl) ?_
  refine va_mmax hx hb (hml.trans hl.1.symm) hown (hT _ w773) (hT _ w774) (hT _ w22) (hT _ w775) (Nat.le_of_ble_eq_true rfl) (Nat.le_of_ble_eq_true rfl) (Nat.le_of_ble_eq_true rfl) (Nat.le_of_ble_eq_true rfl) dAs_newLength_3 ?_
  refine lv_topi (fun y9 e9 => ?_)
  cases (show y9 = nI (max nl2 nl3) from e9.trans (mmax_nI (a := nl2) (b := nl3) (by omega) (by omega)))
  refine lv_iadd hx hb dAs_newLength_6 ?_
  refine lv_topi (fun y9 e9 => ?_)
  cases (show y9 = nI (nl1 + (max nl2 nl3)) from e9.trans (nI_add nl1 (max nl2 nl3)))
  refine lv_istore_n hx hb dAs_newLength_7 rfl hl (by decide) rfl (fun ls hl => ?_)
  have hl : lv_has ls 4 [(3, .int (nI (nl1 + (max nl2 nl3)))), (0, .int (nI nl1)), (1, .int (nI nl2)), (2, .int (nI nl3))] := hl
  refine lv_iconst (v := 0) hx hb dAs_newLength_8 (by decide) ?_
  refine lv_iload_n hx hb dAs_newLength_9 rfl (lv_at hl 0 rfl) ?_
  refine lv_icmp_ge (tgt := 21) hx hb dAs_newLength_10 rfl (fun h1 => absurd h1 (fun q => absurd ((nI_leI (a := nl1 + max nl2 nl3) (b := 0) (by omega) (by omega)).mp q) (by omega))) (fun _ => ?_)
  refine lv_iload_n hx hb dAs_newLength_13 rfl (lv_at hl 0 rfl) ?_
  refine lv_ldc (v := 2147483639) hx hb hown (hT _ w776) dAs_newLength_14 ?_
  refine lv_icmp_gt (tgt := 21) hx hb dAs_newLength_16 rfl (fun h2 => absurd h2 (fun q => absurd ((nI_ltI (a := 2147483639) (b := nl1 + max nl2 nl3) (by omega) (by omega)).mp q) (by omega))) (fun _ => ?_)
  refine lv_iload_n hx hb dAs_newLength_19 rfl (lv_at hl 0 rfl) ?_
  exact W.iret (v := nI (nl1 + (max nl2 nl3))) hx hb hr (fun t9 ht9 hW9 => ⟨rfl, ht9⟩) (fun q h => nomatch h) dAs_newLength_20
