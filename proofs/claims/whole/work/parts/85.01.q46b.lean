theorem lwi_kin {cT : Nat → ClassId} {ad : Nat → Nat} {g2 : Nat → Option va_E} {tE T fm : Nat} {mk : Nat → Nat} {F : TFR} {n wd dpt lst w ru rl : Nat} {ne : Nat → Nat} {Lo : Nat} {yi yi2 : Nat → Int32} {ysb : Int64} {yA yA2 : Nat → Nat → Int32} {c0 : Nat} {v : Int32} {fo : Nat → Int32} (hR : RFI F T n wd dpt lst w ru rl ne Lo yi yA fo) (hP : PUI T fm F n wd (yA 5) (yA 7) (yA 6) ne (yA 4) dpt lst w ru rl Lo) (hv : v = 0 ∨ v = 1) (hK : v = 0 ∨ KAL (yA 5) c0 n) (hy : ∀ k, k ≠ 1 → yi2 k = yi k) (q6 : yA2 6 = upd (yA 6) c0 v) (q8 : yA2 8 = upd (yA 8) c0 0) (qo : ∀ k, k ≠ 6 → k ≠ 8 → yA2 k = yA k) (hC : CLI cT ad g2 tE T fm mk F n wd (yA 5) (yA 9) (yA 7) (upd (yA 6) c0 v) (va_up ne c0 0) (yA 4) dpt lst w ru rl ysb (yi 16) Lo fo) : LWI cT ad g2 tE T fm mk F n wd dpt lst w ru rl (va_up ne c0 0) Lo yi2 ysb yA2 := by
  obtain ⟨y2, y3, y10, y11, y12, y13, y14, y17, y47, y55, y8e, y18e, hRFN, hPR, hfoy⟩ := hR
  obtain ⟨hTf, hT16, hn48, hwd6, hdp4, hls2, hw20, hr9, hLo, hne, hik, hTOK, hS9, hVk, hVb, htg, hSEP, hSV7⟩ := hP
  refine ⟨fo, ?_, ?_, ?_⟩
  · rw [qo 5 (by decide) (by decide), qo 9 (by decide) (by decide), qo 7 (by decide) (by decide), q6, qo 4 (by decide) (by decide), hy 16 (by decide)]; exact hC
  · unfold RFI
    rw [q8, qo 18 (by decide) (by decide), qo 27 (by decide) (by decide), qo 28 (by decide) (by decide), qo 0 (by decide) (by decide), qo 48 (by decide) (by decide), hy 2 (by decide), hy 3 (by decide), hy 10 (by decide), hy 11 (by decide), hy 12 (by decide), hy 13 (by decide), hy 14 (by decide), hy 17 (by decide), hy 47 (by decide), hy 55 (by decide)]
    exact ⟨y2, y3, y10, y11, y12, y13, y14, y17, y47, y55, kin_em y8e pk_us (fun q hq9 => pk_un hq9), y18e, hRFN, hPR, hfoy⟩
  · rw [qo 5 (by decide) (by decide), qo 7 (by decide) (by decide), q6, qo 4 (by decide) (by decide)]
    exact ⟨hTf, hT16, hn48, hwd6, hdp4, hls2, hw20, hr9, hLo, kin_ne hne (Nat.zero_le _), kin_ik hik hv, hTOK, kin_S9 hS9, kin_Vk hK hVk, hVb, htg, hSEP, hSV7⟩
theorem tl_0 : Int32.toInt64 0 = (0 : Int64) := by decide +kernel
theorem tl_1 : Int32.toInt64 1 = (1 : Int64) := by decide +kernel
