theorem cz_pos {x y : Int} : 0 < cz x y ↔ y < x := by
  rcases Int.lt_trichotomy x y with h | h | h
  · rw [cz_lt h]; exact ⟨fun q => absurd q (by decide), fun q => absurd q (by omega)⟩
  · rw [cz_rf h]; exact ⟨fun q => absurd q (by decide), fun q => absurd q (by omega)⟩
  · rw [cz_gt h]; exact ⟨fun _ => h, fun _ => by decide⟩
