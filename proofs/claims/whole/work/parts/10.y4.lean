/-! a table taken over by another of the class's -/
section Y4
variable {T : zTab} {m : zMem}
theorem cpy10 (f g : Nat → Int32) (k : Nat) (hk : k < 10) : va_cpy f g (ix 0) (ix 0) (ix 10) k = f k := by
  have e0 : ix 0 = 0 := rfl
  have e1 : ix 10 = 10 := rfl
  rw [e0, e1]
  unfold va_cpy
  simp [hk]
theorem takeOver_C {t u : Nat} (hT : tC u T m) (hn : tn T ≤ 10) (htu : t ≠ u) : ∃ m', s_X5_takeOver t u m = some m' ∧ tC t T m' ∧ fr (fT t) e0 m m' ∧ m'.1 1 t 8 = m.1 1 u 8 ∧ m'.1 1 t 9 = m.1 1 u 9 ∧ m'.1 1 t 10 = m.1 1 u 10 := by
  obtain ⟨a1, a2, a3, a4⟩ := hT
  have hut : ¬ u = t := fun e => htu e.symm
  unfold s_X5_takeOver
  simp only [zlet_eq]
  have fs : ∀ (m1 : zMem) (x : Nat) (g : Nat → Int32), 1 ≤ x ∧ x ≤ 6 → fr (fT t) e0 m m1 → fr (fT t) e0 m (wIs m1 x t g) := fun m1 x g hx h => fr_trans h ⟨fun c j k q => by
    rw [wIs_1]
    split
    · rename_i e
      obtain ⟨rfl, rfl⟩ := e
      unfold fT at q
      rw [Nat.ble_eq.mpr hx.1, Nat.ble_eq.mpr hx.2] at q
      simp at q
    · rfl, fun _ _ _ _ => rfl⟩
  refine ⟨_, rfl, ⟨by simp [wI_1, wIs_1, a1], by simp [wI_1, wIs_1, a2], by simp [wI_1, wIs_1, a3], fun g hg => ?_⟩, ?_, by simp [wI_1, wIs_1], by simp [wI_1, wIs_1], by simp [wI_1, wIs_1]⟩
  · obtain ⟨b1, b2, b3, b4, b5⟩ := a4 g hg
    have hg10 : g < 10 := by omega
    refine ⟨?_, ?_, ?_, ?_, ?_⟩ <;> simp [wI_1, wIs_1, cpy10 _ _ g hg10, b1, b2, b3, b4, b5]
  · refine fr_wI (fr_wI (fr_wI (fr_wI (fr_wI (fr_wI (fs _ 6 _ (by omega) (fs _ 5 _ (by omega) (fs _ 4 _ (by omega) (fs _ 3 _ (by omega) (fs _ 2 _ (by omega) (fr_refl _ _ _)))))) ?_) ?_) ?_) ?_) ?_) ?_ <;> simp [fT]
end Y4
