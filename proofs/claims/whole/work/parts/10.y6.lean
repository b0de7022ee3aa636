/-! OPS: image -/
section Y6
variable {T : zTab} {c r m : zMem}
def f80 : zEx := fun c _ _ => Nat.beq c 80
theorem all80_R (hT : tR T m) (hn : tn T ≤ 10) : ∃ m', s_X7_all_80 0 m = some m' ∧ tKp T (m'.1 80 0) ∧ m'.1 80 0 53 = m.1 64 0 3 ∧ m'.1 80 0 54 = m.1 64 0 4 ∧ m'.1 80 0 55 = m.1 64 0 5 ∧ fr f80 e0 m m' := by
  obtain ⟨m1, a1, a2, a3, a4⟩ := carI66 (show 0 ≤ 40 by omega) m
  obtain ⟨m2, b1, b2, b3, b4⟩ := carI67 (show 10 ≤ 40 by omega) m1
  obtain ⟨m3, c1, c2, c3, c4⟩ := carI68 (show 20 ≤ 40 by omega) m2
  obtain ⟨m4, d1, d2, d3, d4⟩ := carI69 (show 30 ≤ 40 by omega) m3
  obtain ⟨m5, e1, e2, e3, e4⟩ := carI70 (show 40 ≤ 40 by omega) m4
  have f5 : fr f80 e0 m m5 := fr_trans a4 (fr_trans b4 (fr_trans c4 (fr_trans d4 e4)))
  obtain ⟨t1, t2, t3, t4⟩ := hT
  unfold s_X7_all_80
  rw [show s_X7_carries_66_80 10 0 0 m = _ from a1, zb_some, b1, zb_some, c1, zb_some, d1, zb_some, e1, zb_some, if_pos rfl]
  have k : ∀ j : Nat, j ≤ 5 → ix (zi (40 + 10 + j : Nat)) = 50 + j := fun j hj => by rw [ix_zn (by omega)]
  have h50 : zi (40 + 10 : Nat) = zi (50 : Nat) := rfl
  rw [h50]
  simp only [show zi (50 : Nat) + (1 : Int32) = zi (51 : Nat) from rfl, show zi (50 : Nat) + (2 : Int32) = zi (52 : Nat) from rfl, show zi (50 : Nat) + (3 : Int32) = zi (53 : Nat) from rfl, show zi (50 : Nat) + (4 : Int32) = zi (54 : Nat) from rfl, show zi (50 : Nat) + (5 : Int32) = zi (55 : Nat) from rfl, chk_zn (show 50 < 60 by decide) (show (60 : Nat) < 2147483648 by decide), chk_zn (show 51 < 60 by decide) (show (60 : Nat) < 2147483648 by decide), chk_zn (show 52 < 60 by decide) (show (60 : Nat) < 2147483648 by decide), chk_zn (show 53 < 60 by decide) (show (60 : Nat) < 2147483648 by decide), chk_zn (show 54 < 60 by decide) (show (60 : Nat) < 2147483648 by decide), chk_zn (show 55 < 60 by decide) (show (60 : Nat) < 2147483648 by decide), ix_zn (show 50 < 2147483648 by decide), ix_zn (show 51 < 2147483648 by decide), ix_zn (show 52 < 2147483648 by decide), ix_zn (show 53 < 2147483648 by decide), ix_zn (show 54 < 2147483648 by decide), ix_zn (show 55 < 2147483648 by decide), zlet_eq]
  have x : ∀ j, m5.1 64 0 j = m.1 64 0 j := fun j => f5.1 64 0 j rfl
  refine ⟨_, rfl, ⟨?_, ?_, ?_, fun g hg => ?_⟩, ?_, ?_, ?_, fr_wI (fr_wI (fr_wI (fr_wI (fr_wI (fr_wI f5 rfl) rfl) rfl) rfl) rfl) rfl⟩
  · simp [wI_1, x, t1]
  · simp [wI_1, x, t2]
  · simp [wI_1, x, t3]
  · obtain ⟨g1, g2, g3, g4, g5⟩ := t4 g hg
    have n : ∀ i, i < 50 → ∀ v0 v1 v2 v3 v4 v5, (wI (wI (wI (wI (wI (wI m5 80 0 50 v0) 80 0 51 v1) 80 0 52 v2) 80 0 53 v3) 80 0 54 v4) 80 0 55 v5).1 80 0 i = m5.1 80 0 i := fun i hi v0 v1 v2 v3 v4 v5 => by
      rw [wI_1, if_neg (by omega), wI_1, if_neg (by omega), wI_1, if_neg (by omega), wI_1, if_neg (by omega), wI_1, if_neg (by omega), wI_1, if_neg (by omega)]
    refine ⟨?_, ?_, ?_, ?_, ?_⟩
    · rw [n g (by omega), e3 g (by omega), d3 g (by omega), c3 g (by omega), b3 g (by omega)]
      have := a2 g (by omega); rw [Nat.zero_add] at this; rw [this, g1]
    · rw [n (20 + g) (by omega), e3 _ (by omega), d3 _ (by omega), c2 g (by omega), b4.1 68 0 g rfl, a4.1 68 0 g rfl, g2]
    · rw [n (10 + g) (by omega), e3 _ (by omega), d3 _ (by omega), c3 _ (by omega), b2 g (by omega), a4.1 67 0 g rfl, g3]
    · rw [n (30 + g) (by omega), e3 _ (by omega), d2 g (by omega), c4.1 69 0 g rfl, b4.1 69 0 g rfl, a4.1 69 0 g rfl, g4]
    · rw [n (40 + g) (by omega), e2 g (by omega), d4.1 70 0 g rfl, c4.1 70 0 g rfl, b4.1 70 0 g rfl, a4.1 70 0 g rfl, g5]
  · simp [wI_1, x]
  · simp [wI_1, x]
  · simp [wI_1, x]
end Y6
