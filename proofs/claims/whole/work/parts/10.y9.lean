/-! the kept table brought back by the reference -/
section Y9
variable {T : zTab} {m : zMem}
def fB6 : zEx := fun c _ k => (Nat.beq c 64 && Nat.ble k 5) || (Nat.ble 66 c && Nat.ble c 70)
theorem fr_B6 {x : Nat} (hx : 66 ≤ x ∧ x ≤ 70) {a b : zMem} (q : fr (fun y _ _ => Nat.beq y x) e0 a b) : fr fB6 e0 a b := fr_mono q (fun y j k w => by
  by_cases e : y = x
  · subst e
    unfold fB6 at w
    rw [Nat.ble_eq.mpr hx.1, Nat.ble_eq.mpr hx.2] at w; simp at w
  · exact beqf e) (fun _ _ _ _ => rfl)
theorem all80_back (hT : tKp T (m.1 80 0)) (hn : tn T ≤ 10) : ∃ m', s_X7_all_80 1 m = some m' ∧ tR T m' ∧ m'.1 64 0 3 = m.1 80 0 53 ∧ m'.1 64 0 4 = m.1 80 0 54 ∧ m'.1 64 0 5 = m.1 80 0 55 ∧ fr fB6 e0 m m' := by
  obtain ⟨m1, a1, a2, a4⟩ := carO66_80 (show 0 ≤ 40 by omega) m
  obtain ⟨m2, b1, b2, b4⟩ := carO67_80 (show 10 ≤ 40 by omega) m1
  obtain ⟨m3, c1, c2, c4⟩ := carO68_80 (show 20 ≤ 40 by omega) m2
  obtain ⟨m4, d1, d2, d4⟩ := carO69_80 (show 30 ≤ 40 by omega) m3
  obtain ⟨m5, e1, e2, e4⟩ := carO70_80 (show 40 ≤ 40 by omega) m4
  have f5 : fr fB6 e0 m m5 := fr_trans (fr_B6 (by omega) a4) (fr_trans (fr_B6 (by omega) b4) (fr_trans (fr_B6 (by omega) c4) (fr_trans (fr_B6 (by omega) d4) (fr_B6 (by omega) e4))))
  obtain ⟨t1, t2, t3, t4⟩ := hT
  unfold s_X7_all_80
  rw [show s_X7_carries_66_80 10 0 1 m = _ from a1, zb_some, b1, zb_some, c1, zb_some, d1, zb_some, e1, zb_some, if_neg n10]
  have h50 : zi (40 + 10 : Nat) = zi (50 : Nat) := rfl
  rw [h50]
  simp only [show zi (50 : Nat) + (1 : Int32) = zi (51 : Nat) from rfl, show zi (50 : Nat) + (2 : Int32) = zi (52 : Nat) from rfl, show zi (50 : Nat) + (3 : Int32) = zi (53 : Nat) from rfl, show zi (50 : Nat) + (4 : Int32) = zi (54 : Nat) from rfl, show zi (50 : Nat) + (5 : Int32) = zi (55 : Nat) from rfl, chk_zn (show 50 < 60 by decide) (show (60 : Nat) < 2147483648 by decide), chk_zn (show 51 < 60 by decide) (show (60 : Nat) < 2147483648 by decide), chk_zn (show 52 < 60 by decide) (show (60 : Nat) < 2147483648 by decide), chk_zn (show 53 < 60 by decide) (show (60 : Nat) < 2147483648 by decide), chk_zn (show 54 < 60 by decide) (show (60 : Nat) < 2147483648 by decide), chk_zn (show 55 < 60 by decide) (show (60 : Nat) < 2147483648 by decide), ix_zn (show 50 < 2147483648 by decide), ix_zn (show 51 < 2147483648 by decide), ix_zn (show 52 < 2147483648 by decide), ix_zn (show 53 < 2147483648 by decide), ix_zn (show 54 < 2147483648 by decide), ix_zn (show 55 < 2147483648 by decide), zlet_eq]
  have x : ∀ j, m5.1 80 0 j = m.1 80 0 j := fun j => f5.1 80 0 j rfl
  refine ⟨_, rfl, ⟨?_, ?_, ?_, fun g hg => ?_⟩, ?_, ?_, ?_, fr_wI (fr_wI (fr_wI (fr_wI (fr_wI (fr_wI f5 rfl) rfl) rfl) rfl) rfl) rfl⟩
  · simp [wI_1, x, t1]
  · simp [wI_1, x, t2]
  · simp [wI_1, x, t3]
  · obtain ⟨g1, g2, g3, g4, g5⟩ := t4 g hg
    have a2' := a2 g (by omega)
    rw [Nat.zero_add] at a2'
    refine ⟨?_, ?_, ?_, ?_, ?_⟩
    · simp [wI_1]; rw [e4.1 66 0 g rfl, d4.1 66 0 g rfl, c4.1 66 0 g rfl, b4.1 66 0 g rfl, a2', g1]
    · simp [wI_1]; rw [e4.1 68 0 g rfl, d4.1 68 0 g rfl, c2 g (by omega), b4.1 80 0 _ rfl, a4.1 80 0 _ rfl, g2]
    · simp [wI_1]; rw [e4.1 67 0 g rfl, d4.1 67 0 g rfl, c4.1 67 0 g rfl, b2 g (by omega), a4.1 80 0 _ rfl, g3]
    · simp [wI_1]; rw [e4.1 69 0 g rfl, d2 g (by omega), c4.1 80 0 _ rfl, b4.1 80 0 _ rfl, a4.1 80 0 _ rfl, g4]
    · simp [wI_1]; rw [e2 g (by omega), d4.1 80 0 _ rfl, c4.1 80 0 _ rfl, b4.1 80 0 _ rfl, a4.1 80 0 _ rfl, g5]
  · simp [wI_1, x]
  · simp [wI_1, x]
  · simp [wI_1, x]
end Y9
