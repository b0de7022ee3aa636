/-! OPS: set; a shelf that must hold a row -/
section X8
variable {T : zTab} {c r c' r' : zMem}
theorem row2 (h : Rel T c r) (a : Int32) : (∃ s o l, s < 8 ∧ a = zi (s : Nat) ∧ shR s o l c r ∧ s_X6_refusalOfRow a c = some 0 ∧ s_X7_needed a r = some 0) ∨ ∃ k : Nat, 1 ≤ k ∧ k ≤ 3 ∧ s_X6_refusalOfRow a c = some (zi (-(k : Int))) ∧ s_X7_needed a r = some (zi (-(k : Int))) := by
  have hn := h.1.1
  unfold s_X6_refusalOfRow s_X7_needed s_X4_holdsGuest s_X4_isEmpty
  rcases (shelf2 a).symm with ⟨s3, s4⟩ | ⟨s, s1, s2, s3, s4⟩
  · rw [s3, s4]; exact Or.inr ⟨1, by omega, by omega, rfl, rfl⟩
  subst s2
  rw [s3, s4, zr_some, zr_some, ite_10, ite_10, chk_zn s1 (by decide), chk_zn s1 (by decide), ix_zn (by omega)]
  rcases h.2.2.2.2.2.1 s s1 with ⟨a1, a2, a3⟩ | ⟨g, a0, a1, a2, a3, a4⟩ | ⟨o, l, q⟩
  · rw [a1, a3]; exact Or.inr ⟨3, by omega, by omega, rfl, rfl⟩
  · rw [a1, a3, if_neg (fun w => by have := (lt0 (by omega) (by omega)).mp w; omega), if_neg (fun w => by rw [show (100 : Int32) = zi (100 : Nat) from rfl, zi_len (by omega) (by omega)] at w; omega)]
    exact Or.inr ⟨2, by omega, by omega, rfl, rfl⟩
  · have q' := q
    obtain ⟨o3, l1, a1, a2, a3, a4, a5, a6⟩ := q
    rw [a1, a3, if_neg (fun w => by have := (lt0 (by omega) (by omega)).mp w; omega), if_pos (by rw [show (100 : Int32) = zi (100 : Nat) from rfl, zi_len (by omega) (by omega)]; omega), zr_some, ite_00, if_neg (fun w => by rw [li_m1, zi_eq (by omega) (by omega) (by omega) (by omega)] at w; omega), zr_some, ite_00, if_neg n12, if_neg n1z]
    exact Or.inl ⟨s, o, l, s1, rfl, q', rfl, rfl⟩
/-- one element put -/
theorem put2 (h : Rel T c r) {s o l i : Nat} (hs : s < 8) (hq : shR s o l c r) (hi : i < l) (v : Int64) : Rel T (wL c 9 s i v) (wL r 75 0 (160 * s + i) v) := by
  obtain ⟨o3, l1, a1, a2, a3, a4, a5, a6⟩ := hq
  have hg : gS' s 75 0 (160 * s + i) = true := by
    unfold gS'
    rw [Nat.ble_eq.mpr (show 160 * s ≤ 160 * s + i by omega), Nat.blt_eq.mpr (show 160 * s + i < 160 * s + 160 by omega)]; rfl
  refine Rel_sh (s := s) (fr_wL (fr_refl _ _ _) (by simp [gS])) (fr_wL (fr_refl _ _ _) hg) h (Or.inr (Or.inr ⟨o, l, o3, l1, a1, a2, a3, a4, a5, fun j hj => ?_⟩))
  rw [wL_2, wL_2]
  by_cases e : j = i
  · subst e; rw [if_pos ⟨rfl, rfl, rfl⟩, if_pos ⟨rfl, rfl, rfl⟩]
  · rw [if_neg (fun w => e w.2.2), if_neg (fun w => e (by omega))]
    exact a6 j hj
theorem isS (s : Nat) (hs : s < 8) : s_X6_isShelf (zi (s : Nat)) = some 1 ∧ s_X7_isShelf (zi (s : Nat)) = some 1 := by
  have key : ∀ s, s < 8 → s_X6_isShelf (zi (s : Nat)) = some 1 ∧ s_X7_isShelf (zi (s : Nat)) = some 1 := by decide
  exact key s hs
theorem refE {s : Nat} (hs : s < 8) (q : shE s c r) : s_X6_refusalOfRow (zi s) c = some (-3) := by
  unfold s_X6_refusalOfRow s_X4_holdsGuest s_X4_isEmpty
  rw [(isS s hs).1, zr_some, ite_10, chk_zn hs (by decide), ix_zn (by omega), q.1]
  rfl
theorem refG {n s g : Nat} (hs : s < 8) (hn : n ≤ 10) (q : shG n s g c r) : s_X6_refusalOfRow (zi s) c = some (-2) := by
  have h1 := q.1
  unfold s_X6_refusalOfRow s_X4_holdsGuest s_X4_isEmpty
  rw [(isS s hs).1, zr_some, ite_10, chk_zn hs (by decide), ix_zn (by omega), q.2.1, if_neg (fun w => by have := (lt0 (by omega) (by omega)).mp w; omega), if_neg (fun w => by rw [show (100 : Int32) = zi (100 : Nat) from rfl, zi_len (by omega) (by omega)] at w; omega)]
  rfl
theorem refR {s o l : Nat} (hs : s < 8) (q : shR s o l c r) : s_X6_refusalOfRow (zi s) c = some 0 := by
  obtain ⟨o3, l1, a1, a2, a3, a4, a5, a6⟩ := q
  unfold s_X6_refusalOfRow s_X4_holdsGuest s_X4_isEmpty
  rw [(isS s hs).1, zr_some, ite_10, chk_zn hs (by decide), ix_zn (by omega), a1, if_neg (fun w => by have := (lt0 (by omega) (by omega)).mp w; omega), if_pos (by rw [show (100 : Int32) = zi (100 : Nat) from rfl, zi_len (by omega) (by omega)]; omega), zr_some, ite_00, if_neg (fun w => by rw [li_m1, zi_eq (by omega) (by omega) (by omega) (by omega)] at w; omega), zr_some, ite_00]
theorem put_C {s o l i : Nat} (q : shR s o l c r) (hi : i < l) (v : Int64) : s_X4_put s (zi i) v c = some (wL c 9 s i (if zi (o : Nat) = 0 then Int32.toInt64 (jb (Int64.toInt32 v)) else if zi (o : Nat) = 1 then Int32.toInt64 (js (Int64.toInt32 v)) else if zi (o : Nat) = 2 then Int32.toInt64 (Int64.toInt32 v) else v)) := by
  obtain ⟨o3, l1, a1, a2, a3, a4, a5, a6⟩ := q
  unfold s_X4_put s_X4_has s_X4_kept
  rw [a2, a1, if_neg (fun w => by have := (lt0 (by omega) (by omega)).mp w; omega), if_neg (fun w => by rw [zi_len (by omega) (by omega)] at w; omega), zr_some, ite_10, show zi (100 + o : Nat) - (100 : Int32) = zi (o : Nat) from by rw [show (100 : Int32) = zi (100 : Nat) from rfl, zi_subn (by omega)]; exact congrArg (fun q : Nat => zi q) (by omega)]
  have fin : ∀ w : Int64, zr (some w) (fun r5 => chk (zi (i : Nat)) 160 (zlet (wL c 9 s (ix (zi (i : Nat))) r5) (fun m7 => some m7))) = some (wL c 9 s i w) := fun w => by
    rw [zr_some, chk_zn (show i < 160 by omega) (by decide), zlet_eq, ix_zn (show i < 2147483648 by omega)]
  by_cases e0 : zi (o : Nat) = 0
  · rw [if_pos e0, if_pos e0]; exact fin _
  rw [if_neg e0, if_neg e0]
  by_cases e1 : zi (o : Nat) = 1
  · rw [if_pos e1, if_pos e1]; exact fin _
  rw [if_neg e1, if_neg e1]
  by_cases e2 : zi (o : Nat) = 2
  · rw [if_pos e2, if_pos e2]; exact fin _
  rw [if_neg e2, if_neg e2]
  exact fin _
theorem op_set (h : Rel T c r) (a b : Int32) (v : Int64) : OK2 (s_X6_set a b v c) (s_X7_set a b v r) := by
  have hn := h.1.1
  have R1 := ok2_ref h 1 (by omega) (by omega) (show (-1 : Int32) = zi (-((1 : Nat) : Int)) from rfl)
  have R2 := ok2_ref h 2 (by omega) (by omega) (show (-2 : Int32) = zi (-((2 : Nat) : Int)) from rfl)
  have R3 := ok2_ref h 3 (by omega) (by omega) (show (-3 : Int32) = zi (-((3 : Nat) : Int)) from rfl)
  have R5 := ok2_ref h 5 (by omega) (by omega) (show (-5 : Int32) = zi (-((5 : Nat) : Int)) from rfl)
  unfold s_X6_set s_X7_set s_X7_set_L61
  rcases (shelf2 a).symm with ⟨s3, s4⟩ | ⟨s, s1, s2, s3, s4⟩
  · unfold s_X6_refusalOfRow
    rw [s3, s4]; exact R1
  subst s2
  rw [s4, zr_some, ite_10, chk_zn s1 (by decide), chk_zn s1 (by decide), ix_zn (show s < 2147483648 by omega)]
  rcases h.2.2.2.2.2.1 s s1 with q | ⟨g, q⟩ | ⟨o, l, q⟩
  · rw [refE s1 q, q.2.2, zr_some, if_neg (show ¬ (-3 : Int32) = 0 by decide), if_neg n02, if_pos y00]; exact R3
  · rw [refG s1 hn q, q.2.2.2.1, zr_some, if_neg (show ¬ (-2 : Int32) = 0 by decide), if_pos y22]; exact R2
  · have q' := q
    obtain ⟨o3, l1, a1, a2, a3, a4, a5, a6⟩ := q
    rw [refR s1 q', a3, a4, a5, zr_some, ite_00, if_neg n12, if_neg n1z]
    unfold s_X4_has
    rw [a2]
    rcases rng b l _ rfl (by omega) with ⟨i, i1, i2, i3, i4⟩ | i3 | ⟨i3, i4⟩
    · subst i2
      have hlt : zi (i : Nat) < zi (l : Nat) := (zi_ltn (by omega) (by omega)).mpr i1
      rw [if_neg i3, if_neg i4, zr_some, ite_10, if_neg i3, if_pos hlt, put_C q' i1, zr_some, show (160 : Int32) = zi (160 : Nat) from rfl, zi_muln, zi_addn]
      have fin := fun v => put2 h s1 q' i1 v
      have fr2 : ∀ w : Int64, chk (zi (160 * s + i : Nat)) 1280 (zlet (wL r 75 0 (ix (zi (160 * s + i : Nat))) w) (fun m => some ((1 : Int32), m))) = some (1, wL r 75 0 (160 * s + i) w) := fun w => by
        rw [chk_zn (show 160 * s + i < 1280 by omega) (by decide), zlet_eq, ix_zn (show 160 * s + i < 2147483648 by omega)]
      by_cases e0 : zi (o : Nat) = 0
      · rw [if_pos e0, if_pos e0, fr2]; exact ⟨_, _, _, T, rfl, rfl, fin _⟩
      rw [if_neg e0, if_neg e0]
      by_cases e1 : zi (o : Nat) = 1
      · rw [if_pos e1, if_pos e1, fr2]; exact ⟨_, _, _, T, rfl, rfl, fin _⟩
      rw [if_neg e1, if_neg e1]
      by_cases e2 : zi (o : Nat) = 2
      · rw [if_pos e2, if_pos e2, fr2]; exact ⟨_, _, _, T, rfl, rfl, fin _⟩
      rw [if_neg e2, if_neg e2, fr2]
      exact ⟨_, _, _, T, rfl, rfl, fin _⟩
    · rw [if_pos i3, if_pos i3]; exact R5
    · have hnlt : ¬ b < zi (l : Nat) := (i32_nlt _ _).mpr i4
      rw [if_neg i3, if_pos i4, if_neg i3, if_neg hnlt]; exact R5
end X8
