/-! OPS: guest (the call) -/
section Y3
variable {T : zTab} {c r : zMem}
theorem fr_fT {c c' : zMem} (h : fr (fT 0) e0 c c') : fr mI sL c c' := fr_mono h (fun x j k w => by
  unfold mI at w
  unfold fT
  rw [Bool.or_eq_false_iff] at w
  rw [Bool.and_assoc]
  exact w.2) (fun _ _ _ _ => rfl)
theorem fr_fR {r r' : zMem} (h : fr (fun c _ k => (Nat.beq c 64 && Nat.beq k 0) || (Nat.ble 66 c && Nat.ble c 70)) e0 r r') : fr mR rL r r' := fr_mono h (fun x j k w => by
  unfold mR at w
  rw [Bool.or_eq_false_iff, Bool.or_eq_false_iff] at w
  rw [w.2.2, Bool.or_false]
  by_cases a : x = 64
  · subst a
    by_cases b : k = 0
    · subst b; simp at w
    · rw [beqf b, Bool.and_false]
  · rw [beqf a]; rfl) (fun _ _ _ _ => rfl)
/-- a guest added on both sides -/
theorem add2 (h : Rel T c r) (h10 : tn T < 10) {k s a : Nat} (hk : k < 7) (hs : s < tz T) (ha : a ≤ 9) (hf : fr0 T s (tn T) = true) : ∃ c' r', s_X5_add 0 (zi k) (zi s) (zi a) c = some c' ∧ s_X7_adds (zi k) (zi s) (zi a) r = some (zi (tn T), r') ∧ Rel (tAdd T k s a) c' r' := by
  obtain ⟨c', a1, a2, a3, a4, a5, a6⟩ := add_C h.2.1 h10 k s a
  obtain ⟨r', b1, b2, b3⟩ := add_R h.2.2.1 h10 k s a
  obtain ⟨q1, q2, q3⟩ := h.2.2.2.1
  exact ⟨c', r', a1, b1, Rel_tab (fr_fT a3) (fr_fR b3) h (add_ok h.1 h10 hk hs ha hf) a2 b2 ⟨by rw [a4, b3.1 64 0 3 rfl, q1], by rw [a5, b3.1 64 0 4 rfl, q2], by rw [a6, b3.1 64 0 5 rfl, q3]⟩ (Nat.le_succ _)⟩
theorem op_guest (h : Rel T c r) (a b d : Int32) : OK2 (s_X6_guest a b d c) (s_X7_guest a b d r) := by
  have hn := h.1.1
  have R1 := ok2_ref h 1 (by omega) (by omega) (show (-1 : Int32) = zi (-((1 : Nat) : Int)) from rfl)
  have R6 := ok2_ref h 6 (by omega) (by omega) (show (-6 : Int32) = zi (-((6 : Nat) : Int)) from rfl)
  have R7 := ok2_ref h 7 (by omega) (by omega) (show (-7 : Int32) = zi (-((7 : Nat) : Int)) from rfl)
  unfold s_X6_guest s_X7_guest s_X6_guest_L31 s_X7_guest_L10 s_X7_guest_L34 s_X6_isKind s_X6_isAmount s_X5_isFull
  obtain ⟨x, rfl, x1, x2⟩ := zi_of a
  obtain ⟨y, rfl, y1, y2⟩ := zi_of d
  have l7 : 7 ≤ zi x ↔ 7 ≤ x := zi_le (a := 7) (by omega) (by omega) x1 x2
  have l6 : zi x ≤ 6 ↔ x ≤ 6 := zi_le (b := 6) x1 x2 (by omega) (by omega)
  have l9 : 9 < zi y ↔ 9 < y := zi_lt (a := 9) (by omega) (by omega) y1 y2
  have l9' : zi y ≤ 9 ↔ y ≤ 9 := zi_le (b := 9) y1 y2 (by omega) (by omega)
  by_cases h1 : x < 0
  · rw [if_pos ((lt0 x1 x2).mpr h1), if_pos ((lt0 x1 x2).mpr h1)]; exact R1
  rw [if_neg (fun w => h1 ((lt0 x1 x2).mp w)), if_neg (fun w => h1 ((lt0 x1 x2).mp w))]
  by_cases h2 : 7 ≤ x
  · have n6 : ¬ zi x ≤ 6 := fun w => by have := l6.mp w; omega
    rw [if_pos (l7.mpr h2), if_neg n6]; exact R1
  rw [if_neg (fun w => h2 (l7.mp w)), if_pos (l6.mpr (by omega)), zr_some, ite_10]
  rcases seat2 (t := 0) h.2.1 h.2.2.1 h.1 b with ⟨s, s1, s2, s3, s4, s5⟩ | ⟨s4, s5⟩
  · subst s2
    rw [s4, s5, zr_some, zr_some, ite_10, ite_10]
    by_cases h3 : y < 0
    · rw [if_pos ((lt0 y1 y2).mpr h3), if_pos ((lt0 y1 y2).mpr h3)]; exact R6
    rw [if_neg (fun w => h3 ((lt0 y1 y2).mp w)), if_neg (fun w => h3 ((lt0 y1 y2).mp w))]
    by_cases h4 : 9 < y
    · have n9 : ¬ zi y ≤ 9 := fun w => by have := l9'.mp w; omega
      rw [if_pos (l9.mpr h4), if_neg n9]; exact R6
    rw [if_neg (fun w => h4 (l9.mp w)), if_pos (l9'.mpr (by omega)), zr_some, ite_10, h.2.1.1, h.2.2.1.1]
    have e10 : zi (tn T) < (10 : Int32) ↔ tn T < 10 := zi_ltn (b := 10) (by omega) (by omega)
    have q10 : zi (tn T) = (10 : Int32) ↔ tn T = 10 := zi_eqn (b := 10) (by omega) (by omega)
    by_cases h5 : tn T < 10
    · obtain ⟨k, rfl⟩ : ∃ k : Nat, x = k := ⟨x.toNat, by omega⟩
      obtain ⟨v, rfl⟩ : ∃ v : Nat, y = v := ⟨y.toNat, by omega⟩
      obtain ⟨c', r', a1, a2, a3⟩ := add2 h h5 (show k < 7 by omega) s1 (show v ≤ 9 by omega) s3
      have nq : ¬ zi (tn T) = (10 : Int32) := fun w => by have := q10.mp w; omega
      rw [if_pos (e10.mpr h5), if_neg nq, zr_some, ite_00, a1, a2, zr_some, zb_some, a3.2.1.1, show zi (tn (tAdd T k s v)) - (1 : Int32) = zi (tn T) from by
        show zi ((tn T + 1 : Nat) : Int) - 1 = _
        rw [ln_1, zi_subn (by omega)]; rfl]
      exact ok2_same a3 rfl
    · rw [if_neg (fun w => h5 (e10.mp w)), if_pos (q10.mpr (by omega))]; exact R7
  · rw [s4, s5]; exact R6
end Y3
