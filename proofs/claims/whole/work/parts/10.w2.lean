/-! OPS: what is asked of pairs, and small ones -/
theorem ite_10 {α : Type} (x y : α) : (if (1 : Int32) = 0 then x else y) = y := rfl
theorem ite_00 {α : Type} (x y : α) : (if (0 : Int32) = 0 then x else y) = x := rfl
theorem n10 : ¬ (1 : Int32) = 0 := by decide
theorem n01 : ¬ zi (0 : Nat) = (1 : Int32) := by decide
theorem n21 : ¬ zi (2 : Nat) = (1 : Int32) := by decide
theorem n20 : ¬ zi (2 : Nat) = (0 : Int32) := by decide
theorem n1z : ¬ zi (1 : Nat) = (0 : Int32) := by decide
theorem n12 : ¬ zi (1 : Nat) = (2 : Int32) := by decide
theorem n02 : ¬ zi (0 : Nat) = (2 : Int32) := by decide
theorem y11 : zi (1 : Nat) = (1 : Int32) := rfl
theorem y00 : zi (0 : Nat) = (0 : Int32) := rfl
theorem y22 : zi (2 : Nat) = (2 : Int32) := rfl
section W2
variable {T : zTab} {c r : zMem}
theorem neg_ne0 {k : Nat} (h1 : 1 ≤ k) (h7 : k ≤ 7) : ¬ zi (-(k : Int)) = 0 := fun w => by
  rw [show (0 : Int32) = zi 0 from rfl, zi_eq (by omega) (by omega) (by omega) (by omega)] at w; omega
/-- an op about a pair: refused alike, or there are both guests -/
theorem ok2_pair (h : Rel T c r) (a b : Int32) {f : Int32 → Option (Int32 × zMem)} {g : Int32 → Option (Int32 × zMem)} (hf : ∀ x, ¬ x = 0 → f x = zb (s_X6_refuse x c) (fun a m => some (a, m))) (hg : ∀ x, ¬ x = 0 → g x = zb (s_X7_no x r) (fun a m => some (a, m)))
    (hk : ∀ p q, p < tn T → q < tn T → p ≠ q → a = zi (p : Nat) → b = zi (q : Nat) → OK2 (f 0) (g 0)) : OK2 (zr (s_X6_refusalOfPair a b c) f) (zr (s_X7_pair a b r) g) := by
  rcases pair2 h a b with ⟨p, q, p1, q1, e, p2, q2, e1, e2⟩ | ⟨k, k1, k7, e1, e2⟩
  · rw [e1, e2, zr_some, zr_some]
    exact hk p q p1 q1 e p2 q2
  · rw [e1, e2, zr_some, zr_some, hf _ (neg_ne0 k1 k7), hg _ (neg_ne0 k1 k7)]
    exact ok2_ref h k k1 k7 rfl
theorem op_far (h : Rel T c r) (a b : Int32) : OK2 (s_X6_far a b c) (s_X7_far a b r) := by
  unfold s_X6_far s_X7_far
  refine ok2_pair h a b (fun x hx => if_neg hx) (fun x hx => if_neg hx) (fun p q p1 q1 e ha hb => ?_)
  subst ha hb
  rw [if_pos rfl, if_pos rfl, far_C h.2.1 h.1 p1 q1, far_R h.2.2.1 h.1 p1 q1]
  exact ok2_same h rfl
theorem op_takes (h : Rel T c r) (a b : Int32) : OK2 (s_X6_takes a b c) (s_X7_takes a b r) := by
  unfold s_X6_takes s_X7_takes
  refine ok2_pair h a b (fun x hx => if_neg hx) (fun x hx => if_neg hx) (fun p q p1 q1 e ha hb => ?_)
  subst ha hb
  rw [if_pos rfl, if_pos rfl, tks_C h.2.1 h.1 p1 q1, tks_R h.2.2.1 h.1 p1 q1]
  exact ok2_same h rfl
theorem op_may (h : Rel T c r) (a b : Int32) : OK2 (s_X6_may a b c) (s_X7_may a b r) := by
  unfold s_X6_may s_X7_may
  refine ok2_pair h a b (fun x hx => if_neg hx) (fun x hx => if_neg hx) (fun p q p1 q1 e ha hb => ?_)
  subst ha hb
  rw [if_pos rfl, if_pos rfl, may_C h.2.1 h.1 p1 q1, may_R h.2.2.1 h.1 p1 q1, zr_some, zr_some]
  cases mayT T p q <;> exact ok2_same h rfl
theorem four_all : ∀ a, a < 10 → ∀ b, b < 10 → ∀ c, c < 10 → ∀ d, d < 10 → decide (bcnt (Nat.testBit (((2 ^ a ||| 2 ^ b) ||| 2 ^ c) ||| 2 ^ d)) 10 = 4) = (decide (a ≠ b) && (decide (a ≠ c) && (decide (a ≠ d) && (decide (b ≠ c) && (decide (b ≠ d) && decide (c ≠ d)))))) := by decide +kernel
theorem op_cross (h : Rel T c r) (a1 a2 a3 a4 : Int32) : OK2 (s_X6_cross a1 a2 a3 a4 c) (s_X7_cross a1 a2 a3 a4 r) := by
  have hn := h.1.1
  unfold s_X6_cross s_X7_cross s_X6_cross_L45 s_X7_cross_L33 s_X7_cross_L72
  rcases (guest2 h a1).symm with ⟨p3, p4⟩ | ⟨p, p1, p2, p3, p4⟩
  · rw [p3, p4]; exact ok2_ref h 1 (by omega) (by omega) rfl
  rcases (guest2 h a2).symm with ⟨q3, q4⟩ | ⟨q, q1, q2, q3, q4⟩
  · rw [p3, p4, zr_some, zr_some, if_neg (by decide), if_neg (by decide), q3, q4]; exact ok2_ref h 1 (by omega) (by omega) rfl
  rcases (guest2 h a3).symm with ⟨s3, s4⟩ | ⟨s, s1, s2, s3, s4⟩
  · rw [p3, p4, zr_some, zr_some, if_neg (by decide), if_neg (by decide), q3, q4, zr_some, zr_some, if_neg (by decide), if_neg (by decide), s3, s4]; exact ok2_ref h 1 (by omega) (by omega) rfl
  rcases (guest2 h a4).symm with ⟨t3, t4⟩ | ⟨t, t1, t2, t3, t4⟩
  · rw [p3, p4, zr_some, zr_some, if_neg (by decide), if_neg (by decide), q3, q4, zr_some, zr_some, if_neg (by decide), if_neg (by decide), s3, s4, zr_some, zr_some, if_neg (by decide), if_neg (by decide), t3, t4]; exact ok2_ref h 1 (by omega) (by omega) rfl
  rw [p3, p4, zr_some, zr_some, if_neg (by decide), if_neg (by decide), q3, q4, zr_some, zr_some, if_neg (by decide), if_neg (by decide), s3, s4, zr_some, zr_some, if_neg (by decide), if_neg (by decide), t3, t4, zr_some, zr_some, if_neg (by decide), if_neg (by decide)]
  subst p2 q2 s2 t2
  have b1 : 2 ^ p < 2 ^ 10 := Nat.pow_lt_pow_right (by omega) (by omega)
  have b2 : 2 ^ q < 2 ^ 10 := Nat.pow_lt_pow_right (by omega) (by omega)
  have b3 : 2 ^ s < 2 ^ 10 := Nat.pow_lt_pow_right (by omega) (by omega)
  have b4 : 2 ^ t < 2 ^ 10 := Nat.pow_lt_pow_right (by omega) (by omega)
  have o1 : (2 ^ p ||| 2 ^ q) < 2 ^ 10 := Nat.or_lt_two_pow b1 b2
  have o2 : ((2 ^ p ||| 2 ^ q) ||| 2 ^ s) < 2 ^ 10 := Nat.or_lt_two_pow o1 b3
  have o3 : (((2 ^ p ||| 2 ^ q) ||| 2 ^ s) ||| 2 ^ t) < 2 ^ 10 := Nat.or_lt_two_pow o2 b4
  rw [bit_C (by omega), bit_C (by omega), bit_C (by omega), bit_C (by omega), zr_some, zr_some, zr_some, zr_some, zi_or (by omega) (by omega), zi_or (by omega) (by omega), zi_or (by omega) (by omega), bitCount_all _ o3, zr_some]
  have hb := bcnt_le (Nat.testBit (((2 ^ p ||| 2 ^ q) ||| 2 ^ s) ||| 2 ^ t)) 10
  have h4 := four_all p (by omega) q (by omega) s (by omega) t (by omega)
  have hz : zi (bcnt (Nat.testBit (((2 ^ p ||| 2 ^ q) ||| 2 ^ s) ||| 2 ^ t)) 10 : Nat) = (4 : Int32) ↔ bcnt (Nat.testBit (((2 ^ p ||| 2 ^ q) ||| 2 ^ s) ||| 2 ^ t)) 10 = 4 := zi_eqn (b := 4) (by omega) (by omega)
  have hc := fun {x y : Nat} (hx : x < tn T) (hy : y < tn T) => cmpI (a := x) (b := y) (by omega) (by omega)
  by_cases e : p ≠ q ∧ p ≠ s ∧ p ≠ t ∧ q ≠ s ∧ q ≠ t ∧ s ≠ t
  · obtain ⟨e1, e2, e3, e4, e5, e6⟩ := e
    rw [decide_eq_true e1, decide_eq_true e2, decide_eq_true e3, decide_eq_true e4, decide_eq_true e5, decide_eq_true e6] at h4
    rw [if_pos (hz.mpr (of_decide_eq_true h4)), if_neg (fun w => e1 ((hc p1 q1).mp w)), if_neg (fun w => e2 ((hc p1 s1).mp w)), if_neg (fun w => e3 ((hc p1 t1).mp w)), if_neg (fun w => e4 ((hc q1 s1).mp w)), if_neg (fun w => e5 ((hc q1 t1).mp w)), if_neg (fun w => e6 ((hc s1 t1).mp w)), crs_C h.2.1 h.1 p1 q1 s1 t1, crs_R h.2.2.1 h.1 p1 q1 s1 t1, zr_some, zr_some]
    cases crsT T p q s t <;> exact ok2_same h rfl
  · have hno : ¬ bcnt (Nat.testBit (((2 ^ p ||| 2 ^ q) ||| 2 ^ s) ||| 2 ^ t)) 10 = 4 := by
      intro w
      rw [decide_eq_true w] at h4
      have h5 := h4.symm
      simp only [Bool.and_eq_true, decide_eq_true_eq] at h5
      exact e h5
    rw [if_neg (fun w => hno (hz.mp w))]
    have hR : OK2 (zb (s_X6_refuse (-6) c) (fun a m => some (a, m))) (zb (s_X7_no (-6) r) (fun a m => some (a, m))) := ok2_ref h 6 (by omega) (by omega) rfl
    by_cases e1 : p = q
    · rw [if_pos ((hc p1 q1).mpr e1)]; exact hR
    rw [if_neg (fun w => e1 ((hc p1 q1).mp w))]
    by_cases e2 : p = s
    · rw [if_pos ((hc p1 s1).mpr e2)]; exact hR
    rw [if_neg (fun w => e2 ((hc p1 s1).mp w))]
    by_cases e3 : p = t
    · rw [if_pos ((hc p1 t1).mpr e3)]; exact hR
    rw [if_neg (fun w => e3 ((hc p1 t1).mp w))]
    by_cases e4 : q = s
    · rw [if_pos ((hc q1 s1).mpr e4)]; exact hR
    rw [if_neg (fun w => e4 ((hc q1 s1).mp w))]
    by_cases e5 : q = t
    · rw [if_pos ((hc q1 t1).mpr e5)]; exact hR
    rw [if_neg (fun w => e5 ((hc q1 t1).mp w))]
    by_cases e6 : s = t
    · rw [if_pos ((hc s1 t1).mpr e6)]; exact hR
    exact absurd ⟨e1, e2, e3, e4, e5, e6⟩ e
/-- what both read alike -/
def RD2 {α : Type} (x y : Option α) : Prop := ∃ a, x = some a ∧ y = some a
theorem op_fault (h : Rel T c r) : RD2 (s_X6_fault c) (s_X7_fault r) := ⟨c.1 0 0 10, rfl, by unfold s_X7_fault; rw [h.2.2.2.2.2.2.2.1]⟩
/-- a number from 0 to below a bound, or not: in the class's words and in the reference's -/
theorem rng (a : Int32) (n : Nat) (N : Int32) (hN : N = zi (n : Nat)) (hn : n < 2147483648) : (∃ i, i < n ∧ a = zi (i : Nat) ∧ ¬ a < 0 ∧ ¬ N ≤ a) ∨ (a < 0 ∨ (¬ a < 0 ∧ N ≤ a)) := by
  subst hN
  obtain ⟨x, rfl, x1, x2⟩ := zi_of a
  by_cases h1 : x < 0
  · exact Or.inr (Or.inl ((lt0 x1 x2).mpr h1))
  · by_cases h2 : (n : Int) ≤ x
    · exact Or.inr (Or.inr ⟨fun w => h1 ((lt0 x1 x2).mp w), (zi_le (by omega) (by omega) x1 x2).mpr h2⟩)
    · exact Or.inl ⟨x.toNat, by omega, congrArg zi (by omega), fun w => h1 ((lt0 x1 x2).mp w), fun w => h2 ((zi_le (by omega) (by omega) x1 x2).mp w)⟩
theorem shelf2 (a : Int32) : (∃ s, s < 8 ∧ a = zi (s : Nat) ∧ s_X6_isShelf a = some 1 ∧ s_X7_isShelf a = some 1) ∨ (s_X6_isShelf a = some 0 ∧ s_X7_isShelf a = some 0) := by
  unfold s_X6_isShelf s_X7_isShelf
  rcases rng a 8 8 rfl (by decide) with ⟨i, i1, i2, i3, i4⟩ | i3 | ⟨i3, i4⟩
  · exact Or.inl ⟨i, i1, i2, by rw [if_neg i3, if_neg i4], by rw [if_neg i3, if_neg i4]⟩
  · exact Or.inr ⟨by rw [if_pos i3], by rw [if_pos i3]⟩
  · exact Or.inr ⟨by rw [if_neg i3, if_pos i4], by rw [if_neg i3, if_pos i4]⟩
theorem op_holds (h : Rel T c r) (a : Int32) : RD2 (s_X6_holds a c) (s_X7_holds a r) := by
  have hn := h.1.1
  unfold s_X6_holds s_X7_holds
  rcases shelf2 a with ⟨s, s1, s2, s3, s4⟩ | ⟨s3, s4⟩
  · subst s2
    rw [s3, s4, zr_some, zr_some, ite_10, ite_10, chk_zn s1 (by decide), chk_zn s1 (by decide), ix_zn (by omega)]
    rcases h.2.2.2.2.2.1 s s1 with ⟨a1, a2, a3⟩ | ⟨g, a0, a1, a2, a3, a4⟩ | ⟨o, l, o3, l1, a1, a2, a3, a4, a5, a6⟩
    · rw [a1, a3]; exact ⟨_, rfl, rfl⟩
    · rw [a1, a3, a4]; exact ⟨_, rfl, rfl⟩
    · rw [a1, a3, a4, if_neg n1z, if_pos y11, show (100 : Int32) = zi (100 : Nat) from rfl, zi_addn]; exact ⟨_, rfl, rfl⟩
  · rw [s3, s4]; exact ⟨_, rfl, rfl⟩
theorem op_element (h : Rel T c r) (a b : Int32) : RD2 (s_X6_element a b c) (s_X7_element a b r) := by
  unfold s_X6_element s_X7_element s_X4_has
  rcases shelf2 a with ⟨s, s1, s2, s3, s4⟩ | ⟨s3, s4⟩
  · subst s2
    rw [s3, s4, zr_some, zr_some, ite_10, ite_10, chk_zn s1 (by decide), chk_zn s1 (by decide), ix_zn (by omega)]
    have hno : RD2 (zr (if b < 0 then some 0 else if zi (0 : Nat) ≤ b then some 0 else some (1 : Int32)) (fun r6 => if r6 = 0 then some (0 : Int64) else chk b 160 (some (c.2 9 s (ix b))))) (some 0) := by
      rcases rng b 0 _ rfl (by decide) with ⟨i, i1, -⟩ | i3 | ⟨i3, i4⟩
      · omega
      · rw [if_pos i3]; exact ⟨_, rfl, rfl⟩
      · rw [if_neg i3, if_pos i4]; exact ⟨_, rfl, rfl⟩
    rcases h.2.2.2.2.2.1 s s1 with ⟨a1, a2, a3⟩ | ⟨g, a0, a1, a2, a3, a4⟩ | ⟨o, l, o3, l1, a1, a2, a3, a4, a5, a6⟩
    · rw [a2, a3, if_neg n01]; exact hno
    · rw [a2, a3, if_neg n21]; exact hno
    · rw [a2, a3, a5, if_pos y11]
      rcases rng b l _ rfl (by omega) with ⟨i, i1, i2, i3, i4⟩ | i3 | ⟨i3, i4⟩
      · subst i2
        rw [if_neg i3, if_neg i4, if_neg i3, if_neg i4, zr_some, ite_10, chk_zn (show i < 160 by omega) (by decide), show (160 : Int32) = zi (160 : Nat) from rfl, zi_muln, zi_addn, chk_zn (show 160 * s + i < 1280 by omega) (by decide), ix_zn (by omega), ix_zn (by omega), a6 i i1]
        exact ⟨_, rfl, rfl⟩
      · rw [if_pos i3, if_pos i3]; exact ⟨_, rfl, rfl⟩
      · rw [if_neg i3, if_pos i4, if_neg i3, if_pos i4]; exact ⟨_, rfl, rfl⟩
  · rw [s3, s4]; exact ⟨_, rfl, rfl⟩
theorem op_trace (h : Rel T c r) (a : Int32) : RD2 (s_X6_trace a c) (s_X7_trace a r) := by
  unfold s_X6_trace s_X0_bodyAt s_X7_trace
  obtain ⟨e1, e2⟩ := h.2.2.2.2.2.2.2.2.1
  rw [e1]
  rcases rng a 20 20 rfl (by decide) with ⟨i, i1, i2, i3, i4⟩ | i3 | ⟨i3, i4⟩
  · have i4' : ¬ (20 : Int32) ≤ a := i4
    subst i2
    rw [if_neg i3, if_neg i3, if_neg i4', if_neg i4', chk_zn i1 (by decide), chk_zn i1 (by decide), ix_zn (by omega), e2 i i1]
    by_cases w : r.1 64 0 40 ≤ zi (i : Nat)
    · rw [if_pos w]; exact ⟨_, rfl, rfl⟩
    · rw [if_neg w]; exact ⟨_, rfl, rfl⟩
  · rw [if_pos i3, if_pos i3]; exact ⟨_, rfl, rfl⟩
  · have i4' : (20 : Int32) ≤ a := i4
    rw [if_neg i3, if_neg i3, if_pos i4', if_pos i4']
    by_cases w : r.1 64 0 40 ≤ a
    · rw [if_pos w]; exact ⟨_, rfl, rfl⟩
    · rw [if_neg w]; exact ⟨_, rfl, rfl⟩
end W2
