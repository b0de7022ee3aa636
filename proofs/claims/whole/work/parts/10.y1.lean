/-! SEATS that are free, on both sides -/
def fr0 (T : zTab) (s : Nat) : Nat → Bool
  | 0 => true
  | i + 1 => fr0 T s i && decide (tS T i ≠ s)
section Y1
variable {T : zTab} {m : zMem} {t : Nat}
theorem fr0_succ (T : zTab) (s i : Nat) : fr0 T s (i + 1) = (fr0 T s i && decide (tS T i ≠ s)) := rfl
theorem free_loop (hT : tC t T m) (hO : tOK T) : ∀ (d kf i a : Nat), i + d = tn T → d < kf → a < 8192 → (∀ s, a.testBit s = (decide (s < tz T) && fr0 T s i)) → ∃ fb, s_X5_freeSeatBits_L12 kf t (zi a) (zi i) m = some (zi (fb : Nat)) ∧ fb < 8192 ∧ ∀ s, fb.testBit s = (decide (s < tz T) && fr0 T s (tn T)) := by
  have hn := hO.1
  intro d
  induction d with
  | zero =>
    intro kf i a hi hkf ha hs
    obtain ⟨kf, rfl⟩ : ∃ z, kf = z + 1 := ⟨kf - 1, by omega⟩
    obtain rfl : i = tn T := by omega
    unfold s_X5_freeSeatBits_L12
    rw [hT.1, if_pos (by rw [zi_len (by omega) (by omega)]; omega)]
    exact ⟨a, rfl, ha, hs⟩
  | succ d ih =>
    intro kf i a hi hkf ha hs
    obtain ⟨kf, rfl⟩ : ∃ z, kf = z + 1 := ⟨kf - 1, by omega⟩
    obtain ⟨-, k2, -, -, -, k6, -⟩ := hO.g (show i < tn T by omega)
    obtain ⟨-, e2, -⟩ := hT.2.2.2 i (by omega)
    have hp : 2 ^ tS T i < 2 ^ 13 := Nat.pow_lt_pow_right (by omega) (by omega)
    unfold s_X5_freeSeatBits_L12
    rw [hT.1, if_neg (by rw [zi_len (by omega) (by omega)]; omega), chk_zn (show i < 10 by omega) (by decide), ix_zn (show i < 2147483648 by omega), e2, bit_C (by omega), zr_some, zlet_eq, zi_andn (by omega) (by omega), zi_s1]
    refine ih kf (i + 1) _ (by omega) (by omega) (andn_lt (n := 13) ha) (fun s => ?_)
    rw [andn_test, hs, Nat.testBit_two_pow, fr0_succ, Bool.and_assoc]
    refine congrArg _ (congrArg _ ?_)
    by_cases q : tS T i = s
    · rw [decide_eq_true q, decide_eq_false (fun w => w q)]; rfl
    · rw [decide_eq_false q, decide_eq_true q]; rfl
theorem freeBits_C (hT : tC t T m) (hO : tOK T) : ∃ fb, s_X5_freeSeatBits t m = some (zi (fb : Nat)) ∧ fb < 8192 ∧ ∀ s, fb.testBit s = (decide (s < tz T) && fr0 T s (tn T)) := by
  have hn := hO.1
  have hz := hO.2.2.1
  have hp : 2 ^ tz T < 2 ^ 13 := Nat.pow_lt_pow_right (by omega) (by omega)
  have h1 : 1 ≤ 2 ^ tz T := Nat.one_le_two_pow
  unfold s_X5_freeSeatBits
  rw [hT.2.1, bit_C (by omega), zr_some, ln_1, zi_subn h1]
  exact free_loop hT hO (tn T) zF 0 _ (by omega) (by unfold zF; omega) (by omega) (fun s => by rw [all_test]; exact (Bool.and_true _).symm)
theorem guestAt_loop (hT : tR T m) (hO : tOK T) {s : Nat} (hs : s < 12) : ∀ (d kf i : Nat), i + d = tn T → d < kf → fr0 T s i = true → ∃ v, s_X7_guestAt_L2 kf (zi s) (zi i) m = some v ∧ (v = -1 ↔ fr0 T s (tn T) = true) := by
  have hn := hO.1
  intro d
  induction d with
  | zero =>
    intro kf i hi hkf hf
    obtain ⟨kf, rfl⟩ : ∃ z, kf = z + 1 := ⟨kf - 1, by omega⟩
    obtain rfl : i = tn T := by omega
    unfold s_X7_guestAt_L2
    rw [hT.1, if_pos (by rw [zi_len (by omega) (by omega)]; omega)]
    exact ⟨-1, rfl, ⟨fun _ => hf, fun _ => rfl⟩⟩
  | succ d ih =>
    intro kf i hi hkf hf
    obtain ⟨kf, rfl⟩ : ∃ z, kf = z + 1 := ⟨kf - 1, by omega⟩
    obtain ⟨-, k2, -, -, -, k6, -⟩ := hO.g (show i < tn T by omega)
    obtain ⟨-, e2, -⟩ := hT.2.2.2 i (by omega)
    unfold s_X7_guestAt_L2
    rw [hT.1, if_neg (by rw [zi_len (by omega) (by omega)]; omega), chk_zn (show i < 10 by omega) (by decide), ix_zn (show i < 2147483648 by omega), e2, zi_s1]
    by_cases q : tS T i = s
    · rw [if_pos (by rw [q])]
      refine ⟨_, rfl, ⟨fun w => by rw [li_m1, zi_eq (by omega) (by omega) (by omega) (by omega)] at w; omega, fun w => ?_⟩⟩
      have key : ∀ e, fr0 T s (i + 1 + e) = false := by
        intro e
        induction e with
        | zero => rw [Nat.add_zero, fr0_succ, decide_eq_false (fun w => w q), Bool.and_false]
        | succ e ihe => rw [← Nat.add_assoc, fr0_succ, ihe, Bool.false_and]
      have := key (tn T - (i + 1))
      rw [show i + 1 + (tn T - (i + 1)) = tn T by omega, w] at this
      cases this
    · rw [if_neg (fun w => q ((zi_eqn (by omega) (by omega)).mp w))]
      exact ih kf (i + 1) (by omega) (by omega) (by rw [fr0_succ, hf, decide_eq_true q]; rfl)
/-- both on a SEAT -/
theorem seat2 {T : zTab} {c r : zMem} (hT : tC t T c) (hT' : tR T r) (hO : tOK T) (a : Int32) : (∃ s, s < tz T ∧ a = zi (s : Nat) ∧ fr0 T s (tn T) = true ∧ s_X5_isFree t a c = some 1 ∧ s_X7_isFree a r = some 1) ∨ (s_X5_isFree t a c = some 0 ∧ s_X7_isFree a r = some 0) := by
  have hz := hO.2.2.1
  obtain ⟨fb, f1, f2, f3⟩ := freeBits_C hT hO
  unfold s_X5_isFree s_X7_isFree s_X7_guestAt
  rw [hT.2.1, hT'.2.1, f1, zr_some]
  rcases rng a (tz T) _ rfl (by omega) with ⟨s, i1, i2, i3, i4⟩ | i3 | ⟨i3, i4⟩
  · subst i2
    obtain ⟨v, v1, v2⟩ := guestAt_loop hT' hO (s := s) (by omega) (tn T) zF 0 (by omega) (by have := hO.1; unfold zF; omega) rfl
    rw [if_neg i3, if_neg i4, if_neg i3, if_neg i4, show s_X7_guestAt_L2 zF (zi s) 0 r = some v from v1, zr_some, zi_bit (by omega) (by omega), f3, decide_eq_true i1, Bool.true_and]
    cases hf : fr0 T s (tn T) with
    | true => rw [if_pos (v2.mpr hf)]; exact Or.inl ⟨s, i1, rfl, hf, rfl, rfl⟩
    | false =>
      have hv : ¬ v = -1 := fun w => by have := v2.mp w; rw [hf] at this; cases this
      rw [if_neg hv]; exact Or.inr ⟨rfl, rfl⟩
  · rw [if_pos i3, if_pos i3]; exact Or.inr ⟨rfl, rfl⟩
  · rw [if_neg i3, if_pos i4, if_neg i3, if_pos i4]; exact Or.inr ⟨rfl, rfl⟩
end Y1
