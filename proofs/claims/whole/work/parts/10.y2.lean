/-! OPS: guest -/
def upn (f : Nat → Nat) (n x : Nat) : Nat → Nat := fun i => if i = n then x else f i
def tAdd (T : zTab) (k s a : Nat) : zTab := (tn T + 1, tz T, te T, upn (tK T) (tn T) k, upn (tS T) (tn T) s, upn (tA T) (tn T) a, upn (tB T) (tn T) 0, upn (tH T) (tn T) 0)
section Y2
variable {T : zTab} {c r m : zMem} {t : Nat}
theorem upn_ne {f : Nat → Nat} {n x i : Nat} (h : i ≠ n) : upn f n x i = f i := if_neg h
theorem upn_eq (f : Nat → Nat) (n x : Nat) : upn f n x n = x := if_pos rfl
theorem fr0_ne {s : Nat} : ∀ {i : Nat}, fr0 T s i = true → ∀ g, g < i → tS T g ≠ s
  | 0, _, g, hg => absurd hg (Nat.not_lt_zero g)
  | i + 1, h, g, hg => by
    rw [fr0_succ, Bool.and_eq_true, decide_eq_true_eq] at h
    by_cases e : g = i
    · rw [e]; exact h.2
    · exact fr0_ne h.1 g (by omega)
theorem add_ok (o : tOK T) (h10 : tn T < 10) {k s a : Nat} (hk : k < 7) (hs : s < tz T) (ha : a ≤ 9) (hf : fr0 T s (tn T) = true) : tOK (tAdd T k s a) := by
  obtain ⟨o1, o2, o3, o4, o5, o6, o7, o8⟩ := o
  have hp : 2 ^ tn T ≤ 2 ^ (tn T + 1) := Nat.pow_le_pow_right (by omega) (by omega)
  have hne := fr0_ne hf
  have hz : ∀ (f : Nat → Nat) (g : Nat), g < tn T → f g < 2 ^ tn T → (f g).testBit (tn T) = false := fun f g _ hl => Nat.testBit_lt_two_pow hl
  refine ⟨by show tn T + 1 ≤ 10; omega, o2, o3, o4, fun g hg => ?_, fun g h hg hh => ?_, fun g hg => ?_, fun g h hg hh e => ?_⟩
  · have hg : g < tn T + 1 := hg
    show upn (tK T) (tn T) k g < 7 ∧ upn (tS T) (tn T) s g < tz T ∧ upn (tA T) (tn T) a g ≤ 9 ∧ upn (tB T) (tn T) 0 g < 2 ^ (tn T + 1) ∧ upn (tH T) (tn T) 0 g < 2 ^ (tn T + 1)
    by_cases e : g = tn T
    · subst e
      simp only [upn_eq]
      exact ⟨hk, hs, ha, Nat.two_pow_pos _, Nat.two_pow_pos _⟩
    · simp only [upn_ne e]
      obtain ⟨a1, a2, a3, a4, a5⟩ := o5 g (by omega)
      exact ⟨a1, a2, a3, by omega, by omega⟩
  · have hg : g < tn T + 1 := hg
    have hh : h < tn T + 1 := hh
    show (upn (tB T) (tn T) 0 g).testBit h = (upn (tB T) (tn T) 0 h).testBit g ∧ (upn (tH T) (tn T) 0 g).testBit h = (upn (tH T) (tn T) 0 h).testBit g
    by_cases e : g = tn T
    · subst e
      by_cases e2 : h = tn T
      · subst e2; exact ⟨rfl, rfl⟩
      · obtain ⟨-, -, -, a4, a5⟩ := o5 h (by omega)
        simp only [upn_eq, upn_ne e2, Nat.zero_testBit, hz (tB T) h (by omega) a4, hz (tH T) h (by omega) a5]
        exact ⟨trivial, trivial⟩
    · obtain ⟨-, -, -, a4, a5⟩ := o5 g (by omega)
      by_cases e2 : h = tn T
      · subst e2
        simp only [upn_eq, upn_ne e, Nat.zero_testBit, hz (tB T) g (by omega) a4, hz (tH T) g (by omega) a5]
        exact ⟨trivial, trivial⟩
      · simp only [upn_ne e, upn_ne e2]
        exact o6 g h (by omega) (by omega)
  · have hg : g < tn T + 1 := hg
    show (upn (tB T) (tn T) 0 g).testBit g = false ∧ (upn (tH T) (tn T) 0 g).testBit g = false
    by_cases e : g = tn T
    · subst e; simp only [upn_eq, Nat.zero_testBit]; exact ⟨trivial, trivial⟩
    · simp only [upn_ne e]; exact o7 g (by omega)
  · have hg : g < tn T + 1 := hg
    have hh : h < tn T + 1 := hh
    have e : upn (tS T) (tn T) s g = upn (tS T) (tn T) s h := e
    by_cases e1 : g = tn T
    · by_cases e2 : h = tn T
      · omega
      · rw [e1, upn_eq, upn_ne e2] at e
        exact absurd e.symm (hne h (by omega))
    · by_cases e2 : h = tn T
      · rw [e2, upn_eq, upn_ne e1] at e
        exact absurd e (hne g (by omega))
      · rw [upn_ne e1, upn_ne e2] at e
        exact o8 g h (by omega) (by omega) e
def fT (t : Nat) : zEx := fun c j _ => (Nat.ble 1 c && Nat.ble c 6) && Nat.beq j t
theorem add_C (hT : tC t T m) (h10 : tn T < 10) (k s a : Nat) : ∃ m', s_X5_add t (zi k) (zi s) (zi a) m = some m' ∧ tC t (tAdd T k s a) m' ∧ fr (fT t) e0 m m' ∧ m'.1 1 t 8 = m.1 1 t 8 ∧ m'.1 1 t 9 = m.1 1 t 9 ∧ m'.1 1 t 10 = m.1 1 t 10 := by
  obtain ⟨a1, a2, a3, a4⟩ := hT
  unfold s_X5_add s_X5_isFull
  have hlt : ¬ (10 : Int32) ≤ zi (tn T) := fun w => by
    rw [show (10 : Int32) = zi (10 : Nat) from rfl, zi_len (by omega) (by omega)] at w; omega
  have hlt2 : zi (tn T) < (10 : Int32) := (zi_ltn (b := 10) (by omega) (by omega)).mpr h10
  simp only [a1, hlt, hlt2, if_true, if_false, zr_some, ite_00, zlet_eq, wI_1, Nat.reduceEqDiff, false_and, and_false, chk_zn h10 (show (10 : Nat) < 2147483648 by decide), ix_zn (show tn T < 2147483648 by omega), zi_s1]
  refine ⟨_, rfl, ⟨by rw [wI_1, if_pos ⟨rfl, rfl, rfl⟩]; rfl, by simp [wI_1, a2, tAdd], by simp [wI_1, a3, tAdd], fun i hi => ?_⟩, fr_wI (fr_wI (fr_wI (fr_wI (fr_wI (fr_wI (fr_refl _ _ _) (by simp [fT])) (by simp [fT])) (by simp [fT])) (by simp [fT])) (by simp [fT])) (by simp [fT]), by simp [wI_1], by simp [wI_1], by simp [wI_1]⟩
  have hi : i < tn T + 1 := hi
  show _ = zi (upn (tK T) (tn T) k i : Nat) ∧ _ = zi (upn (tS T) (tn T) s i : Nat) ∧ _ = zi (upn (tA T) (tn T) a i : Nat) ∧ _ = zi (upn (tB T) (tn T) 0 i : Nat) ∧ _ = zi (upn (tH T) (tn T) 0 i : Nat)
  by_cases e : i = tn T
  · rw [e]
    simp only [upn_eq]
    exact ⟨by simp [wI_1], by simp [wI_1], by simp [wI_1], by simp [wI_1]; rfl, by simp [wI_1]; rfl⟩
  · obtain ⟨b1, b2, b3, b4, b5⟩ := a4 i (by omega)
    simp only [upn_ne e]
    exact ⟨by simp [wI_1, e, b1], by simp [wI_1, e, b2], by simp [wI_1, e, b3], by simp [wI_1, e, b4], by simp [wI_1, e, b5]⟩
theorem add_R (hT : tR T m) (h10 : tn T < 10) (k s a : Nat) : ∃ m', s_X7_adds (zi k) (zi s) (zi a) m = some (zi (tn T), m') ∧ tR (tAdd T k s a) m' ∧ fr (fun c _ k => (Nat.beq c 64 && Nat.beq k 0) || (Nat.ble 66 c && Nat.ble c 70)) e0 m m' := by
  obtain ⟨a1, a2, a3, a4⟩ := hT
  unfold s_X7_adds
  simp only [a1, zlet_eq, wI_1, Nat.reduceEqDiff, false_and, and_false, if_false, chk_zn h10 (show (10 : Nat) < 2147483648 by decide), ix_zn (show tn T < 2147483648 by omega), zi_s1]
  refine ⟨_, rfl, ⟨by rw [wI_1, if_pos ⟨rfl, rfl, rfl⟩]; rfl, by simp [wI_1, a2, tAdd], by simp [wI_1, a3, tAdd], fun i hi => ?_⟩, fr_wI (fr_wI (fr_wI (fr_wI (fr_wI (fr_wI (fr_refl _ _ _) (by simp)) (by simp)) (by simp)) (by simp)) (by simp)) (by simp)⟩
  have hi : i < tn T + 1 := hi
  show _ = zi (upn (tK T) (tn T) k i : Nat) ∧ _ = zi (upn (tS T) (tn T) s i : Nat) ∧ _ = zi (upn (tA T) (tn T) a i : Nat) ∧ _ = zi (upn (tB T) (tn T) 0 i : Nat) ∧ _ = zi (upn (tH T) (tn T) 0 i : Nat)
  by_cases e : i = tn T
  · rw [e]
    simp only [upn_eq]
    exact ⟨by simp [wI_1], by simp [wI_1], by simp [wI_1], by simp [wI_1]; rfl, by simp [wI_1]; rfl⟩
  · obtain ⟨b1, b2, b3, b4, b5⟩ := a4 i (by omega)
    simp only [upn_ne e]
    exact ⟨by simp [wI_1, e, b1], by simp [wI_1, e, b2], by simp [wI_1, e, b3], by simp [wI_1, e, b4], by simp [wI_1, e, b5]⟩
end Y2
