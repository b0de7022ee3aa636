/-! OPS: freeSeat -/
section Z4
variable {T : zTab} {c r : zMem}
theorem bcnt_all {p : Nat → Bool} : ∀ {n : Nat}, (∀ i, i < n → p i = true) → bcnt p n = n
  | 0, _ => rfl
  | n + 1, h => by rw [bcnt_succ, bcnt_all (fun i hi => h i (by omega)), h n (by omega)]; rfl
theorem bcnt_some {p : Nat → Bool} : ∀ {n : Nat}, bcnt p n = n → ∀ i, i < n → p i = true
  | 0, _, i, hi => absurd hi (Nat.not_lt_zero i)
  | n + 1, h, i, hi => by
    rw [bcnt_succ] at h
    have hl := bcnt_le p n
    cases hp : p n with
    | false => rw [hp, cond_false] at h; omega
    | true =>
      rw [hp, cond_true] at h
      by_cases e : i = n
      · subst e; exact hp
      · exact bcnt_some (n := n) (by omega) i (by omega)
theorem occ_cnt (hO : tOK T) : ∀ i, i ≤ tn T → bcnt (fun s => !fr0 T s i) (tz T) = i := by
  intro i
  induction i with
  | zero =>
    intro _
    have : ∀ n, bcnt (fun s => !fr0 T s 0) n = 0 := fun n => by
      induction n with
      | zero => rfl
      | succ n ih => rw [bcnt_succ, ih]; rfl
    exact this _
  | succ i ih =>
    intro hi
    have h1 := ih (by omega)
    have hs : tS T i < tz T := (hO.g (show i < tn T by omega)).2.1
    have hf : fr0 T (tS T i) i = true := by
      have : ∀ k, k ≤ i → fr0 T (tS T i) k = true := fun k => by
        induction k with
        | zero => intro _; rfl
        | succ k ihk =>
          intro hk
          rw [fr0_succ, ihk (by omega), Bool.true_and]
          exact decide_eq_true (fun w => by have := hO.2.2.2.2.2.2.2 k i (by omega) (by omega) w; omega)
      exact this i (Nat.le_refl _)
    have h2 := bcnt_rem (p := fun s => !fr0 T s (i + 1)) hs (by
      show (!fr0 T (tS T i) (i + 1)) = true
      rw [fr0_succ, hf, Bool.true_and, decide_eq_false (fun w => w rfl)]; rfl)
    rw [bcnt_congr (q := fun s => !fr0 T s i) (tz T) (fun s _ => by
      show (!fr0 T s (i + 1) && decide (s ≠ tS T i)) = !fr0 T s i
      rw [fr0_succ]
      by_cases e : s = tS T i
      · subst e; rw [hf, decide_eq_false (fun w => w rfl)]; rfl
      · rw [decide_eq_true e, decide_eq_true (Ne.symm e), Bool.and_true, Bool.and_true]), h1] at h2
    exact h2.symm
theorem free_none (hO : tOK T) {fb : Nat} (h : ∀ s, fb.testBit s = (decide (s < tz T) && fr0 T s (tn T))) : fb = 0 ↔ tn T = tz T := by
  have hc := occ_cnt hO (tn T) (Nat.le_refl _)
  constructor
  · intro e
    subst e
    rw [bcnt_all (fun s hs => by
      have := h s
      rw [Nat.zero_testBit, decide_eq_true hs, Bool.true_and] at this
      rw [← this]; rfl)] at hc
    exact hc.symm
  · intro e
    refine Nat.eq_of_testBit_eq (fun s => ?_)
    rw [h, Nat.zero_testBit]
    by_cases hs : s < tz T
    · have := bcnt_some (p := fun s => !fr0 T s (tn T)) (n := tz T) (by rw [hc, e]) s hs
      rw [decide_eq_true hs, Bool.true_and]
      cases hq : fr0 T s (tn T) with
      | false => rfl
      | true => rw [hq] at this; cases this
    · rw [decide_eq_false hs]; rfl
theorem fr_T1 {a b : zMem} (h : fr (fT 1) e0 a b) : fr sI sL a b := fr_mono h (fun x j k w => by
  unfold sI at w
  unfold fT
  rw [Bool.or_eq_false_iff, Bool.or_eq_false_iff] at w
  rw [Bool.and_assoc]
  exact w.2.1) (fun _ _ _ _ => rfl)
theorem fr_sm {a b : zMem} (h : fr sI sL a b) : fr mI sL a b := fr_mono h (fun _ _ _ w => (Bool.or_eq_false_iff.mp w).1) (fun _ _ _ w => w)
theorem fr_rm {a b : zMem} (h : fr rI' rL a b) : fr mR rL a b := fr_mono h (fun _ _ _ w => (Bool.or_eq_false_iff.mp w).1) (fun _ _ _ w => w)
theorem cnt_s {c' : zMem} (f : fr sI sL c c') : c'.1 1 0 8 = c.1 1 0 8 ∧ c'.1 1 0 9 = c.1 1 0 9 ∧ c'.1 1 0 10 = c.1 1 0 10 := ⟨f.1 1 0 8 rfl, f.1 1 0 9 rfl, f.1 1 0 10 rfl⟩
theorem tC_s {c' : zMem} (f : fr sI sL c c') (h : tC 0 T c) : tC 0 T c' := tC_fr f (fun _ => ⟨rfl, rfl, rfl, rfl, rfl, rfl⟩) h
theorem free_loop2 {k a : Nat} (hk : k < 7) (ha : a ≤ 9) (h10 : tn T < 10) : ∀ (d kf s : Nat) (x3 x4 : Int32) (c r : zMem), s + d = tz T → d < kf → Rel T c r → OK2 (s_X6_bestFreeSeat_L8 kf (zi k) (zi a) x3 x4 (zi s) c) (s_X7_freeSeat_L75 kf (zi k) (zi a) x3 x4 (zi s) r) := by
  intro d
  induction d with
  | zero =>
    intro kf s x3 x4 c r hs hkf h
    obtain ⟨kf, rfl⟩ : ∃ z, kf = z + 1 := ⟨kf - 1, by omega⟩
    have hz := h.1.2.2.1
    unfold s_X6_bestFreeSeat_L8 s_X7_freeSeat_L75
    rw [h.2.1.2.1, h.2.2.1.2.1, if_pos ((zi_len (by omega) (by omega)).mpr (by omega)), if_pos ((zi_len (by omega) (by omega)).mpr (by omega))]
    exact ok2_same h rfl
  | succ d ih =>
    intro kf s x3 x4 c r hs hkf h
    obtain ⟨kf, rfl⟩ : ∃ z, kf = z + 1 := ⟨kf - 1, by omega⟩
    have hz := h.1.2.2.1
    have hlt : ¬ zi (tz T : Nat) ≤ zi (s : Nat) := fun w => by rw [zi_len (by omega) (by omega)] at w; omega
    unfold s_X6_bestFreeSeat_L8 s_X7_freeSeat_L75 s_X6_bestFreeSeat_L77 s_X7_freeSeat_L138
    rw [h.2.1.2.1, h.2.2.1.2.1, if_neg hlt, if_neg hlt, zi_s1]
    rcases (seat2 h.2.1 h.2.2.1 h.1 (zi s)).symm with ⟨f1, f2⟩ | ⟨s', f0, fe, f3, f1, f2⟩
    · rw [f1, f2, zr_some, zr_some, ite_00, ite_00]
      exact ih kf (s + 1) x3 x4 c r (by omega) (by omega) h
    · obtain rfl : s = s' := (zi_eqn (by omega) (by omega)).mp fe
      rw [f1, f2, zr_some, zr_some, ite_10, ite_10]
      obtain ⟨c1, a1, a2, a3, -⟩ := takeOver_C (t := 1) h.2.1 h.1.1 (by decide)
      obtain ⟨c2, b1, b2, b3, -⟩ := add_C a2 h10 k s a
      have hok := add_ok h.1 h10 hk f0 ha f3
      rw [a1, zr_some, b1, zr_some, wPairs_C b2 hok, zr_some]
      obtain ⟨r1, d1, d2, d3⟩ := add_R h.2.2.1 h10 k s a
      obtain ⟨r2, g1, g2, g3⟩ := lists_R hok d2
      rw [d1, zb_some, g1, zb_some, zlet_eq]
      have t2 := tR_eL g3 d2
      rw [t2.1, show zi (tn (tAdd T k s a) : Nat) - 1 = zi (tn T : Nat) from zi_subn (a := tn T + 1) (b := 1) (by omega)]
      have fc : fr sI sL c c2 := fr_trans (fr_T1 a3) (fr_T1 b3)
      have fr3 : fr mR rL r (wI r2 64 0 0 (zi (tn T))) := fr_wI (fr_trans (fr_fR d3) (fr_rm (fr_eL g3))) rfl
      have h2 : Rel T c2 (wI r2 64 0 0 (zi (tn T))) := by
        obtain ⟨p1, p2, p3, p4⟩ := t2
        obtain ⟨q1, q2, q3⟩ := h.2.2.2.1
        obtain ⟨w1, w2, w3⟩ := cnt_s fc
        refine Rel_tab (fr_sm fc) fr3 h h.1 (tC_s fc h.2.1) ⟨by simp [wI_1], by simp [wI_1, p2]; rfl, by simp [wI_1, p3]; rfl, fun g hg => ?_⟩ ⟨?_, ?_, ?_⟩ (Nat.le_refl _)
        · obtain ⟨v1, v2, v3, v4, v5⟩ := p4 g (show g < tn T + 1 by omega)
          have gn : g ≠ tn T := by omega
          refine ⟨?_, ?_, ?_, ?_, ?_⟩
          · simp [wI_1, v1]; exact congrArg (fun q : Nat => zi q) (upn_ne gn)
          · simp [wI_1, v2]; exact congrArg (fun q : Nat => zi q) (upn_ne gn)
          · simp [wI_1, v3]; exact congrArg (fun q : Nat => zi q) (upn_ne gn)
          · simp [wI_1, v4]; exact congrArg (fun q : Nat => zi q) (upn_ne gn)
          · simp [wI_1, v5]; exact congrArg (fun q : Nat => zi q) (upn_ne gn)
        · rw [w1, q1]; simp [wI_1]; rw [g3.1 64 0 3 rfl, d3.1 64 0 3 rfl]
        · rw [w2, q2]; simp [wI_1]; rw [g3.1 64 0 4 rfl, d3.1 64 0 4 rfl]
        · rw [w3, q3]; simp [wI_1]; rw [g3.1 64 0 5 rfl, d3.1 64 0 5 rfl]
      by_cases hq : x4 < zi (pLs (tAdd T k s a)).length
      · rw [if_pos hq, if_neg (fun w => (i32_nlt _ _).mpr w hq)]
        exact ih kf (s + 1) _ _ c2 _ (by omega) (by omega) h2
      · rw [if_neg hq, if_pos ((i32_nlt _ _).mp hq)]
        exact ih kf (s + 1) _ _ c2 _ (by omega) (by omega) h2
theorem ok2_zb {x y : Option (Int32 × zMem)} (h : OK2 x y) : OK2 (zb x (fun a m => some (a, m))) y := by
  obtain ⟨a, c', r', T', e1, e2, e3⟩ := h
  subst e1
  exact ⟨a, c', r', T', rfl, e2, e3⟩
theorem op_freeSeat (h : Rel T c r) (a b : Int32) : OK2 (s_X6_freeSeat a b c) (s_X7_freeSeat a b r) := by
  have hn := h.1.1
  have hz := h.1.2.2.1
  have R1 := ok2_ref h 1 (by omega) (by omega) (show (-1 : Int32) = zi (-((1 : Nat) : Int)) from rfl)
  have R5 := ok2_ref h 5 (by omega) (by omega) (show (-5 : Int32) = zi (-((5 : Nat) : Int)) from rfl)
  have R6 := ok2_ref h 6 (by omega) (by omega) (show (-6 : Int32) = zi (-((6 : Nat) : Int)) from rfl)
  have R7 := ok2_ref h 7 (by omega) (by omega) (show (-7 : Int32) = zi (-((7 : Nat) : Int)) from rfl)
  unfold s_X6_freeSeat s_X7_freeSeat s_X7_freeSeat_L10 s_X7_freeSeat_L44 s_X6_isKind s_X6_isAmount s_X5_isFull s_X6_bestFreeSeat
  obtain ⟨x, rfl, x1, x2⟩ := zi_of a
  obtain ⟨y, rfl, y1, y2⟩ := zi_of b
  have l7 : 7 ≤ zi x ↔ 7 ≤ x := zi_le (a := 7) (by omega) (by omega) x1 x2
  have l6 : zi x ≤ 6 ↔ x ≤ 6 := zi_le (b := 6) x1 x2 (by omega) (by omega)
  have l9 : 9 < zi y ↔ 9 < y := zi_lt (a := 9) (by omega) (by omega) y1 y2
  have l9' : zi y ≤ 9 ↔ y ≤ 9 := zi_le (b := 9) y1 y2 (by omega) (by omega)
  by_cases h1 : x < 0
  · rw [if_pos ((lt0 x1 x2).mpr h1), if_pos ((lt0 x1 x2).mpr h1)]; exact R1
  rw [if_neg (fun w => h1 ((lt0 x1 x2).mp w)), if_neg (fun w => h1 ((lt0 x1 x2).mp w))]
  by_cases h2 : 7 ≤ x
  · have n6 : ¬ zi x ≤ 6 := fun w => by have := l6.mp w; omega
    rw [if_pos (l7.mpr h2), if_neg n6]; exact R1
  rw [if_neg (fun w => h2 (l7.mp w)), if_pos (l6.mpr (by omega)), zr_some, ite_10]
  obtain ⟨fb, b1, b2, b3⟩ := freeBits_C h.2.1 h.1
  have hfb := free_none h.1 b3
  rw [b1, zr_some, h.2.2.1.1, h.2.2.1.2.1, h.2.1.1]
  by_cases h3 : tn T = tz T
  · rw [if_pos (show zi (fb : Nat) = 0 from by rw [hfb.mpr h3]; rfl), if_pos (by rw [h3])]; exact R5
  have f0 : ¬ zi (fb : Nat) = 0 := fun w => h3 (hfb.mp ((zi_eqn (b := 0) (by omega) (by omega)).mp w))
  have t0 : ¬ zi (tn T : Nat) = zi (tz T : Nat) := fun w => h3 ((zi_eqn (by omega) (by omega)).mp w)
  rw [if_neg f0, if_neg t0]
  by_cases h4 : y < 0
  · rw [if_pos ((lt0 y1 y2).mpr h4), if_pos ((lt0 y1 y2).mpr h4)]; exact R6
  rw [if_neg (fun w => h4 ((lt0 y1 y2).mp w)), if_neg (fun w => h4 ((lt0 y1 y2).mp w))]
  by_cases h5 : 9 < y
  · have n9 : ¬ zi y ≤ 9 := fun w => by have := l9'.mp w; omega
    rw [if_pos (l9.mpr h5), if_neg n9]; exact R6
  rw [if_neg (fun w => h5 (l9.mp w)), if_pos (l9'.mpr (by omega)), zr_some, ite_10]
  have h10 : (10 : Int32) = zi (10 : Nat) := rfl
  rw [h10]
  by_cases h6 : tn T = 10
  · have n10' : ¬ zi (tn T : Nat) < zi (10 : Nat) := fun w => by rw [zi_ltn (by omega) (by omega)] at w; omega
    rw [if_neg n10', if_pos (show zi (tn T : Nat) = zi (10 : Nat) by rw [h6]), zr_some, ite_10]; exact R7
  have n10e : ¬ zi (tn T : Nat) = zi (10 : Nat) := fun w => h6 ((zi_eqn (by omega) (by omega)).mp w)
  rw [if_pos ((zi_ltn (by omega) (by omega)).mpr (by omega)), if_neg n10e, zr_some, ite_00]
  obtain ⟨k, rfl⟩ : ∃ k : Nat, x = k := ⟨x.toNat, by omega⟩
  obtain ⟨q, rfl⟩ : ∃ k : Nat, y = k := ⟨y.toNat, by omega⟩
  exact ok2_zb (free_loop2 (by omega) (by omega) (by omega) (tz T) zF 0 _ _ c r (by omega) (by unfold zF; omega) h)
end Z4
