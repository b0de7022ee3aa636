/-! OPS: judge, behind -/
section ZA
variable {T : zTab} {c r : zMem}
def eY1 : zEx := fun c j k => Nat.beq c 70 || (Nat.beq c 85 || ((Nat.beq c 64 && Nat.beq k 37) || eL c j k))
theorem fr_Y1 {m m' : zMem} (h : fr eY1 e0 m m') : fr mR rL m m' := fr_mono h (fun x j k w => by
  have h70 : ¬ x = 70 := fun a => by subst a; exact absurd w (by simp [mR])
  have h85 : ¬ x = 85 := fun a => by subst a; exact absurd w (by simp [mR, rI'])
  have h81 : ¬ x = 81 := fun a => by subst a; exact absurd w (by simp [mR, rI'])
  have h82 : ¬ x = 82 := fun a => by subst a; exact absurd w (by simp [mR, rI'])
  unfold eY1 eL
  rw [beqf h70, beqf h85, beqf h81, beqf h82]
  by_cases b : x = 64
  · subst b
    have h37 : ¬ k = 37 := fun a => by subst a; exact absurd w (by simp [mR, rI'])
    have h30 : ¬ k = 30 := fun a => by subst a; exact absurd w (by simp [mR, rI'])
    rw [beqf h37, beqf h30]; rfl
  · rw [beqf b]; rfl) (fun _ _ _ _ => rfl)
theorem fr_Y10 {m m' : zMem} (h : fr eY0 e0 m m') : fr eY1 e0 m m' := fr_mono h (fun x j k w => by
  unfold eY1 at w
  obtain ⟨w1, w2⟩ := Bool.or_eq_false_iff.mp w
  obtain ⟨w3, w4⟩ := Bool.or_eq_false_iff.mp w2
  obtain ⟨w5, w6⟩ := Bool.or_eq_false_iff.mp w4
  unfold eY0
  rw [w1, w5]; rfl) (fun _ _ _ _ => rfl)
theorem fr_Y1L {m m' : zMem} (h : fr eL e0 m m') : fr eY1 e0 m m' := fr_mono h (fun x j k w => by
  unfold eY1 at w
  obtain ⟨w1, w2⟩ := Bool.or_eq_false_iff.mp w
  obtain ⟨w3, w4⟩ := Bool.or_eq_false_iff.mp w2
  obtain ⟨w5, w6⟩ := Bool.or_eq_false_iff.mp w4
  exact w6) (fun _ _ _ _ => rfl)
theorem fr_Y185 {m m' : zMem} (h : fr (fun x _ _ => Nat.beq x 85) e0 m m') : fr eY1 e0 m m' := fr_mono h (fun x j k w => by
  unfold eY1 at w
  obtain ⟨w1, w2⟩ := Bool.or_eq_false_iff.mp w
  exact (Bool.or_eq_false_iff.mp w2).1) (fun _ _ _ _ => rfl)
theorem fr_Y170 {m m' : zMem} (h : fr (fun x _ _ => Nat.beq x 70) e0 m m') : fr eY1 e0 m m' := fr_mono h (fun x j k w => by
  unfold eY1 at w
  exact (Bool.or_eq_false_iff.mp w).1) (fun _ _ _ _ => rfl)
theorem eve2 (h : Rel T c r) (a b : Int32) : (∃ s o l n, s < 8 ∧ a = zi (s : Nat) ∧ b = zi (n : Nat) ∧ n ≤ 60 ∧ n ≤ l ∧ shR s o l c r ∧ s_X6_refusalOfEvening a b c = some 0 ∧ s_X7_bars a b r = some 0 ∧ s_X7_barsOf a b r = some 0) ∨ (∃ k : Nat, 1 ≤ k ∧ k ≤ 5 ∧ s_X6_refusalOfEvening a b c = some (zi (-(k : Int))) ∧ s_X7_bars a b r = some (zi (-(k : Int))) ∧ s_X7_barsOf a b r = some (zi (-(k : Int)))) ∨ (s_X6_refusalOfEvening a b c = some (-6) ∧ s_X7_bars a b r = some 0 ∧ s_X7_barsOf a b r = some (-6)) := by
  unfold s_X6_refusalOfEvening s_X7_barsOf s_X7_bars
  rcases (rowB h a).symm with ⟨k, k1, k2, k3, k4⟩ | ⟨s, o, l, s1, rfl, q, k3, k4⟩
  · have n6 := neg_ne0 k1 (show k ≤ 7 by omega)
    refine Or.inr (Or.inl ⟨k, k1, by omega, ?_, ?_, ?_⟩)
    · rw [k3, zr_some, if_neg n6]
    · rw [k4, zr_some, if_neg n6]
    · rw [k4, zr_some, if_neg n6, zr_some, if_neg n6]
  · have hl := q.2.1
    obtain ⟨y, rfl, y1, y2⟩ := zi_of b
    have z0 : 0 ≤ zi y ↔ 0 ≤ y := zi_le (a := 0) (by omega) (by omega) y1 y2
    have zl : zi y ≤ zi (l : Nat) ↔ y ≤ l := zi_le y1 y2 (by omega) (by omega)
    have z6 : zi y ≤ 60 ↔ y ≤ 60 := zi_le (b := 60) y1 y2 (by omega) (by omega)
    rw [k3, k4, zr_some, zr_some, ite_00, ite_00, chk_zn s1 (by decide), chk_zn s1 (by decide), ix_zn (by omega), q.2.2.2.1, q.2.2.2.2.2.2.1]
    by_cases h0 : 0 ≤ y
    · rw [if_pos (z0.mpr h0), if_pos (z0.mpr h0)]
      by_cases h1 : y ≤ l
      · rw [if_pos (zl.mpr h1), if_pos (zl.mpr h1), zr_some, ite_00]
        by_cases h2 : y ≤ 60
        · rw [if_pos (z6.mpr h2)]
          exact Or.inl ⟨s, o, l, y.toNat, s1, rfl, congrArg zi (by omega), by omega, by omega, q, rfl, rfl, rfl⟩
        · rw [if_neg (fun w => h2 (z6.mp w))]
          exact Or.inr (Or.inr ⟨rfl, rfl, rfl⟩)
      · rw [if_neg (fun w => h1 (zl.mp w)), if_neg (fun w => h1 (zl.mp w))]
        exact Or.inr (Or.inl ⟨5, by omega, by omega, rfl, rfl, rfl⟩)
    · rw [if_neg (fun w => h0 (z0.mp w)), if_neg (fun w => h0 (z0.mp w))]
      exact Or.inr (Or.inl ⟨4, by omega, by omega, rfl, rfl, rfl⟩)
theorem hear2 (h : Rel T c r) {s o l n : Nat} (hs : s < 8) (q : shR s o l c r) (hnl : n ≤ l) : ∃ x c1 c2 r1 r2 T', s_X2_draw 0 c = some c1 ∧ s_X1_firstWrong s (zi n) c1 = some (x, c2) ∧ s_X7_keepsHad r = some r1 ∧ s_X7_wrongIn (zi s) (zi n) r1 = some (x, r2) ∧ HI T T' [] ∧ tR T' r2 ∧ c2.2 18 0 0 = zw (mk (pLs T) (pLs T')) ∧ c2.1 18 0 1 = r2.1 64 0 37 ∧ fr sI sL c c2 ∧ fr eY1 e0 r r2 ∧ (∀ j, j < 10 → r2.1 85 0 j = r.1 70 0 j) := by
  have hO := h.1
  have h45 := pLs_45 hO
  have hl := q.2.1
  obtain ⟨c1, a1, a2, a3⟩ := draw2 h
  obtain ⟨r1, b1, b2, b3⟩ := keeps_R r
  have hT1 : tR T r1 := tR_fr b3 rfl rfl rfl (fun _ => ⟨rfl, rfl, rfl, rfl, rfl⟩) h.2.2.1
  have main : ∀ v : Int32, ∃ x c2 r2 T', s_X1_firstWrong_L27 zF s (zi n) 0 0 (wI (wL c1 18 0 0 (zw (2 ^ (pLs T).length - 1))) 18 0 1 v) = some (x, c2) ∧ s_X7_wrongIn_L18 zF (zi s) (zi n) 0 0 (wI r1 64 0 37 v) = some (x, r2) ∧ HI T T' [] ∧ tR T' r2 ∧ c2.2 18 0 0 = zw (mk (pLs T) (pLs T')) ∧ c2.1 18 0 1 = r2.1 64 0 37 ∧ fr sI sL c c2 ∧ fr eY1 e0 r r2 ∧ (∀ j, j < 10 → r2.1 85 0 j = r.1 70 0 j) := fun v => by
    have f1 : fr sI sL c (wI (wL c1 18 0 0 (zw (2 ^ (pLs T).length - 1))) 18 0 1 v) := fr_wI (fr_wL a3 rfl) rfl
    have f2 : fr (fun y _ k => Nat.beq y 85 || (Nat.beq y 64 && Nat.beq k 37)) e0 r (wI r1 64 0 37 v) := fr_wI (fr_mono b3 (fun _ _ _ w => (Bool.or_eq_false_iff.mp w).1) (fun _ _ _ _ => rfl)) rfl
    have q' : shR s o l (wI (wL c1 18 0 0 (zw (2 ^ (pLs T).length - 1))) 18 0 1 v) (wI r1 64 0 37 v) := shR_fr f1 f2 ⟨rfl, rfl⟩ (fun _ _ => rfl) ⟨rfl, rfl, rfl⟩ (fun _ _ => rfl) q
    have t' : tR T (wI r1 64 0 37 v) := by
      obtain ⟨p1, p2, p3, p4⟩ := hT1
      refine ⟨by simp [wI_1, p1], by simp [wI_1, p2], by simp [wI_1, p3], fun g hg => ?_⟩
      simp [wI_1, p4 g hg]
    obtain ⟨x, c2, r2, T', d1, d2, d3, d4, d5, d6, d7, d8⟩ := hear_loop hO hs q' hnl n zF zF 0 0 T [] _ _ (by omega) (by unfold zF; omega) (by unfold zF; omega) (Nat.le_refl _) ⟨hO, rfl, rfl, List.Sublist.refl _, fun _ hx => by cases hx⟩ ⟨fun k a b => by omega, fun x hx => by cases hx⟩ (pC_18' (pC_18 a2)) t' (by rw [wI_2, wL_2, if_pos ⟨rfl, rfl, rfl⟩, mk_self hO]) (by simp [wI_1]) (fr_refl _ _ _) (fr_refl _ _ _)
    rw [mk_nil] at d1
    refine ⟨x, c2, r2, T', d1, d2, d3, d4, d5, d6, fr_trans f1 d7, fr_trans (fr_Y185 b3) (fr_trans (fr_wI (fr_refl _ _ _) rfl) (fr_Y10 d8)), fun j hj => ?_⟩
    rw [d8.1 85 0 j rfl]; simp [wI_1, b2 j hj]
  unfold s_X1_firstWrong s_X7_wrongIn s_X1_firstWrong_L18 s_X7_wrongIn_L12
  by_cases e : n = 0
  · obtain ⟨x, c2, r2, T', d⟩ := main 0
    refine ⟨x, c1, c2, r1, r2, T', a1, ?_, b1, ?_, d.2.2⟩
    · rw [all_C a2 h45, zr_some, zlet_eq, if_pos (show zi (n : Nat) ≤ 0 from (zi_len (b := 0) (by omega) (by omega)).mpr (by omega)), zlet_eq]; exact d.1
    · rw [if_pos (show zi (n : Nat) = 0 from by rw [e]; rfl), zlet_eq]; exact d.2.1
  · obtain ⟨x, c2, r2, T', d⟩ := main 1
    refine ⟨x, c1, c2, r1, r2, T', a1, ?_, b1, ?_, d.2.2⟩
    · have n0 : ¬ zi (n : Nat) ≤ 0 := fun w => by have := (zi_len (b := 0) (by omega) (by omega)).mp w; omega
      rw [all_C a2 h45, zr_some, zlet_eq, if_neg n0, zlet_eq]; exact d.1
    · have n0 : ¬ zi (n : Nat) = 0 := fun w => e ((zi_eqn (b := 0) (by omega) (by omega)).mp w)
      rw [if_neg n0, zlet_eq]; exact d.2.1
/-- what was had brought back -/
theorem back2 (h : Rel T c r) {c2 r2 : zMem} (f1 : fr sI sL c c2) (f2 : fr eY1 e0 r r2) (h85 : ∀ j, j < 10 → r2.1 85 0 j = r.1 70 0 j) : ∃ r3, s_X7_bringsHad r2 = some r3 ∧ Rel T c2 r3 ∧ r3.1 64 0 37 = r2.1 64 0 37 := by
  have hn := h.1.1
  obtain ⟨r3, b1, b2, b3⟩ := brings_R r2
  obtain ⟨q1, q2, q3⟩ := h.2.2.2.1
  obtain ⟨w1, w2, w3⟩ := cnt_s f1
  have f3 : fr eY1 e0 r r3 := fr_trans f2 (fr_Y170 b3)
  refine ⟨r3, b1, Rel_tab (fr_sm f1) (fr_Y1 f3) h h.1 (tC_s f1 h.2.1) ?_ ⟨?_, ?_, ?_⟩ (Nat.le_refl _), b3.1 64 0 37 rfl⟩
  · obtain ⟨p1, p2, p3, p4⟩ := h.2.2.1
    refine ⟨(f3.1 64 0 0 rfl).trans p1, (f3.1 64 0 1 rfl).trans p2, (f3.1 64 0 2 rfl).trans p3, fun g hg => ?_⟩
    obtain ⟨v1, v2, v3, v4, v5⟩ := p4 g hg
    exact ⟨(f3.1 66 0 g rfl).trans v1, (f3.1 68 0 g rfl).trans v2, (f3.1 67 0 g rfl).trans v3, (f3.1 69 0 g rfl).trans v4, (b2 g (by omega)).trans ((h85 g (by omega)).trans v5)⟩
  · rw [w1, q1, f3.1 64 0 3 rfl]
  · rw [w2, q2, f3.1 64 0 4 rfl]
  · rw [w3, q3, f3.1 64 0 5 rfl]
theorem op_judge (h : Rel T c r) (a b : Int32) : OK2 (s_X6_judge a b c) (s_X7_judge a b r) := by
  unfold s_X6_judge s_X7_judge
  rcases eve2 h a b with ⟨s, o, l, n, s1, rfl, rfl, n6, nl, q, k1, k2, k3⟩ | ⟨k, k0, k5, k1, k2, k3⟩ | ⟨k1, k2, k3⟩
  · obtain ⟨x, c1, c2, r1, r2, T', d1, d2, d3, d4, d5, d6, d7, d8, d9, d10, d11⟩ := hear2 h s1 q nl
    obtain ⟨r3, e1, e2, -⟩ := back2 h d9 d10 d11
    rw [k1, k3, zr_some, zr_some, ite_00, ite_00, d1, zr_some, chk_zn s1 (by decide), ix_zn (by omega), d2, zb_some, d3, zr_some, d4, zb_some, e1, zr_some]
    exact ok2_same e2 rfl
  · have n6 := neg_ne0 k0 (show k ≤ 7 by omega)
    rw [k1, k3, zr_some, zr_some, if_neg n6, if_neg n6]
    exact ok2_ten h k k0 (by omega) rfl
  · rw [k1, k3, zr_some, zr_some]
    exact ok2_ten h 6 (by omega) (by omega) rfl
theorem op_behind (h : Rel T c r) (a b d : Int32) : OK2 (s_X6_behind a b d c) (s_X7_behind a b d r) := by
  have hn := h.1.1
  have hO := h.1
  have hL := pOK_pLs hO
  have R5 := ok2_ref h 5 (by omega) (by omega) (show (-5 : Int32) = zi (-((5 : Nat) : Int)) from rfl)
  have n5 : ¬ (-5 : Int32) = 0 := by decide
  have n6 : ¬ (-6 : Int32) = 0 := by decide
  unfold s_X6_behind s_X7_behind s_X6_behind_L20 s_X7_behind_L22 s_X7_behind_L26
  obtain ⟨y, rfl, y1, y2⟩ := zi_of d
  have z1 : zi y = 0 ↔ y = 0 := zi_eq (b := 0) y1 y2 (by omega) (by omega)
  have z2 : zi y = 1 ↔ y = 1 := zi_eq (b := 1) y1 y2 (by omega) (by omega)
  have z4 : zi y ≤ 1 ↔ y ≤ 1 := zi_le (b := 1) y1 y2 (by omega) (by omega)
  have z5 : zi y < 0 ↔ y < 0 := lt0 y1 y2
  rcases eve2 h a b with ⟨s, o, l, n, s1, rfl, rfl, n60, nl, q, k1, k2, k3⟩ | ⟨k, k0, k5, k1, k2, k3⟩ | ⟨k1, k2, k3⟩
  · have run : OK2 (s_X6_behind_L33 (zi s) (zi n) (zi y) 0 c) (s_X7_behind_L39 (zi s) (zi n) (zi y) 0 r) := by
      obtain ⟨x, c1, c2, r1, r2, T', d1, d2, d3, d4, d5, d6, d7, d8, d9, d10, d11⟩ := hear2 h s1 q nl
      obtain ⟨r2', g1, g2, g3⟩ := lists_R d5.1 d6
      obtain ⟨r3, e1, e2, e3⟩ := back2 h d9 (fr_trans d10 (fr_Y1L g3)) (fun j hj => (g3.1 85 0 j rfl).trans (d11 j hj))
      unfold s_X6_behind_L33 s_X7_behind_L39
      rw [ite_00, ite_00, d1, zr_some, chk_zn s1 (by decide), ix_zn (by omega), d2, zb_some, d3, zr_some, d4, zb_some, g1, zb_some, e1, zr_some]
      by_cases ex : x = -1
      · rw [if_pos ex, if_pos ex]
        by_cases ey : zi y = 0
        · rw [if_pos ey, if_pos ey, d7, lbc (mk_45 hL.1), zr_some, mk_cnt hL.2.1 hL.1 d5.2.2.2.1]
          exact ok2_same e2 rfl
        · rw [if_neg ey, if_neg ey]
          exact ok2_same e2 (by rw [d8, e3, g3.1 64 0 37 rfl])
      · rw [if_neg ex, if_neg ex]
        exact ok2_ref e2 6 (by omega) (by omega) rfl
    have bad : OK2 (s_X6_behind_L33 (zi s) (zi n) (zi y) (-5) c) (s_X7_behind_L39 (zi s) (zi n) (zi y) (-5) r) := by
      unfold s_X6_behind_L33 s_X7_behind_L39
      rw [if_neg n5, if_neg n5]; exact R5
    rw [k1, k2, k3, zr_some, zr_some, ite_00, ite_00, ite_00, if_neg n5, zr_some]
    by_cases x0 : y = 0
    · rw [if_pos (z1.mpr x0), if_neg (fun w => by have := z5.mp w; omega), if_pos (z4.mpr (by omega))]; exact run
    rw [if_neg (fun w => x0 (z1.mp w))]
    by_cases x1 : y = 1
    · rw [if_pos (z2.mpr x1), if_neg (fun w => by have := z5.mp w; omega), if_pos (z4.mpr (by omega))]; exact run
    rw [if_neg (fun w => x1 (z2.mp w))]
    by_cases x3 : y < 0
    · rw [if_pos (z5.mpr x3)]; exact bad
    · have x4 : ¬ zi y ≤ 1 := fun w => by have := z4.mp w; omega
      rw [if_neg (fun w => x3 (z5.mp w)), if_neg x4]; exact bad
  · have nk := neg_ne0 k0 (show k ≤ 7 by omega)
    have nk6 : ¬ zi (-(k : Int)) = -6 := fun w => by rw [li_m6, zi_eq (by omega) (by omega) (by omega) (by omega)] at w; omega
    rw [k1, k2, zr_some, zr_some, if_neg nk, if_neg nk6, if_neg nk, if_neg nk]
    unfold s_X6_behind_L33 s_X7_behind_L39
    rw [if_neg nk, if_neg nk]
    exact ok2_ref h k k0 (by omega) rfl
  · have bad : OK2 (s_X6_behind_L33 a b (zi y) (-5) c) (s_X7_behind_L39 a b (zi y) (-5) r) := by
      unfold s_X6_behind_L33 s_X7_behind_L39
      rw [if_neg n5, if_neg n5]; exact R5
    have bad6 : OK2 (s_X6_behind_L33 a b (zi y) (-6) c) (s_X7_behind_L39 a b (zi y) (-6) r) := by
      unfold s_X6_behind_L33 s_X7_behind_L39
      rw [if_neg n6, if_neg n6]; exact ok2_ref h 6 (by omega) (by omega) rfl
    rw [k1, k2, k3, zr_some, zr_some, if_neg n6, if_pos rfl, ite_00, ite_00, if_neg n5, zr_some]
    by_cases x0 : y = 0
    · rw [if_pos (z1.mpr x0), if_neg (fun w => by have := z5.mp w; omega), if_pos (z4.mpr (by omega))]; exact bad6
    rw [if_neg (fun w => x0 (z1.mp w))]
    by_cases x1 : y = 1
    · rw [if_pos (z2.mpr x1), if_neg (fun w => by have := z5.mp w; omega), if_pos (z4.mpr (by omega))]; exact bad6
    rw [if_neg (fun w => x1 (z2.mp w))]
    by_cases x3 : y < 0
    · rw [if_pos (z5.mpr x3)]; exact bad
    · have x4 : ¬ zi y ≤ 1 := fun w => by have := z4.mp w; omega
      rw [if_neg (fun w => x3 (z5.mp w)), if_neg x4]; exact bad
end ZA
