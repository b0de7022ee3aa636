/-! OPS: bestChange -/
section Z5
variable {T : zTab} {c r : zMem}
theorem upC_1 : ∀ (S : List (List zPr)) (b : Nat) (s : List zPr), (S.foldl upC (b, s)).1 = S.foldl (fun x t => max x t.length) b
  | [], _, _ => rfl
  | t :: S, b, s => by
    rw [List.foldl_cons, List.foldl_cons]
    by_cases e : b < t.length
    · rw [show upC (b, s) t = (t.length, t) from if_pos e, upC_1 S, show max b t.length = t.length from by omega]
    · rw [show upC (b, s) t = (b, s) from if_neg e, upC_1 S, show max b t.length = b from by omega]
theorem mx_b : ∀ (S : List (List zPr)) (b : Nat), S.foldl (fun x t => max x t.length) b = max b (S.foldl (fun x t => max x t.length) 0)
  | [], b => by show b = max b 0; omega
  | t :: S, b => by
    rw [List.foldl_cons, List.foldl_cons, mx_b S (max b t.length), mx_b S (max 0 t.length)]; omega
theorem upC_max (S : List (List zPr)) (b : Nat) (s : List zPr) : (S.foldl upC (b, s)).1 = max b (S.foldl upC (0, [])).1 := by
  rw [upC_1, upC_1, mx_b]
theorem swp_swp (f : Nat → Nat) (g h : Nat) : swp (swp f g h) g h = f := by
  funext i
  unfold swp
  by_cases e1 : i = h
  · subst e1
    by_cases e2 : g = i
    · subst e2; simp
    · simp [e2]
  · by_cases e2 : i = g
    · subst e2; simp [e1]
    · simp [e1, e2]
theorem tSwp_swp (T : zTab) (g h : Nat) : tSwp (tSwp T g h) g h = T := by
  show (tn T, tz T, te T, tK T, swp (swp (tS T) g h) g h, tA T, tB T, tH T) = T
  rw [swp_swp]
theorem fr_31 {a b : zMem} (q : fr (fun c j _ => Nat.beq c 3 && Nat.beq j 1) e0 a b) : fr sI sL a b := fr_mono q (fun x j k w => by
  by_cases e : x = 3
  · subst e
    unfold sI at w
    rw [Bool.or_eq_false_iff, Bool.or_eq_false_iff] at w
    exact w.2.1
  · rw [beqf e]; rfl) (fun _ _ _ _ => rfl)
theorem fr_68 {a b : zMem} (q : fr (fun c j _ => Nat.beq c 68) e0 a b) : fr mR rL a b := fr_mR (x := 68) (by omega) q
def mq (T : zTab) : Nat := (mst T (pLs T) (fun _ => true)).1
theorem try_C (hO : tOK T) (hT : tC 1 T c) {p q most : Nat} (hp : p < tn T) (hq : q < tn T) (hm : most ≤ 5) : ∃ c1 c2 c3 c4 op, s_X5_swap 1 (zi p) (zi q) c = some c1 ∧ s_X2_draw 1 c1 = some c2 ∧ s_X2_all c2 = some op ∧ (∃ z, s_X2_largest op (zi most) c2 = some (z, c3)) ∧ s_X5_swap 1 (zi p) (zi q) c3 = some c4 ∧ c4.1 10 0 8 = zi (max most (mq (tSwp T p q)) : Nat) ∧ tC 1 T c4 ∧ fr sI sL c c4 := by
  have hO1 := swp_ok hO hp hq
  obtain ⟨c1, a1, a2, a3⟩ := swp_C hT hO hp hq
  obtain ⟨c2, b1, b2, b3⟩ := draw_C hO1 a2
  have hL := pOK_pLs hO1
  have h45 := pLs_45 hO1
  obtain ⟨c3, d1, d2, d3⟩ := largest_C (T := tSwp T p q) hO1.1 hL b2 (mks_all' hO1) (show most ≤ 100 by omega)
  have hT3 : tC 1 (tSwp T p q) c3 := tC_fr d3 (fun _ => ⟨rfl, rfl, rfl, rfl, rfl, rfl⟩) (tC_eD b3 a2)
  obtain ⟨c4, g1, g2, g3⟩ := swp_C hT3 hO1 hp hq
  rw [tSwp_swp] at g2
  refine ⟨c1, c2, c3, c4, _, a1, b1, all_C b2 h45, ⟨_, d1⟩, g1, ?_, g2, fr_trans (fr_31 a3) (fr_trans (fr_eD b3) (fr_trans (fr_eK d3) (fr_31 g3)))⟩
  rw [g3.1 10 0 8 rfl, d2.1, upC_max]
  rfl
theorem try_R (hO : tOK T) (hT : tR T r) {p q : Nat} (hp : p < tn T) (hq : q < tn T) : ∃ r1 r2 r3, s_X7_changes (zi p) (zi q) r = some r1 ∧ s_X7_mostOf r1 = some (zi (mq (tSwp T p q)), r2) ∧ s_X7_changes (zi p) (zi q) r2 = some r3 ∧ tR T r3 ∧ fr mR rL r r3 ∧ (r3.1 64 0 3 = r.1 64 0 3 ∧ r3.1 64 0 4 = r.1 64 0 4 ∧ r3.1 64 0 5 = r.1 64 0 5) := by
  have hO1 := swp_ok hO hp hq
  obtain ⟨r1, a1, a2, a3⟩ := swp_R hT hO hp hq
  obtain ⟨r2, b1, -, -, -, -, b6⟩ := mostOf_T hO1 a2
  have hT2 : tR (tSwp T p q) r2 := tR_fr b6 rfl rfl rfl (fun _ => ⟨rfl, rfl, rfl, rfl, rfl⟩) a2
  obtain ⟨r3, d1, d2, d3⟩ := swp_R hT2 hO1 hp hq
  rw [tSwp_swp] at d2
  exact ⟨r1, r2, r3, a1, b1, d1, d2, fr_trans (fr_68 a3) (fr_trans (fr_rm (fr_rM b6)) (fr_68 d3)), by rw [d3.1 64 0 3 rfl, b6.1 64 0 3 rfl, a3.1 64 0 3 rfl], by rw [d3.1 64 0 4 rfl, b6.1 64 0 4 rfl, a3.1 64 0 4 rfl], by rw [d3.1 64 0 5 rfl, b6.1 64 0 5 rfl, a3.1 64 0 5 rfl]⟩
theorem best_in {p : Nat} (hp : p < tn T) {k : Int32 → Int32 → Int32 → zMem → Option (Int32 × zMem)} {k' : Int32 → Int32 → Int32 → zMem → Option (Int32 × zMem)} (hk : ∀ (most : Nat) (x : Int32) (c r : zMem), most ≤ 5 → Rel T c r → tC 1 T c → OK2 (k (zi most) x (zi (p + 1 : Nat)) c) (k' (zi most) x (zi (p + 1 : Nat)) r)) :
    ∀ (d kf q most : Nat) (x : Int32) (c r : zMem), q + d = tn T → d < kf → p < q → most ≤ 5 → Rel T c r → tC 1 T c → OK2 (s_X6_bestChange_L66 k kf (zi most) x (zi p) (zi q) c) (s_X7_bestChange_L22 k' kf (zi most) x (zi p) (zi q) r) := by
  intro d
  induction d with
  | zero =>
    intro kf q most x c r hq hkf hpq hm h h1
    obtain ⟨kf, rfl⟩ : ∃ z, kf = z + 1 := ⟨kf - 1, by omega⟩
    have hn := h.1.1
    unfold s_X6_bestChange_L66 s_X7_bestChange_L22
    rw [h1.1, h.2.2.1.1, if_pos ((zi_len (by omega) (by omega)).mpr (by omega)), if_pos ((zi_len (by omega) (by omega)).mpr (by omega)), zi_s1]
    exact hk most x c r hm h h1
  | succ d ih =>
    intro kf q most x c r hq hkf hpq hm h h1
    obtain ⟨kf, rfl⟩ : ∃ z, kf = z + 1 := ⟨kf - 1, by omega⟩
    have hn := h.1.1
    have hlt : ¬ zi (tn T : Nat) ≤ zi (q : Nat) := fun w => by rw [zi_len (by omega) (by omega)] at w; omega
    obtain ⟨c1, c2, c3, c4, op, a1, a2, a3, ⟨zz, a4⟩, a5, a6, a7, a8⟩ := try_C h.1 h1 hp (show q < tn T by omega) hm
    obtain ⟨r1, r2, r3, b1, b2, b3, b4, b5, b6⟩ := try_R h.1 h.2.2.1 hp (show q < tn T by omega)
    have hmq : mq (tSwp T p q) ≤ 5 := mst_5 (pOK_pLs (swp_ok h.1 hp (show q < tn T by omega))) (show tn (tSwp T p q) ≤ 10 from hn) _
    obtain ⟨q1, q2, q3⟩ := h.2.2.2.1
    obtain ⟨w1, w2, w3⟩ := cnt_s a8
    have h2 : Rel T c4 r3 := Rel_tab (fr_sm a8) b5 h h.1 (tC_s a8 h.2.1) b4 ⟨by rw [w1, q1, b6.1], by rw [w2, q2, b6.2.1], by rw [w3, q3, b6.2.2]⟩ (Nat.le_refl _)
    unfold s_X6_bestChange_L66 s_X7_bestChange_L22 s_X6_bestChange_L151 s_X7_bestChange_L71
    rw [h1.1, h.2.2.1.1, if_neg hlt, if_neg hlt, a1, b1, zr_some, zr_some, a2, b2, zr_some, zb_some, a3, b3, zr_some, zr_some, a4, zb_some, a5, zr_some, a6, zi_s1]
    by_cases hx : most < mq (tSwp T p q)
    · rw [if_neg (fun w => by rw [zi_len (by omega) (by omega)] at w; omega), if_pos ((zi_ltn (by omega) (by omega)).mpr hx), show max most (mq (tSwp T p q)) = mq (tSwp T p q) by omega]
      unfold s_X6_codeOfPair
      rw [zr_some, zlet_eq]
      exact ih kf (q + 1) _ _ c4 r3 (by omega) (by omega) (by omega) hmq h2 a7
    · rw [if_pos ((zi_len (by omega) (by omega)).mpr (by omega)), if_neg (fun w => by rw [zi_ltn (by omega) (by omega)] at w; omega)]
      exact ih kf (q + 1) _ _ c4 r3 (by omega) (by omega) (by omega) hm h2 a7
theorem best_out : ∀ (d kf p most : Nat) (x : Int32) (c r : zMem), p + d = tn T → d < kf → most ≤ 5 → Rel T c r → tC 1 T c → OK2 (s_X6_bestChange_L50 kf (zi most) x (zi p) c) (s_X7_bestChange_L9 kf (zi most) x (zi p) r) := by
  intro d
  induction d with
  | zero =>
    intro kf p most x c r hp hkf hm h h1
    obtain ⟨kf, rfl⟩ : ∃ z, kf = z + 1 := ⟨kf - 1, by omega⟩
    have hn := h.1.1
    unfold s_X6_bestChange_L50 s_X7_bestChange_L9
    rw [h1.1, h.2.2.1.1, if_pos ((zi_len (by omega) (by omega)).mpr (by omega)), if_pos ((zi_len (by omega) (by omega)).mpr (by omega))]
    exact ok2_same h rfl
  | succ d ih =>
    intro kf p most x c r hp hkf hm h h1
    obtain ⟨kf, rfl⟩ : ∃ z, kf = z + 1 := ⟨kf - 1, by omega⟩
    have hn := h.1.1
    have hlt : ¬ zi (tn T : Nat) ≤ zi (p : Nat) := fun w => by rw [zi_len (by omega) (by omega)] at w; omega
    unfold s_X6_bestChange_L50 s_X7_bestChange_L9
    rw [h1.1, h.2.2.1.1, if_neg hlt, if_neg hlt, zi_s1]
    exact best_in (show p < tn T by omega) (fun most x c r a b e => ih kf (p + 1) most x c r (by omega) (by omega) a b e) (tn T - (p + 1)) zF (p + 1) most x c r (by omega) (by unfold zF; omega) (by omega) hm h h1
theorem op_bestChange (h : Rel T c r) : OK2 (s_X6_bestChange c) (s_X7_bestChange r) := by
  have hO := h.1
  have h45 := pLs_45 hO
  obtain ⟨c1, a1, a2, a3⟩ := draw2 h
  obtain ⟨c2, b1, b2, b3, b4⟩ := most_T (above := 0) hO a2 (mks_all' hO)
  obtain ⟨r1, x1, x2, x3, x4, x5, x6⟩ := mostOf_T hO h.2.2.1
  have f2 : fr sI sL c c2 := fr_trans a3 (fr_eK b4)
  obtain ⟨c3, d1, d2, d3, -⟩ := takeOver_C (t := 1) (tC_s f2 h.2.1) hO.1 (by decide)
  unfold s_X6_bestChange s_X7_bestChange
  rw [a1, zr_some, all_C a2 h45, zr_some, b1, zb_some, d1, zr_some, b3, x1, zb_some]
  exact best_out (tn T) zF 0 _ _ c3 r1 (by omega) (by have := hO.1; unfold zF; omega) (mst_5 (pOK_pLs hO) hO.1 _) (Rel_fr (fr_trans f2 (fr_T1 d3)) (fr_rM x6) h) d2
end Z5
