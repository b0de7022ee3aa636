/-! OPS: wanted, clink, ways -/
section W6
variable {T : zTab} {c r : zMem} {t : Nat}
theorem fr_eD {c c' : zMem} (h : fr eD gD c c') : fr sI sL c c' := fr_mono h (fun x j k w => by
  unfold sI at w
  unfold eD
  rw [Bool.or_eq_false_iff] at w
  by_cases e1 : x = 11
  · subst e1; simp at w
  by_cases e2 : x = 12
  · subst e2; simp at w
  by_cases e3 : x = 13
  · subst e3; simp at w
  by_cases e4 : x = 10
  · subst e4; simp at w
  rw [beqf e1, beqf e2, beqf e3, beqf e4]; rfl) (fun x j k w => by
  unfold sL at w
  unfold gD
  by_cases e1 : x = 14
  · subst e1; simp at w
  by_cases e2 : x = 15
  · subst e2; simp at w
  rw [beqf e1, beqf e2]; rfl)
theorem fr_eK {c c' : zMem} (h : fr eK gK c c') : fr sI sL c c' := fr_mono h (fun x j k w => by
  unfold sI at w
  unfold eK
  by_cases e4 : x = 10
  · subst e4; simp at w
  rw [beqf e4]; rfl) (fun x j k w => by
  unfold sL at w
  unfold gK
  by_cases e4 : x = 10
  · subst e4; simp at w
  rw [beqf e4]; rfl)
theorem fr_eL {r r' : zMem} (h : fr eL e0 r r') : fr rI' rL r r' := fr_mono h (fun x j k w => by
  unfold rI' at w
  unfold eL
  by_cases e1 : x = 81
  · subst e1; simp at w
  by_cases e2 : x = 82
  · subst e2; simp at w
  rw [beqf e1, beqf e2]
  by_cases e3 : x = 64
  · subst e3
    by_cases e4 : k = 30
    · subst e4; simp at w
    · rw [beqf e4]; rfl
  · rw [beqf e3]; rfl) (fun _ _ _ _ => rfl)
theorem fr_eH {r r' : zMem} (h : fr eH e0 r r') : fr rI' rL r r' := fr_mono h (fun x j k w => by
  unfold rI' at w
  unfold eH
  by_cases e1 : x = 83
  · subst e1; simp at w
  by_cases e2 : x = 84
  · subst e2; simp at w
  rw [beqf e1, beqf e2]
  by_cases e3 : x = 64
  · subst e3
    by_cases e4 : k = 33
    · subst e4; simp at w
    · by_cases e5 : k = 34
      · subst e5; simp at w
      · rw [beqf e4, beqf e5]; rfl
  · rw [beqf e3]; rfl) (fun _ _ _ _ => rfl)
theorem wPairs_in (hT : tC t T c) (hO : tOK T) {p : Nat} (hp : p < tn T) {k : Nat → Int32 → Int32 → zMem → Option Int32} (hk : k t (zi (pLr (wntT T) (tn T) (p + 1)).length) (zi (p + 1 : Nat)) c = some (zi (pLs T).length)) :
    ∀ (d kf q : Nat), q + d = tn T → d < kf → p < q → s_X5_wantedPairs_L16 k kf t (zi (pLr (wntT T) (tn T) p ++ rowL (wntT T) p q).length) (zi p) (zi q) c = some (zi (pLs T).length) := by
  have hn := hO.1
  intro d
  induction d with
  | zero =>
    intro kf q hi hkf hpq
    obtain ⟨kf, rfl⟩ : ∃ z, kf = z + 1 := ⟨kf - 1, by omega⟩
    obtain rfl : q = tn T := by omega
    unfold s_X5_wantedPairs_L16
    rw [hT.1, if_pos (by rw [zi_len (by omega) (by omega)]; omega), zi_s1, ← pLr_succ]
    exact hk
  | succ d ih =>
    intro kf q hi hkf hpq
    obtain ⟨kf, rfl⟩ : ∃ z, kf = z + 1 := ⟨kf - 1, by omega⟩
    have e := ih kf (q + 1) (by omega) (by omega) (by omega)
    unfold s_X5_wantedPairs_L16 s_X5_wantedPairs_L39
    rw [hT.1, if_neg (by rw [zi_len (by omega) (by omega)]; omega), wnt_C hT hO hp (show q < tn T by omega), zr_some, zif0, zi_s1, zi_s1, Int32.add_zero]
    cases hw : wntT T p q with
    | false =>
      rw [rowL_succ, hw, Bool.and_false, cond_false, List.append_nil] at e
      exact e
    | true =>
      rw [rowL_succ, hw, decide_eq_true hpq, Bool.and_true, cond_true, ← List.append_assoc, List.length_append (bs := [(p, q)])] at e
      exact e
theorem wPairs_out (hT : tC t T c) (hO : tOK T) : ∀ (d kf p : Nat), p + d = tn T → d < kf → s_X5_wantedPairs_L4 kf t (zi (pLr (wntT T) (tn T) p).length) (zi p) c = some (zi (pLs T).length) := by
  have hn := hO.1
  intro d
  induction d with
  | zero =>
    intro kf p hi hkf
    obtain ⟨kf, rfl⟩ : ∃ z, kf = z + 1 := ⟨kf - 1, by omega⟩
    obtain rfl : p = tn T := by omega
    unfold s_X5_wantedPairs_L4
    rw [hT.1, if_pos (by rw [zi_len (by omega) (by omega)]; omega)]
    rfl
  | succ d ih =>
    intro kf p hi hkf
    obtain ⟨kf, rfl⟩ : ∃ z, kf = z + 1 := ⟨kf - 1, by omega⟩
    have e := ih kf (p + 1) (by omega) (by omega)
    unfold s_X5_wantedPairs_L4
    rw [hT.1, if_neg (by rw [zi_len (by omega) (by omega)]; omega), zi_s1]
    have e2 := wPairs_in hT hO (show p < tn T by omega) e (tn T - (p + 1)) zF (p + 1) (by omega) (by unfold zF; omega) (by omega)
    rw [rowL_nil _ _ _ (Nat.le_refl _), List.append_nil] at e2
    exact e2
theorem wPairs_C (hT : tC t T c) (hO : tOK T) : s_X5_wantedPairs t c = some (zi (pLs T).length) := by
  have hn := hO.1
  unfold s_X5_wantedPairs
  exact wPairs_out hT hO (tn T) zF 0 (by omega) (by unfold zF; omega)
/-- both plans: of the class drawn, of the reference listed -/
theorem draw2 (h : Rel T c r) : ∃ c', s_X2_draw 0 c = some c' ∧ pC T (pLs T) c' ∧ fr sI sL c c' := by
  obtain ⟨c', a, b, d⟩ := draw_C h.1 h.2.1
  exact ⟨c', a, b, fr_eD d⟩
theorem lists2 (h : Rel T c r) : ∃ r', s_X7_lists r = some (zi (pLs T).length, r') ∧ lR (pLs T) r' ∧ fr rI' rL r r' := by
  obtain ⟨r', a, b, d⟩ := lists_R h.1 h.2.2.1
  exact ⟨r', a, b, fr_eL d⟩
def cdP (a : zPr) : Int32 := zi (100 * a.1 + a.2 : Nat)
theorem codeOf_C {L : List zPr} {i : Nat} (hp : pC T L c) (hi : i < L.length) (h45 : L.length ≤ 45) : s_X2_codeOf (zi i) c = some (cdP (pa L i)) := by
  obtain ⟨a, b, -⟩ := hp.2 i hi
  unfold s_X2_codeOf s_X6_codeOfPair
  rw [chk45 (by omega), ix45 (by omega), a, b, zr_some, show (100 : Int32) = zi (100 : Nat) from rfl, zi_muln, zi_addn]
  rfl
theorem codeOf_R {L : List zPr} {i : Nat} (hp : lR L r) (hi : i < L.length) (h45 : L.length ≤ 45) : s_X7_codeOf (zi i) r = some (cdP (pa L i)) := by
  obtain ⟨a, b⟩ := hp.2 i hi
  unfold s_X7_codeOf
  rw [chk45 (by omega), ix45 (by omega), a, b, show (100 : Int32) = zi (100 : Nat) from rfl, zi_muln, zi_addn]
  rfl
theorem op_wanted (h : Rel T c r) (a : Int32) : OK2 (s_X6_wanted a c) (s_X7_wanted a r) := by
  have hn := h.1.1
  have h45 := pLs_45 h.1
  obtain ⟨c', a1, a2, a3⟩ := draw2 h
  obtain ⟨r', b1, b2, b3⟩ := lists2 h
  have h' := Rel_fr a3 b3 h
  have hR : OK2 (zb (s_X6_refuse (-5) c') (fun a m => some (a, m))) (zb (s_X7_no (-5) r') (fun a m => some (a, m))) := ok2_ref h' 5 (by omega) (by omega) rfl
  unfold s_X6_wanted s_X7_wanted s_X6_wanted_L50 s_X7_wanted_L29
  rw [a1, b1, zr_some, zb_some, a2.1]
  by_cases e : a = -1
  · rw [if_pos e, if_pos e]; exact ok2_same h' rfl
  · rw [if_neg e, if_neg e]
    rcases rng a (pLs T).length _ rfl (by omega) with ⟨i, i1, i2, i3, i4⟩ | i3 | ⟨i3, i4⟩
    · subst i2
      rw [if_neg i3, if_neg i3, if_neg i4, if_neg i4, codeOf_C a2 i1 h45, codeOf_R b2 i1 h45]
      exact ok2_same h' rfl
    · rw [if_pos i3, if_pos i3]; exact hR
    · rw [if_neg i3, if_neg i3, if_pos i4, if_pos i4]; exact hR
theorem wnt_had {T : zTab} {g h : Nat} (w : wntT T g h = true) : g ≠ h ∧ (tH T g).testBit h = false ∧ mayT T g h = true := by
  unfold wntT at w
  simp only [Bool.and_eq_true, decide_eq_true_eq, Bool.not_eq_true'] at w
  exact w
/-- one clink, on both sides -/
theorem clink2 (h : Rel T c r) {g q : Nat} (hg : g < tn T) (hq : q < tn T) (w : wntT T g q = true) : ∃ c' r', s_X5_clinkAlone 0 (zi g) (zi q) c = some c' ∧ s_X7_clinks (zi g) (zi q) r = some r' ∧ Rel (tHad T g q) c' r' ∧ c'.1 1 0 8 = c.1 1 0 8 + 1 := by
  obtain ⟨e, w2, -⟩ := wnt_had w
  have hT1 : tC 0 T (wI c 1 0 9 (c.1 1 0 9 + zi (tksT T g q))) := by
    obtain ⟨a1, a2, a3, a4⟩ := h.2.1
    refine ⟨by simp [wI_1, a1], by simp [wI_1, a2], by simp [wI_1, a3], fun i hi => ?_⟩
    simp [wI_1, a4 i hi]
  unfold s_X5_clinkAlone s_X5_clinkUncounted s_X7_clinks
  rw [tks_C h.2.1 h.1 hg hq, zr_some, zlet_eq]
  have nz : ∀ a : Int32, a = 1 → ¬ zo ((tH T g).testBit q) = a := fun a ha => by rw [w2, ha]; decide
  rcases mark6_C hT1 h.1 hg hq e 1 with ⟨u, -⟩ | ⟨-, c1, m1, m2, m3⟩
  · exact absurd u (nz 1 rfl)
  rcases puts70_R h.2.2.1 h.1 hg hq e 1 with ⟨u, -⟩ | ⟨-, r1, n1, n2, n3⟩
  · exact absurd u (nz 1 rfl)
  have n2' : tR (tHad T g q) (wI r1 64 0 3 (r1.1 64 0 3 + 1)) := by
    obtain ⟨a1, a2, a3, a4⟩ := n2
    refine ⟨by simp [wI_1, a1], by simp [wI_1, a2], by simp [wI_1, a3], fun i hi => ?_⟩
    simp [wI_1, a4 i hi]
  have hok := had_ok h.1 hg hq e
  rw [m1, n1, zb_some, zb_some, zlet_eq, zlet_eq, zr_some, tks_R n2' hok hg hq, zr_some, zlet_eq]
  have f1 : fr mI sL c c1 := fr_trans (fr_wI (fr_refl _ _ _) rfl) (fr_mI (t := 0) (by omega) m3)
  have f2 : fr mR rL r r1 := fr_mR (by omega) n3
  obtain ⟨q1, q2, q3⟩ := h.2.2.2.1
  refine ⟨_, _, rfl, rfl, Rel_tab (T' := tHad T g q) (fr_wI f1 rfl) (fr_wI (fr_wI f2 rfl) rfl) h hok ?_ ?_ ?_ (Nat.le_refl _), ?_⟩
  · obtain ⟨a1, a2, a3, a4⟩ := m2
    refine ⟨by simp [wI_1, a1], by simp [wI_1, a2], by simp [wI_1, a3], fun i hi => ?_⟩
    simp [wI_1, a4 i hi]
  · obtain ⟨a1, a2, a3, a4⟩ := n2'
    refine ⟨by rw [wI_1, if_neg (by omega)]; exact a1, by rw [wI_1, if_neg (by omega)]; exact a2, by rw [wI_1, if_neg (by omega)]; exact a3, fun i hi => ?_⟩
    obtain ⟨b1, b2, b3, b4, b5⟩ := a4 i hi
    exact ⟨by rw [wI_1, if_neg (by omega)]; exact b1, by rw [wI_1, if_neg (by omega)]; exact b2, by rw [wI_1, if_neg (by omega)]; exact b3, by rw [wI_1, if_neg (by omega)]; exact b4, by rw [wI_1, if_neg (by omega)]; exact b5⟩
  · have c8 : c1.1 1 0 8 = c.1 1 0 8 := by rw [m3.1 1 0 8 rfl]; simp [wI_1]
    have c9 : c1.1 1 0 9 = c.1 1 0 9 + zi (tksT T g q) := by rw [m3.1 1 0 9 rfl]; simp [wI_1]
    have c10 : c1.1 1 0 10 = c.1 1 0 10 := by rw [m3.1 1 0 10 rfl]; simp [wI_1]
    have r3 : r1.1 64 0 3 = r.1 64 0 3 := n3.1 64 0 3 rfl
    have r4 : r1.1 64 0 4 = r.1 64 0 4 := n3.1 64 0 4 rfl
    have r5 : r1.1 64 0 5 = r.1 64 0 5 := n3.1 64 0 5 rfl
    refine ⟨?_, ?_, ?_⟩
    · simp [wI_1, c8, r3, q1]
    · simp [wI_1, c9, r4, q2]; rfl
    · simp [wI_1, c10, r5, q3]
  · have c8 : c1.1 1 0 8 = c.1 1 0 8 := by rw [m3.1 1 0 8 rfl]; simp [wI_1]
    simp [wI_1, c8]
theorem op_clink (h : Rel T c r) (a b : Int32) : OK2 (s_X6_clink a b c) (s_X7_clink a b r) := by
  unfold s_X6_clink s_X7_clink s_X7_clink_L23
  refine ok2_pair h a b (fun x hx => if_neg hx) (fun x hx => by rw [if_neg hx, if_neg hx]) (fun p q p1 q1 e ha hb => ?_)
  subst ha hb
  rw [if_pos rfl, if_pos rfl, wnt_C h.2.1 h.1 p1 q1, wnt_R h.2.2.1 h.1 p1 q1, zr_some, zr_some, zif0, zif0]
  cases hw : wntT T p q with
  | false => exact ok2_ref h 6 (by omega) (by omega) rfl
  | true =>
    rw [cond_true, cond_true, if_pos rfl]
    obtain ⟨c', r', x1, x2, x3, -⟩ := clink2 h p1 q1 hw
    obtain ⟨r2, y1, y2, y3⟩ := lists2 x3
    rw [x1, x2, zr_some, zr_some, wPairs_C x3.2.1 x3.1, y1, zr_some, zb_some]
    exact ok2_same (Rel_fr (fr_refl _ _ _) y3 x3) rfl
end W6
