/-! the class's PLAN: a pair added, all drawn -/
section DR
variable {T : zTab} {t : Nat}
theorem shr_self (a : zPr) : shr a a = true := by unfold shr; rw [decide_eq_true (rfl : a.1 = a.1)]; rfl
theorem fX_self (L : List zPr) (i : Nat) : fX T L i i = false := by unfold fX crP; rw [shr_self]; rfl
theorem fB_self (L : List zPr) (i : Nat) : fB T L i i = false := by unfold fB; rw [decide_eq_false (fun h => h rfl)]; rfl
theorem pC_of_gC {L : List zPr} {x : zPr} {m : zMem} (h : gC T (L ++ [x]) L.length L.length (wI m 10 0 7 (zi L.length))) (h2 : m.1 10 0 7 = zi (L.length + 1 : Nat)) : pC T (L ++ [x]) m := by
  obtain ⟨a, b, c, d, e⟩ := h
  have hl : (L ++ [x]).length = L.length + 1 := by rw [List.length_append]; rfl
  refine ⟨by rw [hl]; exact h2, fun i hi => ?_⟩
  rw [hl] at hi ⊢
  obtain ⟨b1, b2, b3⟩ := b i hi
  simp [wI_1] at b1 b2 b3
  refine ⟨b1, b2, b3, ?_⟩
  by_cases q : i < L.length
  · obtain ⟨c1, c2⟩ := c i q
    rw [if_pos q] at c1 c2
    exact ⟨c1, c2⟩
  · obtain rfl : i = L.length := by omega
    rw [← bset_f (fX_self _ _), ← bset_f (fB_self _ _)]
    exact ⟨d, e⟩
theorem addPair_C (hO : tOK T) {L : List zPr} {p q : Nat} {m : zMem} (hL : ∀ j, j < L.length → isP T (pa L j)) (hx : isP T (p, q)) (hc : L.length < 45) (hT : tC t T m) (hp : pC T L m) : ∃ m', s_X2_addPair t (zi p) (zi q) m = some m' ∧ pC T (L ++ [(p, q)]) m' ∧ fr eD gD m m' := by
  have hn := hO.1
  obtain ⟨x1, x2⟩ := hx
  have x3 : p < tn T := Nat.lt_trans x1 x2
  have x2' : q < tn T := x2
  obtain ⟨p1, p2⟩ := hp
  unfold s_X2_addPair
  have hT5 : tC t T (wI (wI m 11 0 L.length (zi p)) 12 0 L.length (zi q)) := tC_eD (g := gD) (m := m) (fr_wI (fr_wI (fr_refl _ _ _) rfl) rfl) hT
  rw [p1, if_pos (by rw [show (45 : Int32) = zi (45 : Nat) from rfl, zi_ltn (by omega) (by omega)]; exact hc)]
  simp only [zlet_eq, chk45 hc, ix45 hc, wI_1, p1, Nat.reduceEqDiff, false_and, if_false, tks_C hT5 hO x3 x2', zr_some, wL_1]
  generalize hm : wL (wL (wI (wI (wI m 11 0 L.length (zi p)) 12 0 L.length (zi q)) 13 0 L.length (zi (tksT T p q))) 14 0 L.length 0) 15 0 L.length 0 = m2
  have hf2 : fr eD gD m m2 := by rw [← hm]; exact fr_wL (fr_wL (fr_wI (fr_wI (fr_wI (fr_refl _ _ _) rfl) rfl) rfl) rfl) rfl
  have hll : pa (L ++ [(p, q)]) L.length = (p, q) := pa_snoc _ _
  obtain ⟨m', e1, e2, e3, e4⟩ := add_loop (t := t) (L := L ++ [(p, q)]) hO hc (p := p) (q := q) (m0 := m) (by
    intro j hj
    by_cases w : j < L.length
    · rw [pa_app _ w]; exact hL j w
    · obtain rfl : j = L.length := by omega
      rw [hll]; exact ⟨x1, x2⟩) hll L.length zF 0 m2 (by omega) (by unfold zF; omega) (by
    refine ⟨by rw [← hm]; simp [wI_1, wL_1, p1], fun j hj => ?_, fun j hj => ?_, ?_, ?_⟩
    · by_cases w : j < L.length
      · obtain ⟨b1, b2, b3, -⟩ := p2 j w
        rw [pa_app _ w, ← hm]
        simp [wI_1, wL_1, show j ≠ L.length by omega, b1, b2, b3]
      · obtain rfl : j = L.length := by omega
        rw [hll, ← hm]
        simp [wI_1, wL_1]
    · obtain ⟨-, -, -, b4, b5⟩ := p2 j hj
      rw [if_neg (Nat.not_lt_zero j), ← hm]
      simp [wL_2, wI_2, show j ≠ L.length by omega, b4, b5]
      exact ⟨congrArg _ (bset_congr _ (fun i hi => by unfold fX; rw [pa_app _ hi, pa_app _ hj])), congrArg _ (bset_congr _ (fun i hi => by unfold fB; rw [pa_app _ hi, pa_app _ hj]))⟩
    · rw [← hm]; simp [wL_2]; rfl
    · rw [← hm]; simp [wL_2]; rfl) (tC_eD hf2 hT) hf2
  exact ⟨m', e1, pC_of_gC e2 e3, e4⟩
theorem draw_in (hO : tOK T) {p : Nat} (hp : p < tn T) {m0 : zMem} {k7 : Nat → Int32 → zMem → Option zMem}
    (hk : ∀ m', pC T (pLr (wntT T) (tn T) (p + 1)) m' → tC t T m' → fr eD gD m0 m' → ∃ m'', k7 t (zi (p + 1 : Nat)) m' = some m'' ∧ pC T (pLs T) m'' ∧ fr eD gD m0 m'') :
    ∀ (d kf q : Nat) (m : zMem), q + d = tn T → d < kf → p < q → pC T (pLr (wntT T) (tn T) p ++ rowL (wntT T) p q) m → tC t T m → fr eD gD m0 m → ∃ m'', s_X2_draw_L19 k7 kf t (zi p) (zi q) m = some m'' ∧ pC T (pLs T) m'' ∧ fr eD gD m0 m'' := by
  have hn := hO.1
  intro d
  induction d with
  | zero =>
    intro kf q m hq hkf hpq hl hT hf
    obtain ⟨kf, rfl⟩ : ∃ z, kf = z + 1 := ⟨kf - 1, by omega⟩
    obtain rfl : q = tn T := by omega
    unfold s_X2_draw_L19
    rw [hT.1, if_pos (by rw [zi_len (by omega) (by omega)]; omega), ln_1, zi_addn]
    rw [← pLr_succ] at hl
    exact hk m hl hT hf
  | succ d ih =>
    intro kf q m hq hkf hpq hl hT hf
    obtain ⟨kf, rfl⟩ : ∃ z, kf = z + 1 := ⟨kf - 1, by omega⟩
    unfold s_X2_draw_L19 s_X2_draw_L43
    rw [hT.1, if_neg (by rw [zi_len (by omega) (by omega)]; omega), wnt_C hT hO hp (by omega), zr_some, zif0, ln_1, zi_addn]
    cases hw : wntT T p q with
    | false =>
      rw [cond_false]
      refine ih kf (q + 1) m (by omega) (by omega) (by omega) ?_ hT hf
      rw [rowL_succ, hw, Bool.and_false, cond_false, List.append_nil]
      exact hl
    | true =>
      rw [cond_true]
      have h44 := pLr_44 (wntT T) hn hp hpq (show q < tn T by omega) hw
      have hm : ∀ x, x ∈ pLr (wntT T) (tn T) p ++ rowL (wntT T) p q → isP T x := by
        intro x hx
        rcases List.mem_append.mp hx with h | h
        · obtain ⟨-, b, c, -⟩ := pLr_mem h; exact ⟨b, c⟩
        · obtain ⟨a, b, c, -⟩ := rowL_mem h; exact ⟨by omega, by omega⟩
      have e : pLr (wntT T) (tn T) p ++ rowL (wntT T) p (q + 1) = (pLr (wntT T) (tn T) p ++ rowL (wntT T) p q) ++ [(p, q)] := by
        rw [rowL_succ, hw, decide_eq_true hpq, Bool.and_true, cond_true, ← List.append_assoc]
      obtain ⟨m', a1, a2, a3⟩ := addPair_C hO (fun j hj => hm _ (pa_mem hj)) (show isP T (p, q) from ⟨hpq, by show q < tn T; omega⟩) h44 hT hl
      rw [a1, zr_some]
      exact ih kf (q + 1) m' (by omega) (by omega) (by omega) (e ▸ a2) (tC_eD a3 hT) (fr_trans hf a3)
theorem draw_out (hO : tOK T) {m0 : zMem} : ∀ (d kf p : Nat) (m : zMem), p + d = tn T → d < kf → pC T (pLr (wntT T) (tn T) p) m → tC t T m → fr eD gD m0 m → ∃ m'', s_X2_draw_L7 kf t (zi p) m = some m'' ∧ pC T (pLs T) m'' ∧ fr eD gD m0 m'' := by
  have hn := hO.1
  intro d
  induction d with
  | zero =>
    intro kf p m hp hkf hl hT hf
    obtain ⟨kf, rfl⟩ : ∃ z, kf = z + 1 := ⟨kf - 1, by omega⟩
    obtain rfl : p = tn T := by omega
    unfold s_X2_draw_L7
    rw [hT.1, if_pos (by rw [zi_len (by omega) (by omega)]; omega)]
    exact ⟨m, rfl, hl, hf⟩
  | succ d ih =>
    intro kf p m hp hkf hl hT hf
    obtain ⟨kf, rfl⟩ : ∃ z, kf = z + 1 := ⟨kf - 1, by omega⟩
    unfold s_X2_draw_L7
    rw [hT.1, if_neg (by rw [zi_len (by omega) (by omega)]; omega), ln_1, zi_addn]
    refine draw_in hO (m0 := m0) (show p < tn T by omega) (fun m' a b c => ih kf (p + 1) m' (by omega) (by omega) a b c) (tn T - (p + 1)) zF (p + 1) m (by omega) (by unfold zF; omega) (by omega) ?_ hT hf
    rw [rowL_nil _ _ _ (Nat.le_refl _), List.append_nil]
    exact hl
theorem draw_C (hO : tOK T) {m : zMem} (hT : tC t T m) : ∃ m', s_X2_draw t m = some m' ∧ pC T (pLs T) m' ∧ fr eD gD m m' := by
  have hn := hO.1
  unfold s_X2_draw
  rw [zlet_eq]
  refine draw_out hO (m0 := m) (tn T) zF 0 _ (by omega) (by unfold zF; omega) ⟨?_, fun i hi => absurd hi (Nat.not_lt_zero _)⟩ ?_ (fr_wI (fr_refl _ _ _) rfl)
  · rw [wI_1, if_pos ⟨rfl, rfl, rfl⟩]; rfl
  · exact tC_eD (g := gD) (m := m) (fr_wI (fr_refl _ _ _) rfl) hT
end DR
