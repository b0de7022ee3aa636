/-! OPS: goes -/
section X6
variable {T : zTab} {c r : zMem}
def eG : zEx := fun c j k => Nat.beq j 0 && (Nat.beq c 6 || (Nat.beq c 1 && (Nat.beq k 8 || Nat.beq k 9)))
theorem fr_G6 {m m' : zMem} (h : fr (fun x j _ => Nat.beq x 6 && Nat.beq j 0) e0 m m') : fr eG e0 m m' := fr_mono h (fun x j k w => by
  unfold eG at w
  by_cases a : j = 0
  · subst a
    by_cases b : x = 6
    · subst b; simp at w
    · rw [beqf b]; rfl
  · rw [beqf a, Bool.and_false]) (fun _ _ _ _ => rfl)
theorem pC_G {m m' : zMem} {L : List zPr} (h : fr eG e0 m m') (hC : pC T L m) : pC T L m' := by
  obtain ⟨a, b⟩ := hC
  refine ⟨(h.1 _ _ _ rfl).trans a, fun i hi => ?_⟩
  obtain ⟨b1, b2, b3, b4, b5⟩ := b i hi
  exact ⟨(h.1 _ _ _ rfl).trans b1, (h.1 _ _ _ rfl).trans b2, (h.1 _ _ _ rfl).trans b3, (h.2 _ _ _ rfl).trans b4, (h.2 _ _ _ rfl).trans b5⟩
theorem tC_89 {t : Nat} {m : zMem} {k : Nat} {x : Int32} (hk : k = 8 ∨ k = 9) (hT : tC t T m) : tC t T (wI m 1 t k x) := by
  obtain ⟨a1, a2, a3, a4⟩ := hT
  refine ⟨by rw [wI_1, if_neg (by omega)]; exact a1, by rw [wI_1, if_neg (by omega)]; exact a2, by rw [wI_1, if_neg (by omega)]; exact a3, fun i hi => ?_⟩
  obtain ⟨b1, b2, b3, b4, b5⟩ := a4 i hi
  exact ⟨by rw [wI_1, if_neg (by omega)]; exact b1, by rw [wI_1, if_neg (by omega)]; exact b2, by rw [wI_1, if_neg (by omega)]; exact b3, by rw [wI_1, if_neg (by omega)]; exact b4, by rw [wI_1, if_neg (by omega)]; exact b5⟩
theorem tHs_snoc (T : zTab) (A : List zPr) (x : zPr) : tHs T (A ++ [x]) = tHad (tHs T A) x.1 x.2 := by
  unfold tHs
  rw [List.foldl_append]
  rfl
/-- one pair of a set had, of which those ahead have been had -/
theorem uncount_C {T0 : zTab} (hO : tOK T0) {S A B : List zPr} {x : zPr} (hS : S.Sublist (pLs T0)) (hA : A ++ x :: B = S) {m : zMem} (hT : tC 0 (tHs T0 A) m) : ∃ m', s_X5_clinkUncounted 0 (zi x.1) (zi x.2) m = some m' ∧ tC 0 (tHs T0 (A ++ [x])) m' ∧ fr eG e0 m m' ∧ m'.1 1 0 8 = m.1 1 0 8 + 1 ∧ m'.1 1 0 9 = m.1 1 0 9 := by
  have hnd : S.Nodup := (pLs_nd hO).sublist hS
  have hsub : ∀ y, y ∈ S → y ∈ pLs T0 := fun y hy => hS.subset hy
  have hAS : ∀ y, y ∈ A → y ∈ S := fun y hy => hA ▸ List.mem_append_left _ hy
  have hxS : x ∈ S := hA ▸ List.mem_append_right _ List.mem_cons_self
  rw [← hA] at hnd
  have hn2 := List.nodup_append.mp hnd
  have hxA : x ∉ A := fun w => hn2.2.2 x w x List.mem_cons_self rfl
  have hok : tOK (tHs T0 A) := tHs_ok _ _ hO (fun y hy => by
    obtain ⟨a, b, -⟩ := pLs_mem.mp (hsub y (hAS y hy))
    exact ⟨by omega, b, by omega⟩)
  have hw : x ∈ pLs (tHs T0 A) := by
    rw [pLs_tHs _ _ hn2.1 (fun y hy => hsub y (hAS y hy)), List.mem_filter]
    exact ⟨hsub x hxS, decide_eq_true hxA⟩
  obtain ⟨w1, w2, w3⟩ := pLs_mem.mp hw
  obtain ⟨we, wh, -⟩ := wnt_had w3
  unfold s_X5_clinkUncounted
  rcases mark6_C hT hok (show x.1 < tn (tHs T0 A) by omega) w2 we 1 with ⟨u, -⟩ | ⟨-, m1, a1, a2, a3⟩
  · rw [wh] at u; exact absurd u (by decide)
  · rw [a1, zb_some, zlet_eq]
    refine ⟨_, rfl, ?_, fr_wI (fr_G6 a3) rfl, ?_, ?_⟩
    · rw [tHs_snoc]; exact tC_89 (Or.inl rfl) a2
    · rw [wI_1, if_pos ⟨rfl, rfl, rfl⟩, a3.1 1 0 8 rfl]
    · rw [wI_1, if_neg (by omega), a3.1 1 0 9 rfl]
theorem i32_assoc (a : Int32) (n : Nat) : a + zi (n : Nat) + 1 = a + zi (n + 1 : Nat) := by rw [Int32.add_assoc, zi_s1]
theorem tog_loop {T0 : zTab} (hOT : tOK T) (hO : tOK T0) {S : List zPr} (hS : S.Sublist (pLs T0)) (hSL : S.Sublist (pLs T)) {m0 : zMem} : ∀ (d kf p : Nat) (A : List zPr) (m : zMem), p + d = (pLs T).length → d < kf → A ++ ((pLs T).drop p).filter (fun y => decide (y ∈ S)) = S → pC T (pLs T) m → tC 0 (tHs T0 A) m → fr eG e0 m0 m → m.1 1 0 8 = m0.1 1 0 8 + zi A.length → m.1 1 0 9 = m0.1 1 0 9 → ∃ m', s_X6_clinkTogether_L25 kf (zw (mk (pLs T) S)) (zi A.length) (zi p) m = some (zi S.length, m') ∧ tC 0 (tHs T0 S) m' ∧ fr eG e0 m0 m' ∧ m'.1 1 0 8 = m0.1 1 0 8 + zi S.length ∧ m'.1 1 0 9 = m0.1 1 0 9 := by
  have h45 := pLs_45 hOT
  have hn := hOT.1
  intro d
  induction d with
  | zero =>
    intro kf p A m hp hkf hA hC hT hf h8 h9
    obtain ⟨kf, rfl⟩ : ∃ z, kf = z + 1 := ⟨kf - 1, by omega⟩
    obtain rfl : p = (pLs T).length := by omega
    rw [List.drop_length, List.filter_nil, List.append_nil] at hA
    subst hA
    unfold s_X6_clinkTogether_L25
    rw [hC.1, if_pos (by rw [zi_len (by omega) (by omega)]; omega)]
    exact ⟨m, rfl, hT, hf, h8, h9⟩
  | succ d ih =>
    intro kf p A m hp hkf hA hC hT hf h8 h9
    obtain ⟨kf, rfl⟩ : ∃ z, kf = z + 1 := ⟨kf - 1, by omega⟩
    have hpl : p < (pLs T).length := by omega
    obtain ⟨c1, c2, -⟩ := hC.2 p hpl
    rw [pa_drop hpl, List.filter_cons] at hA
    unfold s_X6_clinkTogether_L25 s_X6_clinkTogether_L76
    rw [hC.1, if_neg (by rw [zi_len (by omega) (by omega)]; omega), isIn_C (mk_lt h45) (by omega), zr_some, zif0, mk_test, decide_eq_true hpl, Bool.true_and, zi_s1, zi_s1]
    by_cases q : pa (pLs T) p ∈ S
    · rw [decide_eq_true q, if_pos rfl] at hA
      obtain ⟨m1, a1, a2, a3, a4, a5⟩ := uncount_C hO hS hA hT
      rw [decide_eq_true q, cond_true, chk45 (by omega), ix45 (by omega), c1, c2, a1, zr_some]
      have := ih kf (p + 1) (A ++ [pa (pLs T) p]) m1 (by omega) (by omega) (by rw [List.append_assoc]; exact hA) (pC_G a3 hC) a2 (fr_trans hf a3) (by rw [a4, h8, i32_assoc, List.length_append]; rfl) (by rw [a5, h9])
      rw [List.length_append] at this
      exact this
    · rw [decide_eq_false q, if_neg (by decide)] at hA
      rw [decide_eq_false q, cond_false]
      exact ih kf (p + 1) A m (by omega) (by omega) hA hC hT hf h8 h9
theorem tog_C {T0 : zTab} (hOT : tOK T) (hO : tOK T0) {S : List zPr} (hS : S.Sublist (pLs T0)) (hSL : S.Sublist (pLs T)) {m : zMem} (hC : pC T (pLs T) m) (hT : tC 0 T0 m) : ∃ m', s_X6_clinkTogether (zw (mk (pLs T) S)) m = some (zi S.length, m') ∧ tC 0 (tHs T0 S) m' ∧ fr eG e0 m m' ∧ m'.1 1 0 8 = m.1 1 0 8 + zi S.length ∧ m'.1 1 0 9 = m.1 1 0 9 + zi (lng T 0 S) := by
  have h45 := pLs_45 hOT
  unfold s_X6_clinkTogether
  rw [longest_C hOT hC hSL, zr_some, zlet_eq]
  have f1 : fr eG e0 m (wI m 1 0 9 (m.1 1 0 9 + zi (lng T 0 S))) := fr_wI (fr_refl _ _ _) rfl
  obtain ⟨m', a1, a2, a3, a4, a5⟩ := tog_loop hOT hO hS hSL (m0 := wI m 1 0 9 (m.1 1 0 9 + zi (lng T 0 S))) (pLs T).length zF 0 [] _ (by omega) (by unfold zF; omega) (by rw [List.drop_zero, flt_sub hSL (pLs_nd hOT)]; rfl) (pC_G f1 hC) (tC_89 (Or.inr rfl) hT) (fr_refl _ _ _) (show _ = _ + zi ((0 : Nat) : Int) from (Int32.add_zero _).symm) rfl
  refine ⟨m', a1, a2, fr_trans f1 a3, ?_, ?_⟩
  · rw [a4, wI_1, if_neg (by omega)]
  · rw [a5, wI_1, if_pos ⟨rfl, rfl, rfl⟩]
/-- how many clinks the first rounds have -/
def cl (T : zTab) : Nat → Nat
  | 0 => 0
  | k + 1 => cl T k + (mS (tK' T k)).length
theorem goesC_loop (hO : tOK T) {m0 : zMem} {M : Nat} (hM : M ≤ 45) : ∀ (d kf k : Nat) (m : zMem), k + d = M → d < kf → pC T (pLs T) m → gRp T M m → tC 0 (tK' T k) m → fr eG e0 m0 m → m.1 1 0 8 = m0.1 1 0 8 + zi (cl T k) → m.1 1 0 9 = m0.1 1 0 9 + zi (sm T k) → ∃ m', s_X6_goes_L43 kf (zi M) (zi (cl T k)) (zi k) m = some (zi (cl T M), m') ∧ tC 0 (tK' T M) m' ∧ fr eG e0 m0 m' ∧ m'.1 1 0 8 = m0.1 1 0 8 + zi (cl T M) ∧ m'.1 1 0 9 = m0.1 1 0 9 + zi (sm T M) := by
  intro d
  induction d with
  | zero =>
    intro kf k m hk hkf hC hg hT hf h8 h9
    obtain ⟨kf, rfl⟩ : ∃ z, kf = z + 1 := ⟨kf - 1, by omega⟩
    obtain rfl : k = M := by omega
    unfold s_X6_goes_L43
    rw [if_pos (by rw [zi_len (by omega) (by omega)]; omega)]
    exact ⟨m, rfl, hT, hf, h8, h9⟩
  | succ d ih =>
    intro kf k m hk hkf hC hg hT hf h8 h9
    obtain ⟨kf, rfl⟩ : ∃ z, kf = z + 1 := ⟨kf - 1, by omega⟩
    obtain ⟨m1, a1, a2, a3, a4, a5⟩ := tog_C hO (tK'_ok hO k) (mS_sub _) (mS_tK hO k) hC hT
    unfold s_X6_goes_L43
    rw [if_neg (by rw [zi_len (by omega) (by omega)]; omega), chk45 (by omega), ix45 (by omega), hg k (by omega), a1, zb_some, zi_addn, zi_s1]
    exact ih kf (k + 1) m1 (by omega) (by omega) (pC_G a3 hC) (fun j hj => (a3.2 16 0 j rfl).trans (hg j hj)) a2 (fr_trans hf a3) (by rw [a4, h8, Int32.add_assoc, zi_addn]; rfl) (by rw [a5, h9, Int32.add_assoc, zi_addn]; rfl)
def eW : zEx := fun c j k => eQ c j k || (Nat.beq c 64 && (Nat.beq k 3 || Nat.beq k 4))
theorem fr_WQ {m m' : zMem} (h : fr eQ e0 m m') : fr eW e0 m m' := fr_mono h (fun _ _ _ w => (Bool.or_eq_false_iff.mp w).1) (fun _ _ _ _ => rfl)
theorem goesR_loop (hO : tOK T) {m0 : zMem} {n : Nat} (hn : n ≤ 45) : ∀ (d kf k : Nat) (m : zMem), k + d = n → d < kf → tR (tK' T k) m → fr eW e0 m0 m → m.1 64 0 3 = m0.1 64 0 3 + zi (cl T k) → m.1 64 0 4 = m0.1 64 0 4 + zi (sm T k) → ∃ m', s_X7_goes_L25 kf (zi n) (m0.1 64 0 3) (zi k) m = some (zi (cl T n), m') ∧ tR (tK' T n) m' ∧ fr eW e0 m0 m' ∧ m'.1 64 0 3 = m0.1 64 0 3 + zi (cl T n) ∧ m'.1 64 0 4 = m0.1 64 0 4 + zi (sm T n) := by
  intro d
  induction d with
  | zero =>
    intro kf k m hk hkf hT hf h3 h4
    obtain ⟨kf, rfl⟩ : ∃ z, kf = z + 1 := ⟨kf - 1, by omega⟩
    obtain rfl : k = n := by omega
    unfold s_X7_goes_L25
    rw [if_pos (by rw [zi_len (by omega) (by omega)]; omega), h3, Int32.add_comm, Int32.add_sub_cancel]
    exact ⟨m, rfl, hT, hf, by rw [h3, Int32.add_comm], h4⟩
  | succ d ih =>
    intro kf k m hk hkf hT hf h3 h4
    obtain ⟨kf, rfl⟩ : ∃ z, kf = z + 1 := ⟨kf - 1, by omega⟩
    obtain ⟨m1, a1, a2, a3, a4⟩ := round_k hO hT
    unfold s_X7_goes_L25
    rw [if_neg (by rw [zi_len (by omega) (by omega)]; omega), a1, zb_some, zlet_eq, zlet_eq, wI_1, if_neg (by omega), wI_1, if_neg (by omega), a4, a3.1 64 0 3 rfl, zi_s1]
    refine ih kf (k + 1) _ (by omega) (by omega) ?_ ?_ ?_ ?_
    · obtain ⟨b1, b2, b3, b4⟩ := a2
      refine ⟨by rw [wI_1, if_neg (by omega), wI_1, if_neg (by omega)]; exact b1, by rw [wI_1, if_neg (by omega), wI_1, if_neg (by omega)]; exact b2, by rw [wI_1, if_neg (by omega), wI_1, if_neg (by omega)]; exact b3, fun i hi => ?_⟩
      obtain ⟨d1, d2, d3, d4, d5⟩ := b4 i hi
      exact ⟨by rw [wI_1, if_neg (by omega), wI_1, if_neg (by omega)]; exact d1, by rw [wI_1, if_neg (by omega), wI_1, if_neg (by omega)]; exact d2, by rw [wI_1, if_neg (by omega), wI_1, if_neg (by omega)]; exact d3, by rw [wI_1, if_neg (by omega), wI_1, if_neg (by omega)]; exact d4, by rw [wI_1, if_neg (by omega), wI_1, if_neg (by omega)]; exact d5⟩
    · exact fr_wI (fr_wI (fr_trans hf (fr_WQ a3)) rfl) rfl
    · rw [wI_1, if_pos ⟨rfl, rfl, rfl⟩, h3, Int32.add_assoc, zi_addn]; rfl
    · rw [wI_1, if_neg (by omega), wI_1, if_pos ⟨rfl, rfl, rfl⟩, h4, Int32.add_assoc, zi_addn]; rfl
theorem still {M : Nat} (hz : Ls T M = []) : ∀ d, tK' T (M + d) = tK' T M ∧ cl T (M + d) = cl T M ∧ sm T (M + d) = sm T M
  | 0 => ⟨rfl, rfl, rfl⟩
  | d + 1 => by
    obtain ⟨a, b, e⟩ := still hz d
    have hm : mS (tK' T (M + d)) = [] := by
      rw [a]; exact List.sublist_nil.mp (hz ▸ mS_sub (tK' T M))
    refine ⟨?_, ?_, ?_⟩
    · rw [← Nat.add_assoc, tK'_succ, hm, ← a]; rfl
    · rw [← Nat.add_assoc, show cl T (M + d + 1) = cl T (M + d) + (mS (tK' T (M + d))).length from rfl, hm, b]; rfl
    · rw [← Nat.add_assoc, show sm T (M + d + 1) = sm T (M + d) + lng T 0 (mS (tK' T (M + d))) from rfl, hm, e]; rfl
theorem op_goes (h : Rel T c r) (a : Int32) : OK2 (s_X6_goes a c) (s_X7_goes a r) := by
  have hO := h.1
  have hR := ok2_ref h 6 (by omega) (by omega) (show (-6 : Int32) = zi (-((6 : Nat) : Int)) from rfl)
  unfold s_X6_goes s_X7_goes s_X6_goes_L11 s_X7_goes_L11
  obtain ⟨x, rfl, x1, x2⟩ := zi_of a
  have l1 : zi x < 1 ↔ x < 1 := zi_lt (b := 1) x1 x2 (by omega) (by omega)
  have l45 : zi x ≤ 45 ↔ x ≤ 45 := zi_le (b := 45) x1 x2 (by omega) (by omega)
  by_cases h1 : x < 1
  · rw [if_pos (l1.mpr h1), if_pos (l1.mpr h1)]; exact hR
  rw [if_neg (fun w => h1 (l1.mp w)), if_neg (fun w => h1 (l1.mp w))]
  by_cases h2 : ¬ x ≤ 45
  · rw [if_neg (fun w => h2 (l45.mp w)), if_neg (fun w => h2 (l45.mp w))]; exact hR
  · obtain ⟨n, rfl⟩ : ∃ n : Nat, x = n := ⟨x.toNat, by omega⟩
    have hn : n ≤ 45 := by omega
    obtain ⟨c1, a1, a2, a3⟩ := draw2 h
    obtain ⟨M, c2, b1, b2, b3, b4, b5⟩ := makeRounds_C hO (show n ≤ 1000 by omega) a2
    have f0 : fr sI sL c c2 := fr_trans a3 b5
    have hT2 : tC 0 T c2 := tC_fr f0 (fun _ => ⟨rfl, rfl, rfl, rfl, rfl, rfl⟩) h.2.1
    obtain ⟨c3, d1, d2, d3, d4, d5⟩ := goesC_loop hO (m0 := c2) b2.2.1 M zF 0 c2 (by omega) (by have := b2.2.1; unfold zF; omega) b3 b4 hT2 (fr_refl _ _ _) (Int32.add_zero _).symm (Int32.add_zero _).symm
    obtain ⟨r3, e1, e2, e3, e4, e5⟩ := goesR_loop hO (m0 := r) hn n zF 0 r (by omega) (by unfold zF; omega) h.2.2.1 (fr_refl _ _ _) (Int32.add_zero _).symm (Int32.add_zero _).symm
    have hMn : tK' T n = tK' T M ∧ cl T n = cl T M ∧ sm T n = sm T M := by
      obtain ⟨m1, m2, m3, m4⟩ := b2
      rcases m4 with e | e
      · subst e; exact ⟨rfl, rfl, rfl⟩
      · have := still e (n - M)
        rwa [show M + (n - M) = n by omega] at this
    obtain ⟨k1, k2, k3⟩ := hMn
    rw [if_pos (l45.mpr (by omega)), if_pos (l45.mpr (by omega)), a1, zr_some, b1, zb_some, show s_X6_goes_L43 zF (zi (M : Nat)) 0 0 c2 = _ from d1, show s_X7_goes_L25 zF (zi (n : Nat)) (r.1 64 0 3) 0 r = _ from e1, k2]
    obtain ⟨q1, q2, q3⟩ := h.2.2.2.1
    refine ⟨_, _, _, tK' T M, rfl, rfl, Rel_tab (fr_trans (fr_mono f0 (fun _ _ _ w => (Bool.or_eq_false_iff.mp w).1) (fun _ _ _ w => w)) (fr_mono d3 (fun y j k w => ?_) (fun _ _ _ _ => rfl))) (fr_mono e3 (fun y j k w => ?_) (fun _ _ _ _ => rfl)) h (tK'_ok hO M) d2 (k1 ▸ e2) ⟨?_, ?_, ?_⟩ (by rw [tK'_tn]; exact Nat.le_refl _)⟩
    · unfold mI sI at w
      unfold eG
      by_cases j0 : j = 0
      · subst j0
        by_cases y6 : y = 6
        · subst y6; simp at w
        · by_cases y1 : y = 1
          · subst y1; simp at w
          · rw [beqf y6, beqf y1]; rfl
      · rw [beqf j0]; rfl
    · have w2 := fr_mRB (m := (fun _ _ _ => 0, fun _ _ _ => 0)) (m' := (fun x j k => if eB x j k then 1 else 0, fun _ _ _ => 0)) ⟨fun c j k q => by show (if eB c j k = true then (1 : Int32) else 0) = 0; rw [q]; rfl, fun _ _ _ _ => rfl⟩
      have w3 := w2.1 y j k w
      have w4 : eB y j k = false := by
        cases z : eB y j k with
        | false => rfl
        | true => simp [z] at w3
      obtain ⟨z1, z2⟩ := Bool.or_eq_false_iff.mp w4
      obtain ⟨z3, -⟩ := Bool.or_eq_false_iff.mp z2
      unfold eW eQ
      rw [z1, z3]
      by_cases y64 : y = 64
      · subst y64
        by_cases k3 : k = 3
        · subst k3; simp [mR] at w
        · by_cases k4 : k = 4
          · subst k4; simp [mR] at w
          · rw [beqf k3, beqf k4]; rfl
      · rw [beqf y64]; rfl
    · rw [d4, e4, f0.1 1 0 8 rfl, q1, k2]
    · rw [d5, e5, f0.1 1 0 9 rfl, q2, k3]
    · rw [d3.1 1 0 10 rfl, f0.1 1 0 10 rfl, q3, e3.1 64 0 5 rfl]
end X6
