/-! OPS: lasts -/
section X4
variable {T : zTab} {c r : zMem}
theorem longest_loop (hO : tOK T) {m : zMem} (hC : pC T (pLs T) m) {S : List zPr} (hS : S.Sublist (pLs T)) : ∀ (d kf p lg : Nat), p + d = (pLs T).length → d < kf → lg ≤ 20 → s_X2_longest_L5 kf (zw (mk (pLs T) S)) (zi lg) (zi p) m = some (zi (lng T lg (((pLs T).drop p).filter (fun y => decide (y ∈ S))))) := by
  have h45 := pLs_45 hO
  intro d
  induction d with
  | zero =>
    intro kf p lg hp hkf hlg
    obtain ⟨kf, rfl⟩ : ∃ z, kf = z + 1 := ⟨kf - 1, by omega⟩
    obtain rfl : p = (pLs T).length := by omega
    unfold s_X2_longest_L5
    rw [hC.1, if_pos (by rw [zi_len (by omega) (by omega)]; omega), List.drop_length]
    rfl
  | succ d ih =>
    intro kf p lg hp hkf hlg
    obtain ⟨kf, rfl⟩ : ∃ z, kf = z + 1 := ⟨kf - 1, by omega⟩
    have hpl : p < (pLs T).length := by omega
    obtain ⟨p1, p2⟩ := pLs_pa hpl
    obtain ⟨-, -, c3, -⟩ := hC.2 p hpl
    have hk := tks_le hO (show (pa (pLs T) p).1 < tn T by omega) p2
    unfold s_X2_longest_L5 s_X2_longest_L38
    rw [hC.1, if_neg (by rw [zi_len (by omega) (by omega)]; omega), isIn_C (mk_lt h45) (by omega), zr_some, zif0, mk_test, decide_eq_true hpl, Bool.true_and, zi_s1, pa_drop hpl, List.filter_cons]
    by_cases q : pa (pLs T) p ∈ S
    · rw [decide_eq_true q, cond_true, if_pos rfl, chk45 (by omega), ix45 (by omega), c3, jmax_zi (by omega) (by omega), lng_cons]
      exact ih kf (p + 1) _ (by omega) (by omega) (by omega)
    · rw [decide_eq_false q, cond_false, if_neg (by decide)]
      exact ih kf (p + 1) _ (by omega) (by omega) hlg
theorem longest_C (hO : tOK T) {m : zMem} (hC : pC T (pLs T) m) {S : List zPr} (hS : S.Sublist (pLs T)) : s_X2_longest (zw (mk (pLs T) S)) m = some (zi (lng T 0 S)) := by
  have h45 := pLs_45 hO
  unfold s_X2_longest
  have h := longest_loop hO hC hS (pLs T).length zF 0 0 (by omega) (by unfold zF; omega) (by omega)
  rw [List.drop_zero, flt_sub hS (pLs_nd hO)] at h
  exact h
/-- how long the first rounds last together -/
def sm (T : zTab) : Nat → Nat
  | 0 => 0
  | k + 1 => sm T k + lng T 0 (mS (tK' T k))
theorem mS_tK (hO : tOK T) (k : Nat) : (mS (tK' T k)).Sublist (pLs T) := (mS_sub _).trans (Ls_sub hO k)
theorem secs_loop (hO : tOK T) {m : zMem} (hC : pC T (pLs T) m) {M : Nat} (hM : M ≤ 45) (hg : gRp T M m) : ∀ (d kf k : Nat), k + d = M → d < kf → s_X2_secondsInRounds_L11 kf (zi M) (zi (sm T k)) (zi k) m = some (zi (sm T M), m) := by
  intro d
  induction d with
  | zero =>
    intro kf k hk hkf
    obtain ⟨kf, rfl⟩ : ∃ z, kf = z + 1 := ⟨kf - 1, by omega⟩
    obtain rfl : k = M := by omega
    unfold s_X2_secondsInRounds_L11
    rw [if_pos (by rw [zi_len (by omega) (by omega)]; omega)]
  | succ d ih =>
    intro kf k hk hkf
    obtain ⟨kf, rfl⟩ : ∃ z, kf = z + 1 := ⟨kf - 1, by omega⟩
    unfold s_X2_secondsInRounds_L11
    rw [if_neg (by rw [zi_len (by omega) (by omega)]; omega), chk45 (by omega), ix45 (by omega), hg k (by omega), longest_C hO hC (mS_tK hO k), zr_some, zi_addn, zi_s1]
    exact ih kf (k + 1) (by omega) (by omega)
theorem lasts_loop (hO : tOK T) {m0 : zMem} : ∀ (d kf n : Nat) (m : zMem), n + d = 45 → d < kf → (∀ j, j < n → Ls T j ≠ []) → tR (tK' T (n + 1)) m → fr eB e0 m0 m → (∀ j, j < 10 → m.1 85 0 j = m0.1 70 0 j) → ∃ M m', s_X7_lasts_L74 kf (zi (sm T n)) (zi (lng T 0 (mS (tK' T n)))) m = some (zi (sm T M), m') ∧ made T 45 M ∧ fr eB e0 m0 m' ∧ (∀ j, j < 10 → m'.1 70 0 j = m0.1 70 0 j) := by
  intro d
  induction d with
  | zero =>
    intro kf n m hn hkf hj hT hf h85
    obtain ⟨kf, rfl⟩ : ∃ z, kf = z + 1 := ⟨kf - 1, by omega⟩
    obtain rfl : n = 45 := by omega
    obtain ⟨m2, b1, b2, b3⟩ := brings_R m
    obtain ⟨l1, l2⟩ := lng_0 hO 45
    unfold s_X7_lasts_L74
    rw [l2.mpr (Ls_45 hO), if_pos (by decide), b1, zr_some]
    exact ⟨45, m2, rfl, ⟨by omega, by omega, hj, Or.inl rfl⟩, fr_trans hf (fr_B70 b3), fun j hj2 => (b2 j hj2).trans (h85 j hj2)⟩
  | succ d ih =>
    intro kf n m hn hkf hj hT hf h85
    obtain ⟨kf, rfl⟩ : ∃ z, kf = z + 1 := ⟨kf - 1, by omega⟩
    obtain ⟨l1, l2⟩ := lng_0 hO n
    have hle : zi (lng T 0 (mS (tK' T n)) : Nat) ≤ (0 : Int32) ↔ lng T 0 (mS (tK' T n)) ≤ 0 := zi_len (b := 0) (by omega) (by omega)
    unfold s_X7_lasts_L74
    by_cases z : Ls T n = []
    · obtain ⟨m2, b1, b2, b3⟩ := brings_R m
      rw [if_pos (hle.mpr (by rw [l2.mpr z]; omega)), b1, zr_some]
      exact ⟨n, m2, rfl, ⟨by omega, by omega, hj, Or.inr z⟩, fr_trans hf (fr_B70 b3), fun j hj2 => (b2 j hj2).trans (h85 j hj2)⟩
    · obtain ⟨m1, a1, a2, a3, -⟩ := round_k hO hT
      rw [if_neg (fun w => z (l2.mp (by have := hle.mp w; omega))), a1, zb_some, zi_addn]
      refine ih kf (n + 1) m1 (by omega) (by omega) (fun j hj2 => ?_) a2 (fr_trans hf (fr_BQ a3)) (fun j hj2 => (a3.1 85 0 j rfl).trans (h85 j hj2))
      by_cases q : j = n
      · rw [q]; exact z
      · exact hj j (by omega)
theorem alone_loop (hO : tOK T) {m m' : zMem} (hC : pC T (pLs T) m) (hT : tR T m') (hl : lR (pLs T) m') : ∀ (d kf i : Nat) (acc : Int32), i + d = (pLs T).length → d < kf → ∃ v, s_X2_secondsAlone_L4 kf acc (zi i) m = some v ∧ s_X7_lasts_L30 kf acc (zi i) m' = some (v, m') := by
  have h45 := pLs_45 hO
  intro d
  induction d with
  | zero =>
    intro kf i acc hi hkf
    obtain ⟨kf, rfl⟩ : ∃ z, kf = z + 1 := ⟨kf - 1, by omega⟩
    unfold s_X2_secondsAlone_L4 s_X7_lasts_L30
    rw [hC.1, hl.1, if_pos (by rw [zi_len (by omega) (by omega)]; omega), if_pos (by rw [zi_len (by omega) (by omega)]; omega)]
    exact ⟨_, rfl, rfl⟩
  | succ d ih =>
    intro kf i acc hi hkf
    obtain ⟨kf, rfl⟩ : ∃ z, kf = z + 1 := ⟨kf - 1, by omega⟩
    obtain ⟨p1, p2⟩ := pLs_pa (show i < (pLs T).length by omega)
    obtain ⟨-, -, c3, -⟩ := hC.2 i (by omega)
    obtain ⟨l1, l2⟩ := hl.2 i (by omega)
    unfold s_X2_secondsAlone_L4 s_X7_lasts_L30
    rw [hC.1, hl.1, if_neg (by rw [zi_len (by omega) (by omega)]; omega), if_neg (by rw [zi_len (by omega) (by omega)]; omega), chk45 (by omega), chk45 (by omega), ix45 (by omega), c3, l1, l2, tks_R hT hO (by omega) p2, zr_some, zlet_eq, zi_s1]
    exact ih kf (i + 1) _ (by omega) (by omega)
theorem op_lasts (h : Rel T c r) (a : Int32) : OK2 (s_X6_lasts a c) (s_X7_lasts a r) := by
  have hO := h.1
  have h45 := pLs_45 hO
  have hR := ok2_ref h 5 (by omega) (by omega) (show (-5 : Int32) = zi (-((5 : Nat) : Int)) from rfl)
  unfold s_X6_lasts s_X7_lasts s_X6_lasts_L16 s_X7_lasts_L9
  obtain ⟨x, rfl, x1, x2⟩ := zi_of a
  have e0 : zi x = 0 ↔ x = 0 := zi_eq (b := 0) x1 x2 (by omega) (by omega)
  have e1 : zi x = 1 ↔ x = 1 := zi_eq (b := 1) x1 x2 (by omega) (by omega)
  have l1 : zi x ≤ 1 ↔ x ≤ 1 := zi_le (b := 1) x1 x2 (by omega) (by omega)
  obtain ⟨c1, a1, a2, a3⟩ := draw2 h
  by_cases h0 : x = 0
  · obtain ⟨M, c2, b1, b2, b3, b4, b5⟩ := makeRounds_C hO (show 45 ≤ 1000 by omega) a2
    have hM := b2.2.1
    have hs := secs_loop hO b3 hM b4 M zF 0 (by omega) (by unfold zF; omega)
    obtain ⟨r1, y1, y2, y3⟩ := keeps_R r
    obtain ⟨r2, z1, z2, z3, -⟩ := round_k hO (k := 0) (tR_fr (T := T) y3 rfl rfl rfl (fun _ => ⟨rfl, rfl, rfl, rfl, rfl⟩) h.2.2.1)
    obtain ⟨N, r3, w1, w2, w3, w4⟩ := lasts_loop hO (m0 := r) 45 zF 0 r2 (by omega) (by unfold zF; omega) (fun j hj => absurd hj (Nat.not_lt_zero j)) z2 (fr_trans (fr_B85 y3) (fr_BQ z3)) (fun j hj => (z3.1 85 0 j rfl).trans (y2 j hj))
    rw [if_pos (e0.mpr h0), a1, zr_some, if_pos (e0.mpr h0), if_neg (fun w => by have := (lt0 x1 x2).mp w; omega), if_pos (l1.mpr (by omega)), if_neg (fun w => by have := e1.mp w; omega), y1, zr_some, z1, zb_some]
    unfold s_X2_secondsInRounds
    rw [show s_X2_makeRounds 45 c1 = some (zi (M : Nat), c2) from b1, zb_some, show s_X2_secondsInRounds_L11 zF (zi M) 0 0 c2 = some (zi (sm T M), c2) from hs, zb_some, show s_X7_lasts_L74 zF 0 (zi (lng T 0 (mS (tK' T 0)))) r2 = some (zi (sm T N), r3) from w1, made_45 hO b2 w2]
    exact ok2_same (Rel_back h (fr_trans a3 b5) w3 w4) rfl
  · by_cases h1 : x = 1
    · obtain ⟨r1, y1, y2, y3⟩ := lists2 h
      obtain ⟨v, v1, v2⟩ := alone_loop hO a2 (tR_fr y3 rfl rfl rfl (fun _ => ⟨rfl, rfl, rfl, rfl, rfl⟩) h.2.2.1) y2 (pLs T).length zF 0 0 (by omega) (by unfold zF; omega)
      rw [if_neg (fun w => h0 (e0.mp w)), if_pos (e1.mpr h1), if_neg (fun w => by have := (lt0 x1 x2).mp w; omega), if_pos (l1.mpr (by omega)), if_pos (e1.mpr h1), a1, zr_some, if_neg (fun w => h0 (e0.mp w)), y1, zb_some]
      unfold s_X2_secondsAlone
      rw [show s_X2_secondsAlone_L4 zF 0 0 c1 = some v from v1, zr_some, show s_X7_lasts_L30 zF 0 0 r1 = some (v, r1) from v2]
      exact ok2_same (Rel_fr a3 y3 h) rfl
    · rw [if_neg (fun w => h0 (e0.mp w)), if_neg (fun w => h1 (e1.mp w))]
      by_cases h2 : x < 0
      · rw [if_pos ((lt0 x1 x2).mpr h2)]; exact hR
      · rw [if_neg (fun w => h2 ((lt0 x1 x2).mp w)), if_neg (fun w => by have := l1.mp w; omega)]; exact hR
end X4
