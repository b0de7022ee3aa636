/-! OPS: rounds, lasts -/
section X3
variable {T : zTab} {c r : zMem}
theorem keeps_loop : ∀ (d kf k : Nat) (m : zMem), k + d = 10 → d < kf → ∃ m', s_X7_keepsHad_L2 kf (zi k) m = some m' ∧ (∀ j, k ≤ j → j < 10 → m'.1 85 0 j = m.1 70 0 j) ∧ (∀ j, j < k → m'.1 85 0 j = m.1 85 0 j) ∧ fr (fun x _ _ => Nat.beq x 85) e0 m m' := by
  intro d
  induction d with
  | zero =>
    intro kf k m hk hkf
    obtain ⟨kf, rfl⟩ : ∃ z, kf = z + 1 := ⟨kf - 1, by omega⟩
    unfold s_X7_keepsHad_L2
    rw [if_pos (by rw [show (10 : Int32) = zi (10 : Nat) from rfl, zi_len (by omega) (by omega)]; omega)]
    exact ⟨m, rfl, fun j h1 h2 => by omega, fun j _ => rfl, fr_refl _ _ _⟩
  | succ d ih =>
    intro kf k m hk hkf
    obtain ⟨kf, rfl⟩ : ∃ z, kf = z + 1 := ⟨kf - 1, by omega⟩
    unfold s_X7_keepsHad_L2
    rw [if_neg (by rw [show (10 : Int32) = zi (10 : Nat) from rfl, zi_len (by omega) (by omega)]; omega), chk_zn (show k < 10 by omega) (by decide), ix_zn (show k < 2147483648 by omega), zlet_eq, zi_s1]
    obtain ⟨m', a, b, b2, e⟩ := ih kf (k + 1) (wI m 85 0 k (m.1 70 0 k)) (by omega) (by omega)
    refine ⟨m', a, fun j h1 h2 => ?_, fun j hj => ?_, fr_trans (fr_wI (fr_refl _ _ _) rfl) e⟩
    · by_cases q : j = k
      · subst q; rw [b2 j (by omega)]; simp [wI_1]
      · rw [b j (by omega) h2]; simp [wI_1]
    · rw [b2 j (by omega)]; simp [wI_1, show j ≠ k by omega]
theorem keeps_R (m : zMem) : ∃ m', s_X7_keepsHad m = some m' ∧ (∀ j, j < 10 → m'.1 85 0 j = m.1 70 0 j) ∧ fr (fun x _ _ => Nat.beq x 85) e0 m m' := by
  unfold s_X7_keepsHad
  obtain ⟨m', a, b, -, e⟩ := keeps_loop 10 zF 0 m (by omega) (by unfold zF; omega)
  exact ⟨m', a, fun j hj => b j (Nat.zero_le _) hj, e⟩
theorem brings_loop : ∀ (d kf k : Nat) (m : zMem), k + d = 10 → d < kf → ∃ m', s_X7_bringsHad_L2 kf (zi k) m = some m' ∧ (∀ j, k ≤ j → j < 10 → m'.1 70 0 j = m.1 85 0 j) ∧ (∀ j, j < k → m'.1 70 0 j = m.1 70 0 j) ∧ fr (fun x _ _ => Nat.beq x 70) e0 m m' := by
  intro d
  induction d with
  | zero =>
    intro kf k m hk hkf
    obtain ⟨kf, rfl⟩ : ∃ z, kf = z + 1 := ⟨kf - 1, by omega⟩
    unfold s_X7_bringsHad_L2
    rw [if_pos (by rw [show (10 : Int32) = zi (10 : Nat) from rfl, zi_len (by omega) (by omega)]; omega)]
    exact ⟨m, rfl, fun j h1 h2 => by omega, fun j _ => rfl, fr_refl _ _ _⟩
  | succ d ih =>
    intro kf k m hk hkf
    obtain ⟨kf, rfl⟩ : ∃ z, kf = z + 1 := ⟨kf - 1, by omega⟩
    unfold s_X7_bringsHad_L2
    rw [if_neg (by rw [show (10 : Int32) = zi (10 : Nat) from rfl, zi_len (by omega) (by omega)]; omega), chk_zn (show k < 10 by omega) (by decide), ix_zn (show k < 2147483648 by omega), zlet_eq, zi_s1]
    obtain ⟨m', a, b, b2, e⟩ := ih kf (k + 1) (wI m 70 0 k (m.1 85 0 k)) (by omega) (by omega)
    refine ⟨m', a, fun j h1 h2 => ?_, fun j hj => ?_, fr_trans (fr_wI (fr_refl _ _ _) rfl) e⟩
    · by_cases q : j = k
      · subst q; rw [b2 j (by omega)]; simp [wI_1]
      · rw [b j (by omega) h2]; simp [wI_1]
    · rw [b2 j (by omega)]; simp [wI_1, show j ≠ k by omega]
theorem brings_R (m : zMem) : ∃ m', s_X7_bringsHad m = some m' ∧ (∀ j, j < 10 → m'.1 70 0 j = m.1 85 0 j) ∧ fr (fun x _ _ => Nat.beq x 70) e0 m m' := by
  unfold s_X7_bringsHad
  obtain ⟨m', a, b, -, e⟩ := brings_loop 10 zF 0 m (by omega) (by unfold zF; omega)
  exact ⟨m', a, fun j hj => b j (Nat.zero_le _) hj, e⟩
/-- all that a look ahead may change in the reference, until what was had is brought back -/
def eB : zEx := fun c j k => rM c j k || (Nat.beq c 70 || Nat.beq c 85)
theorem fr_B70 {m m' : zMem} (h : fr (fun x _ _ => Nat.beq x 70) e0 m m') : fr eB e0 m m' := fr_mono h (fun _ _ _ w => (Bool.or_eq_false_iff.mp (Bool.or_eq_false_iff.mp w).2).1) (fun _ _ _ _ => rfl)
theorem fr_B85 {m m' : zMem} (h : fr (fun x _ _ => Nat.beq x 85) e0 m m') : fr eB e0 m m' := fr_mono h (fun _ _ _ w => (Bool.or_eq_false_iff.mp (Bool.or_eq_false_iff.mp w).2).2) (fun _ _ _ _ => rfl)
theorem fr_BQ {m m' : zMem} (h : fr eQ e0 m m') : fr eB e0 m m' := fr_mono h (fun _ _ _ w => by
  obtain ⟨a, b⟩ := Bool.or_eq_false_iff.mp w
  exact Bool.or_eq_false_iff.mpr ⟨a, (Bool.or_eq_false_iff.mp b).1⟩) (fun _ _ _ _ => rfl)
theorem fr_BM {m m' : zMem} (h : fr rM e0 m m') : fr eB e0 m m' := fr_mono h (fun _ _ _ w => (Bool.or_eq_false_iff.mp w).1) (fun _ _ _ _ => rfl)
theorem fr_mRB {m m' : zMem} (h : fr eB e0 m m') : fr mR rL m m' := fr_mono h (fun x j k w => by
  obtain ⟨a, b⟩ := Bool.or_eq_false_iff.mp w
  have h1 : fr rM e0 (fun _ _ _ => 0, fun _ _ _ => 0) (fun x j k => if rM x j k then 1 else 0, fun _ _ _ => 0) := ⟨fun c j k q => by show (if rM c j k = true then (1 : Int32) else 0) = 0; rw [q]; rfl, fun _ _ _ _ => rfl⟩
  have a1 := (fr_rM h1).1 x j k a
  unfold eB
  cases e1 : rM x j k with
  | true => simp [e1] at a1
  | false =>
    by_cases e2 : x = 70
    · subst e2; simp at b
    · by_cases e3 : x = 85
      · subst e3; simp [rI'] at a
      · rw [beqf e2, beqf e3]; rfl) (fun _ _ _ _ => rfl)
/-- what was had is as before -/
theorem tR_back (hn : tn T ≤ 10) {m m' : zMem} (h : fr eB e0 m m') (h70 : ∀ j, j < 10 → m'.1 70 0 j = m.1 70 0 j) (hT : tR T m) : tR T m' := by
  obtain ⟨a, b, d, e⟩ := hT
  refine ⟨(h.1 _ _ _ rfl).trans a, (h.1 _ _ _ rfl).trans b, (h.1 _ _ _ rfl).trans d, fun g hg => ?_⟩
  obtain ⟨e1, e2, e3, e4, e5⟩ := e g hg
  exact ⟨(h.1 _ _ _ rfl).trans e1, (h.1 _ _ _ rfl).trans e2, (h.1 _ _ _ rfl).trans e3, (h.1 _ _ _ rfl).trans e4, (h70 g (by omega)).trans e5⟩
theorem Rel_back (h : Rel T c r) {c' r' : zMem} (f1 : fr sI sL c c') (f2 : fr eB e0 r r') (h70 : ∀ j, j < 10 → r'.1 70 0 j = r.1 70 0 j) : Rel T c' r' :=
  Rel_tab (fr_mono f1 (fun _ _ _ w => (Bool.or_eq_false_iff.mp w).1) (fun _ _ _ w => w)) (fr_mRB f2) h h.1 (tC_fr f1 (fun _ => ⟨rfl, rfl, rfl, rfl, rfl, rfl⟩) h.2.1) (tR_back h.1.1 f2 h70 h.2.2.1) (cntQ_fr f1 f2 (fun k hk => by
    unfold sI; simp; rfl) ⟨rfl, rfl, rfl⟩ h.2.2.2.1) (Nat.le_refl _)
theorem lng_tK (T : zTab) (k a : Nat) (S : List zPr) : lng (tK' T k) a S = lng T a S := by
  unfold lng
  rw [tK'_tks]
theorem mS_bd (hO : tOK T) : ∀ x, x ∈ mS T → x.1 < tn T ∧ x.2 < tn T := fun x hx => by
  obtain ⟨a, b, -⟩ := pLs_mem.mp ((mS_sub T).subset hx)
  exact ⟨by omega, b⟩
theorem lng_0 (hO : tOK T) (k : Nat) : lng T 0 (mS (tK' T k)) ≤ 20 ∧ (lng T 0 (mS (tK' T k)) = 0 ↔ Ls T k = []) := by
  have ho := tK'_ok hO k
  have hb := mS_bd ho
  rw [tK'_tn] at hb
  refine ⟨(lng_le hO _ 0 (by omega) hb).1, ?_, ?_⟩
  · intro h
    refine Classical.byContradiction (fun w => ?_)
    have := lng_pos hO (mS_ne ho w) hb
    omega
  · intro h
    have : mS (tK' T k) = [] := List.sublist_nil.mp (h ▸ mS_sub (tK' T k))
    rw [this]; rfl
/-- one round more -/
theorem round_k (hO : tOK T) {k : Nat} {m : zMem} (hT : tR (tK' T k) m) : ∃ m', s_X7_round m = some (zi (lng T 0 (mS (tK' T k))), m') ∧ tR (tK' T (k + 1)) m' ∧ fr eQ e0 m m' ∧ m'.1 64 0 33 = zi (mS (tK' T k)).length := by
  obtain ⟨m', a, b, d, e⟩ := round_R (tK'_ok hO k) hT
  rw [lng_tK] at a
  exact ⟨m', a, b, d, e⟩
theorem rounds_loop (hO : tOK T) {m0 : zMem} : ∀ (d kf n : Nat) (m : zMem), n + d = 45 → d < kf → (∀ j, j < n → Ls T j ≠ []) → tR (tK' T n) m → fr eB e0 m0 m → (∀ j, j < 10 → m.1 85 0 j = m0.1 70 0 j) → ∃ M m', s_X7_rounds_L6 kf (zi n) m = some (zi (M : Nat), m') ∧ made T 45 M ∧ fr eB e0 m0 m' ∧ (∀ j, j < 10 → m'.1 70 0 j = m0.1 70 0 j) := by
  intro d
  induction d with
  | zero =>
    intro kf n m hn hkf hj hT hf h85
    obtain ⟨kf, rfl⟩ : ∃ z, kf = z + 1 := ⟨kf - 1, by omega⟩
    obtain rfl : n = 45 := by omega
    obtain ⟨m1, a1, a2, a3, -⟩ := round_k hO hT
    obtain ⟨m2, b1, b2, b3⟩ := brings_R m1
    obtain ⟨l1, l2⟩ := lng_0 hO 45
    unfold s_X7_rounds_L6
    rw [a1, zb_some, l2.mpr (Ls_45 hO), if_pos (by decide), b1, zr_some]
    exact ⟨45, m2, rfl, ⟨by omega, by omega, hj, Or.inl rfl⟩, fr_trans hf (fr_trans (fr_BQ a3) (fr_B70 b3)), fun j hj2 => (b2 j hj2).trans ((a3.1 85 0 j rfl).trans (h85 j hj2))⟩
  | succ d ih =>
    intro kf n m hn hkf hj hT hf h85
    obtain ⟨kf, rfl⟩ : ∃ z, kf = z + 1 := ⟨kf - 1, by omega⟩
    obtain ⟨m1, a1, a2, a3, -⟩ := round_k hO hT
    obtain ⟨l1, l2⟩ := lng_0 hO n
    have hle : zi (lng T 0 (mS (tK' T n)) : Nat) ≤ (0 : Int32) ↔ lng T 0 (mS (tK' T n)) ≤ 0 := zi_len (b := 0) (by omega) (by omega)
    unfold s_X7_rounds_L6
    rw [a1, zb_some]
    by_cases z : Ls T n = []
    · obtain ⟨m2, b1, b2, b3⟩ := brings_R m1
      rw [if_pos (hle.mpr (by rw [l2.mpr z]; omega)), b1, zr_some]
      exact ⟨n, m2, rfl, ⟨by omega, by omega, hj, Or.inr z⟩, fr_trans hf (fr_trans (fr_BQ a3) (fr_B70 b3)), fun j hj2 => (b2 j hj2).trans ((a3.1 85 0 j rfl).trans (h85 j hj2))⟩
    · rw [if_neg (fun w => z (l2.mp (by have := hle.mp w; omega))), zi_s1]
      refine ih kf (n + 1) m1 (by omega) (by omega) (fun j hj2 => ?_) a2 (fr_trans hf (fr_BQ a3)) (fun j hj2 => (a3.1 85 0 j rfl).trans (h85 j hj2))
      by_cases q : j = n
      · rw [q]; exact z
      · exact hj j (by omega)
theorem made_45 (hO : tOK T) {M N : Nat} (h1 : made T 45 M) (h2 : made T 45 N) : M = N := by
  obtain ⟨a1, a2, a3, a4⟩ := h1
  obtain ⟨b1, b2, b3, b4⟩ := h2
  have eM : Ls T M = [] := by
    rcases a4 with e | e
    · rw [e]; exact Ls_45 hO
    · exact e
  have eN : Ls T N = [] := by
    rcases b4 with e | e
    · rw [e]; exact Ls_45 hO
    · exact e
  rcases Nat.lt_trichotomy M N with h | h | h
  · exact absurd eM (b3 M h)
  · exact h
  · exact absurd eN (a3 N h)
theorem op_rounds (h : Rel T c r) : OK2 (s_X6_rounds c) (s_X7_rounds r) := by
  have hO := h.1
  obtain ⟨c1, a1, a2, a3⟩ := draw2 h
  obtain ⟨M, c2, b1, b2, b3, b4, b5⟩ := makeRounds_C hO (show 45 ≤ 1000 by omega) a2
  obtain ⟨r1, x1, x2, x3⟩ := keeps_R r
  obtain ⟨N, r2, y1, y2, y3, y4⟩ := rounds_loop hO (m0 := r) 45 zF 0 r1 (by omega) (by unfold zF; omega) (fun j hj => absurd hj (Nat.not_lt_zero j)) (tR_fr x3 rfl rfl rfl (fun _ => ⟨rfl, rfl, rfl, rfl, rfl⟩) h.2.2.1) (fr_B85 x3) x2
  unfold s_X6_rounds s_X7_rounds
  rw [a1, zr_some, show s_X2_makeRounds 45 c1 = some (zi (M : Nat), c2) from b1, zb_some, x1, zr_some, show s_X7_rounds_L6 zF 0 r1 = some (zi (N : Nat), r2) from y1, made_45 hO b2 y2]
  exact ok2_same (Rel_back h (fr_trans a3 b5) y3 y4) rfl
end X3
