/-! the class's PLAN, drawn -/
theorem gst_and : ∀ a, a < 10 → ∀ b, b < 10 → ∀ c, c < 10 → ∀ d, d < 10 → decide (((2 ^ a ||| 2 ^ b) &&& (2 ^ c ||| 2 ^ d)) = 0) = !shr (a, b) (c, d) := by decide +kernel
theorem bit_C {i : Nat} (h : i < 31) : s_X6_bit (zi i) = some (zi (2 ^ i : Nat)) := by
  unfold s_X6_bit
  rw [zi_shl1 h]
def gsts (a : zPr) : Nat := 2 ^ a.1 ||| 2 ^ a.2
theorem gsts_lt {a : zPr} {n : Nat} (h1 : a.1 < n) (h2 : a.2 < n) : gsts a < 2 ^ n := Nat.or_lt_two_pow (Nat.pow_lt_pow_right (by omega) h1) (Nat.pow_lt_pow_right (by omega) h2)
theorem gsts_shr {a b : zPr} (h1 : a.1 < 10) (h2 : a.2 < 10) (h3 : b.1 < 10) (h4 : b.2 < 10) : (gsts a &&& gsts b = 0) ↔ shr a b = false := by
  have h := gst_and a.1 h1 a.2 h2 b.1 h3 b.2 h4
  unfold gsts
  by_cases e : ((2 ^ a.1 ||| 2 ^ a.2) &&& (2 ^ b.1 ||| 2 ^ b.2)) = 0
  · rw [decide_eq_true e] at h
    cases hs : shr a b with
    | false => exact ⟨fun _ => rfl, fun _ => e⟩
    | true => rw [hs] at h; cases h
  · rw [decide_eq_false e] at h
    cases hs : shr a b with
    | false => rw [hs] at h; cases h
    | true => exact ⟨fun q => absurd q e, fun q => nomatch q⟩
def fB (T : zTab) (L : List zPr) (i j : Nat) : Bool := decide (i ≠ j) && cfP T (pa L i) (pa L j)
def fX (T : zTab) (L : List zPr) (i j : Nat) : Bool := crP T (pa L i) (pa L j)
def pC (T : zTab) (L : List zPr) (m : zMem) : Prop := m.1 10 0 7 = zi L.length ∧ ∀ i, i < L.length → m.1 11 0 i = zi (pa L i).1 ∧ m.1 12 0 i = zi (pa L i).2 ∧ m.1 13 0 i = zi (tksT T (pa L i).1 (pa L i).2) ∧ m.2 14 0 i = zw (bset (fX T L i) L.length) ∧ m.2 15 0 i = zw (bset (fB T L i) L.length)
/-- while the pair behind L is being added, i of L looked at -/
def gC (T : zTab) (L : List zPr) (c i : Nat) (m : zMem) : Prop := m.1 10 0 7 = zi c ∧ (∀ j, j < c + 1 → m.1 11 0 j = zi (pa L j).1 ∧ m.1 12 0 j = zi (pa L j).2 ∧ m.1 13 0 j = zi (tksT T (pa L j).1 (pa L j).2)) ∧ (∀ j, j < c → m.2 14 0 j = zw (bset (fX T L j) (if j < i then c + 1 else c)) ∧ m.2 15 0 j = zw (bset (fB T L j) (if j < i then c + 1 else c))) ∧ m.2 14 0 c = zw (bset (fX T L c) i) ∧ m.2 15 0 c = zw (bset (fB T L c) i)
def eD : zEx := fun c _ k => Nat.beq c 11 || (Nat.beq c 12 || (Nat.beq c 13 || (Nat.beq c 10 && Nat.beq k 7)))
def gD : zEx := fun c _ _ => Nat.beq c 14 || Nat.beq c 15
theorem tC_eD {g : zEx} {m m' : zMem} {T : zTab} {t : Nat} (h : fr eD g m m') (hT : tC t T m) : tC t T m' := tC_fr h (fun _ => ⟨rfl, rfl, rfl, rfl, rfl, rfl⟩) hT
theorem chk45 {β : Type} {i : Nat} {k : Option β} (h : i < 45) : chk (zi i) 45 k = k := chk_zn h (by decide)
theorem ix45 {i : Nat} (h : i < 45) : ix (zi i) = i := ix_zn (by omega)
theorem guestsOf_C {T : zTab} {L : List zPr} {c j : Nat} {m : zMem} (h1 : m.1 11 0 j = zi (pa L j).1) (h2 : m.1 12 0 j = zi (pa L j).2) (hj : j < 45) (h3 : (pa L j).1 < 10) (h4 : (pa L j).2 < 10) : s_X2_guestsOf (zi j) m = some (zi (gsts (pa L j))) := by
  have a1 : 2 ^ (pa L j).1 < 2 ^ 10 := Nat.pow_lt_pow_right (by omega) h3
  have a2 : 2 ^ (pa L j).2 < 2 ^ 10 := Nat.pow_lt_pow_right (by omega) h4
  unfold s_X2_guestsOf
  rw [chk45 hj, ix45 hj, h1, bit_C (by omega), zr_some, h2, bit_C (by omega), zr_some, zi_or (by omega) (by omega)]
  rfl
theorem two63 {n : Nat} (h : n ≤ 45) : 2 ^ n < 2 ^ 63 := Nat.pow_lt_pow_right (by omega) (by omega)
theorem bset63 (p : Nat → Bool) {n : Nat} (h : n ≤ 46) : bset p n < 2 ^ 63 := Nat.lt_of_lt_of_le (bset_lt p n) (Nat.pow_le_pow_right (by omega) (by omega))
theorem note15 {m : zMem} {c i a b : Nat} (h1 : m.1 10 0 7 = zi c) (hi : i < c) (hc : c < 45) (h2 : m.2 15 0 i = zw a) (h3 : m.2 15 0 c = zw b) (ha : a < 2 ^ 63) (hb : b < 2 ^ 63) : s_X2_note_15 (zi i) m = some (wL (wL m 15 0 i (zw (a ||| 2 ^ c))) 15 0 c (zw (b ||| 2 ^ i))) := by
  unfold s_X2_note_15
  simp only [zlet_eq, chk45 (show i < 45 by omega), ix45 (show i < 45 by omega), wL_1, h1, chk45 hc, ix45 hc, wL_2, h2, h3, show (c = i) = False from eq_false (by omega), and_false, if_false, zw_shl1 (show c < 63 by omega), zw_shl1 (show i < 63 by omega), zw_or ha (two63 (show c ≤ 45 by omega)), zw_or hb (two63 (show i ≤ 45 by omega))]
theorem note14 {m : zMem} {c i a b : Nat} (h1 : m.1 10 0 7 = zi c) (hi : i < c) (hc : c < 45) (h2 : m.2 14 0 i = zw a) (h3 : m.2 14 0 c = zw b) (ha : a < 2 ^ 63) (hb : b < 2 ^ 63) : s_X2_note_14 (zi i) m = some (wL (wL m 14 0 i (zw (a ||| 2 ^ c))) 14 0 c (zw (b ||| 2 ^ i))) := by
  unfold s_X2_note_14
  simp only [zlet_eq, chk45 (show i < 45 by omega), ix45 (show i < 45 by omega), wL_1, h1, chk45 hc, ix45 hc, wL_2, h2, h3, show (c = i) = False from eq_false (by omega), and_false, if_false, zw_shl1 (show c < 63 by omega), zw_shl1 (show i < 63 by omega), zw_or ha (two63 (show c ≤ 45 by omega)), zw_or hb (two63 (show i ≤ 45 by omega))]
theorem bset_t {p : Nat → Bool} {n : Nat} (h : p n = true) : bset p n ||| 2 ^ n = bset p (n + 1) := by rw [bset_or, bset, h]; rfl
theorem bset_f {p : Nat → Bool} {n : Nat} (h : p n = false) : bset p n = bset p (n + 1) := by rw [bset, h]; rfl
section AD
variable {T : zTab} {t : Nat} {L : List zPr} {c : Nat}
/-- the next one looked at: both are noted, or neither -/
theorem gC_next {i : Nat} {m m' : zMem} (hi : i < c) (h : gC T L c i m) (h1 : m'.1 = m.1)
    (ho : ∀ j, j ≠ i → j ≠ c → m'.2 14 0 j = m.2 14 0 j ∧ m'.2 15 0 j = m.2 15 0 j)
    (h4 : m'.2 14 0 i = zw (bset (fX T L i) (c + 1)) ∧ m'.2 14 0 c = zw (bset (fX T L c) (i + 1))) (h5 : m'.2 15 0 i = zw (bset (fB T L i) (c + 1)) ∧ m'.2 15 0 c = zw (bset (fB T L c) (i + 1))) : gC T L c (i + 1) m' := by
  obtain ⟨a, b, d, e, f⟩ := h
  refine ⟨h1 ▸ a, h1 ▸ b, fun j hj => ?_, h4.2, h5.2⟩
  by_cases q : j = i
  · subst q
    rw [if_pos (Nat.lt_succ_self j)]
    exact ⟨h4.1, h5.1⟩
  · obtain ⟨x, y⟩ := ho j q (by omega)
    obtain ⟨d1, d2⟩ := d j hj
    rw [x, y, d1, d2]
    by_cases q2 : j < i
    · rw [if_pos q2, if_pos (show j < i + 1 by omega)]; exact ⟨rfl, rfl⟩
    · rw [if_neg q2, if_neg (show ¬ j < i + 1 by omega)]; exact ⟨rfl, rfl⟩
theorem add_loop (hO : tOK T) (hc : c < 45) (hL : ∀ j, j < c + 1 → isP T (pa L j)) {p q : Nat} (hx : pa L c = (p, q)) {m0 : zMem} :
    ∀ (d kf i : Nat) (m : zMem), i + d = c → d < kf → gC T L c i m → tC t T m → fr eD gD m0 m → ∃ m', s_X2_addPair_L68 kf t (zi p) (zi q) (zi i) m = some m' ∧ gC T L c c (wI m' 10 0 7 (zi c)) ∧ m'.1 10 0 7 = zi (c + 1 : Nat) ∧ fr eD gD m0 m' := by
  have hn := hO.1
  have hPc := hL c (by omega)
  rw [hx] at hPc
  obtain ⟨c1, c2⟩ := hPc
  have c3 : p < tn T := Nat.lt_trans c1 c2
  intro d
  induction d with
  | zero =>
    intro kf i m hi hkf hg hT hf
    obtain ⟨kf, rfl⟩ : ∃ z, kf = z + 1 := ⟨kf - 1, by omega⟩
    obtain rfl : i = c := by omega
    unfold s_X2_addPair_L68
    obtain ⟨a, b, d, e, f⟩ := hg
    rw [a, if_pos (by rw [zi_len (by omega) (by omega)]; omega), zlet_eq, ln_1, zi_addn]
    refine ⟨_, rfl, ?_, by simp [wI_1], fr_wI hf rfl⟩
    refine ⟨by simp [wI_1], ?_, d, e, f⟩
    intro j hj
    obtain ⟨b1, b2, b3⟩ := b j hj
    simp [wI_1, b1, b2, b3]
  | succ d ih =>
    intro kf i m hi hkf hg hT hf
    obtain ⟨kf, rfl⟩ : ∃ z, kf = z + 1 := ⟨kf - 1, by omega⟩
    have hg' := hg
    obtain ⟨a, b, e, f, g⟩ := hg
    obtain ⟨b1, b2, b3⟩ := b i (by omega)
    obtain ⟨y1, y2, y3⟩ := b c (by omega)
    obtain ⟨e1, e2⟩ := e i (by omega)
    rw [if_neg (Nat.lt_irrefl i)] at e1 e2
    obtain ⟨l1, l2⟩ := hL i (by omega)
    have l3 : (pa L i).1 < tn T := Nat.lt_trans l1 l2
    have z1 : (pa L c).1 < 10 := by rw [hx]; show p < 10; omega
    have z2 : (pa L c).2 < 10 := by rw [hx]; show q < 10; omega
    have gi : gsts (pa L i) < 2 ^ 10 := gsts_lt (by omega) (by omega)
    have gc : gsts (pa L c) < 2 ^ 10 := gsts_lt z1 z2
    have hsy : cfP T (pa L c) (pa L i) = cfP T (pa L i) (pa L c) := cfP_sym hO (hL c (by omega)) (hL i (by omega))
    have hsx : crP T (pa L c) (pa L i) = crP T (pa L i) (pa L c) := crP_sym hO (hL c (by omega)) (hL i (by omega))
    have hne : decide (i ≠ c) = true := decide_eq_true (by omega)
    have hne2 : decide (c ≠ i) = true := decide_eq_true (by omega)
    unfold s_X2_addPair_L68 s_X2_addPair_L151
    rw [a, if_neg (by rw [zi_len (by omega) (by omega)]; omega), guestsOf_C (T := T) (c := c) b1 b2 (by omega) (by omega) (by omega), zr_some, guestsOf_C (T := T) (c := c) y1 y2 (by omega) z1 z2, zr_some, zi_and (by omega) (by omega)]
    have hz : zi (gsts (pa L i) &&& gsts (pa L c) : Nat) = (0 : Int32) ↔ gsts (pa L i) &&& gsts (pa L c) = 0 := zi_eqn (b := 0) (Nat.lt_of_le_of_lt Nat.and_le_left (by omega)) (by omega)
    cases hs : shr (pa L i) (pa L c) with
    | true =>
      rw [if_neg (fun w => by rw [(gsts_shr (by omega) (by omega) z1 z2).mp (hz.mp w)] at hs; cases hs), note15 a (by omega) hc e2 g (bset63 _ (by omega)) (bset63 _ (by omega)), zr_some, ln_1, zi_addn]
      have q1 : fB T L i c = true := by unfold fB cfP; rw [hne, hs]; rfl
      have q2 : fB T L c i = true := by unfold fB; rw [hne2, hsy]; unfold cfP; rw [hs]; rfl
      have q3 : fX T L i c = false := by unfold fX crP; rw [hs]; rfl
      have q4 : fX T L c i = false := by unfold fX; rw [hsx]; unfold crP; rw [hs]; rfl
      rw [bset_t q1, bset_t q2]
      have hf2 : fr eD gD m (wL (wL m 15 0 i (zw (bset (fB T L i) (c + 1)))) 15 0 c (zw (bset (fB T L c) (i + 1)))) := fr_wL (fr_wL (fr_refl _ _ _) rfl) rfl
      refine ih kf (i + 1) _ (by omega) (by omega) (gC_next (by omega) hg' rfl ?_ ⟨?_, ?_⟩ ⟨?_, ?_⟩) (tC_eD hf2 hT) (fr_trans hf hf2)
      · intro j h1 h2; simp [wL_2, h1, h2]
      · rw [← bset_f q3]; simp [wL_2, e1]
      · rw [← bset_f q4]; simp [wL_2, f]
      · simp [wL_2, show i ≠ c by omega]
      · simp [wL_2]
    | false =>
      rw [if_pos (hz.mpr ((gsts_shr (by omega) (by omega) z1 z2).mpr hs)), chk45 (by omega), ix45 (by omega), b1, b2, crs_C hT hO l3 l2 c3 c2, zr_some, zif0]
      cases hcr : crsT T (pa L i).1 (pa L i).2 p q with
      | false =>
        rw [cond_false, ln_1, zi_addn]
        have q1 : fB T L i c = false := by unfold fB cfP; rw [hs, hx]; show (_ && (_ || crsT T _ _ p q)) = false; rw [hcr, hne]; rfl
        have q2 : fB T L c i = false := by unfold fB; rw [hne2, hsy]; unfold cfP; rw [hs, hx]; show (_ && (_ || crsT T _ _ p q)) = false; rw [hcr]; rfl
        have q3 : fX T L i c = false := by unfold fX crP; rw [hs, hx]; show (_ && crsT T _ _ p q) = false; rw [hcr]; rfl
        have q4 : fX T L c i = false := by unfold fX; rw [hsx]; unfold crP; rw [hs, hx]; show (_ && crsT T _ _ p q) = false; rw [hcr]; rfl
        refine ih kf (i + 1) _ (by omega) (by omega) (gC_next (by omega) hg' rfl (fun j _ _ => ⟨rfl, rfl⟩) ⟨?_, ?_⟩ ⟨?_, ?_⟩) hT hf
        · rw [← bset_f q3]; exact e1
        · rw [← bset_f q4]; exact f
        · rw [← bset_f q1]; exact e2
        · rw [← bset_f q2]; exact g
      | true =>
        rw [cond_true, note15 a (by omega) hc e2 g (bset63 _ (by omega)) (bset63 _ (by omega)), zr_some]
        rw [note14 (c := c) (i := i) (a := bset (fX T L i) c) (b := bset (fX T L c) i) (by simp [wL_1, a]) (by omega) hc (by simp [wL_2, e1]) (by simp [wL_2, f]) (bset63 _ (by omega)) (bset63 _ (by omega)), zr_some, ln_1, zi_addn]
        have q1 : fB T L i c = true := by unfold fB cfP; rw [hs, hx]; show (_ && (_ || crsT T _ _ p q)) = true; rw [hcr, hne]; rfl
        have q2 : fB T L c i = true := by unfold fB; rw [hne2, hsy]; unfold cfP; rw [hs, hx]; show (_ && (_ || crsT T _ _ p q)) = true; rw [hcr]; rfl
        have q3 : fX T L i c = true := by unfold fX crP; rw [hs, hx]; show (_ && crsT T _ _ p q) = true; rw [hcr]; rfl
        have q4 : fX T L c i = true := by unfold fX; rw [hsx]; unfold crP; rw [hs, hx]; show (_ && crsT T _ _ p q) = true; rw [hcr]; rfl
        rw [bset_t q1, bset_t q2, bset_t q3, bset_t q4]
        have hf2 : fr eD gD m (wL (wL (wL (wL m 15 0 i (zw (bset (fB T L i) (c + 1)))) 15 0 c (zw (bset (fB T L c) (i + 1)))) 14 0 i (zw (bset (fX T L i) (c + 1)))) 14 0 c (zw (bset (fX T L c) (i + 1)))) := fr_wL (fr_wL (fr_wL (fr_wL (fr_refl _ _ _) rfl) rfl) rfl) rfl
        refine ih kf (i + 1) _ (by omega) (by omega) (gC_next (by omega) hg' rfl ?_ ⟨?_, ?_⟩ ⟨?_, ?_⟩) (tC_eD hf2 hT) (fr_trans hf hf2)
        · intro j h1 h2; simp [wL_2, h1, h2]
        · simp [wL_2, show i ≠ c by omega]
        · simp [wL_2]
        · simp [wL_2, show i ≠ c by omega]
        · simp [wL_2]
end AD
