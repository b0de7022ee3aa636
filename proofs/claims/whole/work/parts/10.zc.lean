/-! FEWEST by the class -/
section ZC
variable {T : zTab} {c r : zMem}
def cL (T : zTab) (i j : Nat) : Bool := cfP T (pa (pLs T) i) (pa (pLs T) j)
theorem i2l : ∀ k, k < 1024 → Int32.toInt64 (zi (k : Nat)) = zw k := by decide +kernel
theorem cL_sym (hO : tOK T) {i j : Nat} (hi : i < (pLs T).length) (hj : j < (pLs T).length) : cL T i j = cL T j i := cfP_sym hO (isP_pa hi) (isP_pa hj)
theorem bit_lt {x n i : Nat} (h : x < 2 ^ n) (hi : x.testBit i = true) : i < n := by
  by_cases w : i < n
  · exact w
  · rw [Nat.testBit_lt_two_pow (Nat.lt_of_lt_of_le h (Nat.pow_le_pow_right (by omega) (by omega)))] at hi; cases hi
theorem andn_top {l r s : Nat} (hr : r < 2 ^ l) (hs : s < 2 ^ l) : andn (2 ^ l + r) (2 ^ l + s) = andn r s := Nat.eq_of_testBit_eq (fun i => by
  rw [andn_test, andn_test, top_test hr, top_test hs]
  by_cases e : l = i
  · subst e
    rw [decide_eq_true rfl, Nat.testBit_lt_two_pow hr]; rfl
  · rw [decide_eq_false e]; rfl)
theorem andn_z (r : Nat) : andn r 0 = r := Nat.eq_of_testBit_eq (fun i => by rw [andn_test, Nat.zero_testBit]; simp)
theorem sub_top {l r s : Nat} (hr : r < 2 ^ l) (hs : s < 2 ^ l) (h : sub s r) : sub (2 ^ l + s) (2 ^ l + r) := fun i hi => by
  rw [top_test hs] at hi
  rw [top_test hr]
  cases e : decide (l = i) with
  | true => rfl
  | false => rw [e, Bool.false_or] at hi; rw [h i hi]; rfl
theorem ind_top (hO : tOK T) {l r : Nat} (hl : l < (pLs T).length) (hr : r < 2 ^ l) : ind (cL T) (2 ^ l + r) ↔ (ind (cL T) r ∧ ∀ i, r.testBit i = true → cL T l i = false) := by
  have ht := top_test hr
  constructor
  · intro h
    refine ⟨fun i j hi hj => h i j (by rw [ht, hi, Bool.or_true]) (by rw [ht, hj, Bool.or_true]), fun i hi => h l i (by rw [ht, decide_eq_true rfl]; rfl) (by rw [ht, hi, Bool.or_true]) (by have := bit_lt hr hi; omega)⟩
  · rintro ⟨h1, h2⟩ i j hi hj hij
    rw [ht] at hi hj
    by_cases e1 : l = i
    · subst e1
      rw [decide_eq_false hij, Bool.false_or] at hj
      exact h2 j hj
    · rw [decide_eq_false e1, Bool.false_or] at hi
      by_cases e2 : l = j
      · subst e2
        rw [cL_sym hO (by have := bit_lt hr hi; omega) hl]
        exact h2 i hi
      · rw [decide_eq_false e2, Bool.false_or] at hj
        exact h1 i j hi hj hij
def pQ (T : zTab) (x N : Nat) (m : zMem) : Prop := ∀ z, z < N → ∃ v, m.1 x 0 z = zi (v : Nat) ∧ fsQ (cL T) z v
theorem pow10 {n : Nat} (h : n ≤ 10) : 2 ^ n ≤ 1024 := Nat.pow_le_pow_right (n := 2) (j := 10) (by omega) h
/-- what the loop over the parts has found -/
def bsQ (T : zTab) (l r vr s b : Nat) : Prop := b ≤ 11 ∧ ∀ k, b ≤ k ↔ (vr + 1 ≤ k ∨ ∃ y, 1 ≤ y ∧ y < s ∧ sub y r ∧ ind (cL T) (2 ^ l + y) ∧ ∃ k', k = k' + 1 ∧ col (cL T) k' (andn r y))
theorem pw_loop {l r vr : Nat} (hl : l < 10) (hr : r < 2 ^ l) {m : zMem} (hP : pQ T 17 (2 ^ l + r) m) : ∀ (d kf s b : Nat), s + d = r → d < kf → 1 ≤ s → bsQ T l r vr s b → ∃ b', s_X2_partsWith_L38 kf (zi l) (zi r) (zi b) (zi s) m = some (zi (b' : Nat)) ∧ bsQ T l r vr r b' := by
  have h10 := pow10 (show l + 1 ≤ 10 by omega)
  rw [Nat.pow_succ] at h10
  intro d
  induction d with
  | zero =>
    intro kf s b hs hkf h1 hb
    obtain ⟨kf, rfl⟩ : ∃ z, kf = z + 1 := ⟨kf - 1, by omega⟩
    obtain rfl : s = r := by omega
    unfold s_X2_partsWith_L38
    rw [if_pos (Int32.le_refl _)]
    exact ⟨b, rfl, hb⟩
  | succ d ih =>
    intro kf s b hs hkf h1 hb
    obtain ⟨kf, rfl⟩ : ∃ z, kf = z + 1 := ⟨kf - 1, by omega⟩
    have hlt : ¬ zi (r : Nat) ≤ zi (s : Nat) := fun w => by rw [zi_len (by omega) (by omega)] at w; omega
    have hsl : s < 2 ^ l := by omega
    have hz : (zi (s : Nat) &&& (zi (r : Nat) ^^^ (-1)) = 0) ↔ sub s r := by
      rw [zi_andn (by omega) (by omega), show (0 : Int32) = zi (0 : Nat) from rfl, zi_eqn (Nat.lt_of_lt_of_le (andn_lt (n := 31) (by omega)) (by omega)) (by omega), andn_0]
    obtain ⟨v, v1, v2⟩ := hP (2 ^ l + s) (by omega)
    have hv1 := fsQ_1 v2 (by have := Nat.two_pow_pos l; omega)
    have hv10 := fsQ_10 v2 (by omega)
    have hle : andn r s ≤ r := sub_le (fun i hi => by rw [andn_test] at hi; exact (Bool.and_eq_true_iff.mp hi).1)
    obtain ⟨w, w1, w2⟩ := hP (andn r s) (by have := Nat.two_pow_pos l; omega)
    have hw10 := fsQ_10 w2 (by omega)
    have skip : ¬ (sub s r ∧ ind (cL T) (2 ^ l + s)) → bsQ T l r vr (s + 1) b := fun q => ⟨hb.1, fun k => by
      rw [hb.2 k]
      refine ⟨fun e => e.imp id (fun ⟨y, a1, a2, a3⟩ => ⟨y, a1, by omega, a3⟩), fun e => e.imp id (fun ⟨y, a1, a2, a3, a4, a5⟩ => ?_)⟩
      by_cases ey : y = s
      · subst ey; exact absurd ⟨a3, a4⟩ q
      · exact ⟨y, a1, by omega, a3, a4, a5⟩⟩
    unfold s_X2_partsWith_L38 s_X2_partsWith_L87
    rw [if_neg hlt, bit_C (by omega), zr_some, zi_or (by omega) (by omega), or_add hsl, chk_zn (show 2 ^ l + s < 1024 by omega) (by decide), ix_zn (by omega), v1, zi_andn (a := r) (b := s) (by omega) (by omega), chk_zn (show andn r s < 1024 by omega) (by decide), ix_zn (by omega), w1, zlet_eq, zi_s1]
    by_cases e1 : sub s r
    · rw [if_pos (hz.mpr e1)]
      by_cases e2 : v = 1
      · rw [if_pos (show zi (v : Nat) = 1 from by rw [e2]; rfl), show (1 : Int32) + zi (w : Nat) = zi (1 + w : Nat) from zi_addn 1 w, jmin_zi (by have := hb.1; omega) (by omega)]
        refine ih kf (s + 1) (min b (1 + w)) (by omega) (by omega) (by omega) ⟨by have := hb.1; omega, fun k => ?_⟩
        have hbk := hb.2 k
        constructor
        · intro q
          by_cases qb : b ≤ k
          · exact (hbk.mp qb).imp id (fun ⟨y, a1, a2, a3⟩ => ⟨y, a1, by omega, a3⟩)
          · exact Or.inr ⟨s, h1, by omega, e1, hv1.mp e2, k - 1, by omega, (w2 (k - 1)).mp (by omega)⟩
        · rintro (q | ⟨y, a1, a2, a3, a4, k', a5, a6⟩)
          · have := hbk.mpr (Or.inl q); omega
          · by_cases ey : y = s
            · subst ey
              have := (w2 k').mpr a6; omega
            · have := hbk.mpr (Or.inr ⟨y, a1, by omega, a3, a4, k', a5, a6⟩); omega
      · have v1n : ¬ zi (v : Nat) = 1 := fun q => e2 ((zi_eqn (b := 1) (by omega) (by omega)).mp q)
        rw [if_neg v1n]
        exact ih kf (s + 1) b (by omega) (by omega) (by omega) (skip (fun q => e2 (hv1.mpr q.2)))
    · rw [if_neg (fun q => e1 (hz.mp q))]
      exact ih kf (s + 1) b (by omega) (by omega) (by omega) (skip (fun q => e1 q.1))
theorem pw_C (hO : tOK T) (h10 : (pLs T).length ≤ 10) {m : zMem} (hC : pC T (pLs T) m) {l r : Nat} (hl : l < (pLs T).length) (hr : r < 2 ^ l) (hP : pQ T 17 (2 ^ l + r) m) : ∃ v, s_X2_partsWith (zi l) (zi r) m = some (zi (v : Nat)) ∧ fsQ (cL T) (2 ^ l + r) v := by
  have hp := pow10 (show l + 1 ≤ 10 by omega)
  rw [Nat.pow_succ] at hp
  have hpos := Nat.two_pow_pos l
  have hx0 : 2 ^ l + r ≠ 0 := by omega
  obtain ⟨v, v1, v2⟩ := hP r (by omega)
  have hv10 := fsQ_10 v2 (by omega)
  have hit := ind_top hO hl hr
  have hcond : (lg_cmp (zw (bset (fB T (pLs T) l) (pLs T).length) &&& zw r) 0 = 0) ↔ ∀ i, r.testBit i = true → cL T l i = false := by
    rw [zw_and (bset63 _ (by omega)) (by omega), lg_cmp_0, show (0 : Int64) = zw 0 from rfl, zw_inj (Nat.lt_trans (Nat.lt_of_le_of_lt Nat.and_le_left (bset63 _ (by omega))) (by omega)) (by omega)]
    constructor
    · intro w i hi
      have hil := bit_lt hr hi
      have := congrArg (fun q : Nat => q.testBit i) w
      simp only [Nat.testBit_and, bset_test, Nat.zero_testBit, hi, decide_eq_true (show i < (pLs T).length by omega), Bool.true_and, Bool.and_true] at this
      unfold fB at this
      rw [decide_eq_true (show l ≠ i by omega), Bool.true_and] at this
      exact this
    · intro w
      refine tb_0 (fun i => ?_)
      rw [Nat.testBit_and, bset_test]
      cases hi : r.testBit i with
      | false => rw [Bool.and_false]
      | true =>
        have := w i hi
        unfold cL at this
        unfold fB
        rw [this, Bool.and_false, Bool.and_false]; rfl
  have one : ind (cL T) (2 ^ l + r) → fsQ (cL T) (2 ^ l + r) 1 := fun q k => ⟨fun e => col_mono e (col_1.mpr q), fun e => by
    by_cases k0 : k = 0
    · subst k0; exact absurd (col_0.mp e) hx0
    · omega⟩
  have many : ¬ ind (cL T) (2 ^ l + r) → ∃ v, s_X2_partsWith_L26 (zi l) (zi r) m = some (zi (v : Nat)) ∧ fsQ (cL T) (2 ^ l + r) v := fun q => by
    have hr0 : r ≠ 0 := fun e => by
      subst e
      exact q (hit.mpr ⟨fun i j hi => (by rw [Nat.zero_testBit] at hi; cases hi), fun i hi => (by rw [Nat.zero_testBit] at hi; cases hi)⟩)
    obtain ⟨b, b1, b2, b3⟩ := pw_loop (T := T) (vr := v) (show l < 10 by omega) hr hP (r - 1) zF 1 (1 + v) (by omega) (by unfold zF; omega) (Nat.le_refl _) ⟨by omega, fun k => ⟨fun e => Or.inl (by omega), fun e => by
      rcases e with e | ⟨y, a1, a2, _⟩
      · omega
      · omega⟩⟩
    unfold s_X2_partsWith_L26
    rw [chk_zn (show r < 1024 by omega) (by decide), ix_zn (by omega), v1, zlet_eq, show (1 : Int32) + zi (v : Nat) = zi (1 + v : Nat) from zi_addn 1 v]
    refine ⟨b, b1, fun k => ?_⟩
    rw [b3 k]
    have hlb : (2 ^ l + r).testBit l = true := by rw [top_test hr, decide_eq_true rfl]; rfl
    cases k with
    | zero =>
      refine ⟨fun e => ?_, fun e => absurd (col_0.mp e) hx0⟩
      rcases e with e | ⟨y, _, _, _, _, k', a5, _⟩
      · omega
      · omega
    | succ k =>
      rw [col_step hlb]
      constructor
      · rintro (e | ⟨y, a1, a2, a3, a4, k', a5, a6⟩)
        · refine ⟨2 ^ l + 0, sub_top hr hpos (fun i hi => (by rw [Nat.zero_testBit] at hi; cases hi)), by rw [top_test hpos, decide_eq_true rfl]; rfl, (ind_top hO hl hpos).mpr ⟨fun i j hi => (by rw [Nat.zero_testBit] at hi; cases hi), fun i hi => (by rw [Nat.zero_testBit] at hi; cases hi)⟩, ?_⟩
          rw [andn_top hr hpos, andn_z]
          exact (v2 k).mp (by omega)
        · have hy : y < 2 ^ l := by omega
          obtain rfl : k = k' := by omega
          exact ⟨2 ^ l + y, sub_top hr hy a3, by rw [top_test hy, decide_eq_true rfl]; rfl, a4, by rw [andn_top hr hy]; exact a6⟩
      · rintro ⟨Y, y1, y2, y3, y4⟩
        have hs : sub (andn Y (2 ^ l)) r := fun i hi => by
          rw [andn_test, Nat.testBit_two_pow] at hi
          obtain ⟨i1, i2⟩ := Bool.and_eq_true_iff.mp hi
          have := y1 i i1
          rw [top_test hr] at this
          cases e : decide (l = i) with
          | true => rw [e] at i2; cases i2
          | false => rw [e, Bool.false_or] at this; exact this
        have hsr := sub_le hs
        have hsl : andn Y (2 ^ l) < 2 ^ l := by omega
        have hY : Y = 2 ^ l + andn Y (2 ^ l) := Nat.eq_of_testBit_eq (fun i => by
          rw [top_test hsl, andn_test, Nat.testBit_two_pow]
          by_cases e : l = i
          · subst e; rw [y2, decide_eq_true rfl]; rfl
          · rw [decide_eq_false e]; simp)
        rw [hY, andn_top hr hsl] at y4
        rw [hY] at y3
        by_cases e0 : andn Y (2 ^ l) = 0
        · rw [e0, andn_z] at y4
          exact Or.inl (by have := (v2 k).mpr y4; omega)
        · refine Or.inr ⟨andn Y (2 ^ l), by omega, ?_, hs, y3, k, rfl, y4⟩
          by_cases e1 : andn Y (2 ^ l) = r
          · rw [e1] at y3; exact absurd y3 q
          · omega
  unfold s_X2_partsWith
  rw [chk_zn (show r < 1024 by omega) (by decide), ix_zn (by omega), v1, chk45 (show l < 45 by omega), ix45 (show l < 45 by omega), (hC.2 l hl).2.2.2.2, i2l r (by omega), show (1 : Int32) = zi (1 : Nat) from rfl]
  by_cases e1 : 1 < v
  · rw [if_pos ((zi_ltn (by omega) (by omega)).mpr e1)]
    refine many (fun q => ?_)
    have := (v2 1).mpr (col_1.mpr (hit.mp q).1)
    omega
  · rw [if_neg (fun q => e1 ((zi_ltn (by omega) (by omega)).mp q))]
    by_cases e2 : ∀ i, r.testBit i = true → cL T l i = false
    · rw [if_pos (hcond.mpr e2)]
      exact ⟨1, rfl, one (hit.mpr ⟨col_1.mp ((v2 1).mp (by omega)), e2⟩)⟩
    · rw [if_neg (fun q => e2 (hcond.mp q))]
      exact many (fun q => e2 (hit.mp q).2)
theorem pC_17 {L : List zPr} {k : Nat} {x : Int32} (hC : pC T L c) : pC T L (wI c 17 0 k x) := by
  obtain ⟨h1, h2⟩ := hC
  refine ⟨by simp [wI_1, h1], fun i hi => ?_⟩
  obtain ⟨a1, a2, a3, a4, a5⟩ := h2 i hi
  exact ⟨by simp [wI_1, a1], by simp [wI_1, a2], by simp [wI_1, a3], a4, a5⟩
def fwQ (T : zTab) (c0 : zMem) (x : Option (Int32 × zMem)) : Prop := ∃ v c', x = some (zi (v : Nat), c') ∧ fsQ (cL T) (2 ^ (pLs T).length - 1) v ∧ fr sI sL c0 c'
theorem fill_in (hO : tOK T) (h10 : (pLs T).length ≤ 10) {c0 : zMem} {l : Nat} (hl : l < (pLs T).length) {k19 : Int32 → Int32 → zMem → Option (Int32 × zMem)} (hk : ∀ m, pC T (pLs T) m → pQ T 17 (2 ^ (l + 1)) m → fr sI sL c0 m → fwQ T c0 (k19 (zi (pLs T).length) (zi (l + 1 : Nat)) m)) : ∀ (d kf r : Nat) (m : zMem), r + d = 2 ^ l → d < kf → pC T (pLs T) m → pQ T 17 (2 ^ l + r) m → fr sI sL c0 m → fwQ T c0 (s_X2_fewestSets_L26 k19 kf (zi (pLs T).length) (zi l) (zi r) m) := by
  have hp := pow10 (show l + 1 ≤ 10 by omega)
  have hps : 2 ^ (l + 1) = 2 ^ l * 2 := Nat.pow_succ 2 l
  intro d
  induction d with
  | zero =>
    intro kf r m hr hkf hC hP hf
    obtain ⟨kf, rfl⟩ : ∃ z, kf = z + 1 := ⟨kf - 1, by omega⟩
    unfold s_X2_fewestSets_L26
    rw [bit_C (by omega), zr_some, if_pos ((zi_len (by omega) (by omega)).mpr (by omega)), zi_s1]
    exact hk m hC (by rw [show 2 ^ (l + 1) = 2 ^ l + r by omega]; exact hP) hf
  | succ d ih =>
    intro kf r m hr hkf hC hP hf
    obtain ⟨kf, rfl⟩ : ∃ z, kf = z + 1 := ⟨kf - 1, by omega⟩
    obtain ⟨v, v1, v2⟩ := pw_C hO h10 hC hl (show r < 2 ^ l by omega) hP
    unfold s_X2_fewestSets_L26
    rw [bit_C (by omega), zr_some, if_neg (fun w => by rw [zi_len (by omega) (by omega)] at w; omega), zr_some, v1, zr_some, zi_or (by omega) (by omega), or_add (show r < 2 ^ l by omega), chk_zn (show 2 ^ l + r < 1024 by omega) (by decide), ix_zn (by omega), zlet_eq, zi_s1]
    refine ih kf (r + 1) _ (by omega) (by omega) (pC_17 hC) (fun z hz => ?_) (fr_wI hf rfl)
    by_cases e : z = 2 ^ l + r
    · subst e
      exact ⟨v, by simp [wI_1], v2⟩
    · obtain ⟨w, w1, w2⟩ := hP z (by omega)
      exact ⟨w, by simp [wI_1, e, w1], w2⟩
theorem fill_out (hO : tOK T) (h10 : (pLs T).length ≤ 10) {c0 : zMem} : ∀ (d kf l : Nat) (m : zMem), l + d = (pLs T).length → d < kf → pC T (pLs T) m → pQ T 17 (2 ^ l) m → fr sI sL c0 m → fwQ T c0 (s_X2_fewestSets_L19 kf (zi (pLs T).length) (zi l) m) := by
  intro d
  induction d with
  | zero =>
    intro kf l m hl hkf hC hP hf
    obtain ⟨kf, rfl⟩ : ∃ z, kf = z + 1 := ⟨kf - 1, by omega⟩
    have hp := pow10 h10
    have hpos := Nat.two_pow_pos (pLs T).length
    obtain rfl : l = (pLs T).length := by omega
    obtain ⟨v, v1, v2⟩ := hP (2 ^ (pLs T).length - 1) (by omega)
    unfold s_X2_fewestSets_L19
    rw [if_pos (Int32.le_refl _), bit_C (by omega), zr_some, show zi (2 ^ (pLs T).length : Nat) - 1 = zi (2 ^ (pLs T).length - 1 : Nat) from zi_subn (b := 1) (by omega), chk_zn (show 2 ^ (pLs T).length - 1 < 1024 by omega) (by decide), ix_zn (by omega), v1]
    exact ⟨v, m, rfl, v2, hf⟩
  | succ d ih =>
    intro kf l m hl hkf hC hP hf
    obtain ⟨kf, rfl⟩ : ∃ z, kf = z + 1 := ⟨kf - 1, by omega⟩
    have hp := pow10 (show l ≤ 10 by omega)
    unfold s_X2_fewestSets_L19
    rw [if_neg (fun w => by rw [zi_len (by omega) (by omega)] at w; omega)]
    exact fill_in hO h10 (show l < (pLs T).length by omega) (fun m a b e => ih kf (l + 1) m (by omega) (by omega) a b e) (2 ^ l) zF 0 m (by omega) (by unfold zF; omega) hC (by rw [Nat.add_zero]; exact hP) hf
theorem fewest_C (hO : tOK T) (h10 : (pLs T).length ≤ 10) (hC : pC T (pLs T) c) : fwQ T c (s_X2_fewestSets c) := by
  unfold s_X2_fewestSets
  rw [hC.1, show (10 : Int32) = zi (10 : Nat) from rfl, jmin_zi (by omega) (by omega), show min (pLs T).length 10 = (pLs T).length by omega, zlet_eq, zlet_eq]
  refine fill_out hO h10 (pLs T).length zF 0 _ (by omega) (by unfold zF; omega) (pC_17 hC) (fun z hz => ?_) (fr_wI (fr_refl _ _ _) rfl)
  obtain rfl : z = 0 := by have : 2 ^ 0 = 1 := rfl; omega
  exact ⟨0, by rw [wI_1, if_pos ⟨rfl, rfl, rfl⟩]; rfl, fsQ_0⟩
end ZC
