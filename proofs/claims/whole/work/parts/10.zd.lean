/-! FEWEST by the reference; OPS: fewest -/
section ZD
variable {T : zTab} {c r : zMem}
theorem bcnt_pos {p : Nat → Bool} {a n : Nat} (ha : a < n) (h : p a = true) : 1 ≤ bcnt p n := by
  have := bcnt_rem ha h; omega
theorem ao_loop (hO : tOK T) (h10 : (pLs T).length ≤ 10) {y : Nat} (hy : y < 1024) : ∀ (d kf i : Nat) (τ : List zPr) (op free : Nat) (m : zMem), i + d = (pLs T).length → d < kf → opn (pLs T) (oT T τ) i op free → 2 * τ.length + bcnt free.testBit 10 ≤ 10 → tR T m → lR (pLs T) m → rI (pLs T) τ (m.1 83 0) → ∃ (b : Bool) (m' : zMem), s_X7_isAtOnce_L4 kf (zi y) (zi τ.length) (zi i) m = some (zo b, m') ∧ fr eH e0 m m' ∧ (∀ k, m'.1 86 0 k = m.1 86 0 k) ∧ (b = true ↔ ((∀ j, i ≤ j → j < (pLs T).length → y.testBit j = true → oT T τ (pa (pLs T) j) = true) ∧ ∀ j j', i ≤ j → j < j' → j' < (pLs T).length → y.testBit j = true → y.testBit j' = true → cL T j j' = false)) := by
  have hn := hO.1
  have hL := pOK_pLs hO
  intro d
  induction d with
  | zero =>
    intro kf i τ op free m hi hkf ho hc hT hl hr
    obtain ⟨kf, rfl⟩ : ∃ z, kf = z + 1 := ⟨kf - 1, by omega⟩
    unfold s_X7_isAtOnce_L4
    rw [hl.1, if_pos ((zi_len (by omega) (by omega)).mpr (by omega))]
    exact ⟨true, m, rfl, fr_refl _ _ _, fun _ => rfl, ⟨fun _ => ⟨fun j a b => by omega, fun j j' a b d => by omega⟩, fun _ => rfl⟩⟩
  | succ d ih =>
    intro kf i τ op free m hi hkf ho hc hT hl hr
    obtain ⟨kf, rfl⟩ : ∃ z, kf = z + 1 := ⟨kf - 1, by omega⟩
    have hil : i < (pLs T).length := by omega
    obtain ⟨x1, x2⟩ := isP_pa hil
    have hlt : ¬ zi (pLs T).length ≤ zi (i : Nat) := fun w => by rw [zi_len (by omega) (by omega)] at w; omega
    have bad : y.testBit i = true → oT T τ (pa (pLs T) i) = false → ∀ z, z = some ((0 : Int32), m) → ∃ (b : Bool) (m' : zMem), z = some (zo b, m') ∧ fr eH e0 m m' ∧ (∀ k, m'.1 86 0 k = m.1 86 0 k) ∧ (b = true ↔ ((∀ j, i ≤ j → j < (pLs T).length → y.testBit j = true → oT T τ (pa (pLs T) j) = true) ∧ ∀ j j', i ≤ j → j < j' → j' < (pLs T).length → y.testBit j = true → y.testBit j' = true → cL T j j' = false)) := fun h1 h2 z hz => ⟨false, m, hz, fr_refl _ _ _, fun _ => rfl, ⟨fun w => (by cases w), fun w => by have := w.1 i (Nat.le_refl _) hil h1; rw [h2] at this; cases this⟩⟩
    unfold s_X7_isAtOnce_L4 s_X7_isAtOnce_L50
    rw [hl.1, if_neg hlt, isIn_R (by omega) (by omega), zr_some, zif0, zi_s1 i]
    cases hb : y.testBit i with
    | false =>
      rw [cond_false]
      obtain ⟨b, m', b1, b2, b3, b4⟩ := ih kf (i + 1) τ op free m (by omega) (by omega) (opn_mono ho (by omega)) hc hT hl hr
      refine ⟨b, m', b1, b2, b3, b4.trans ⟨fun w => ⟨fun j a1 a2 a3 => ?_, fun j j' a1 a2 a3 a4 a5 => ?_⟩, fun w => ⟨fun j a1 => w.1 j (by omega), fun j j' a1 => w.2 j j' (by omega)⟩⟩⟩
      · by_cases e : j = i
        · subst e; rw [hb] at a3; cases a3
        · exact w.1 j (by omega) a2 a3
      · by_cases e : j = i
        · subst e; rw [hb] at a4; cases a4
        · exact w.2 j j' (by omega) a2 a3 a4 a5
    | true =>
      rw [cond_true]
      by_cases e5 : τ.length = 5
      · rw [if_pos (show zi τ.length = 5 from by rw [e5]; rfl)]
        refine bad hb ?_ _ rfl
        cases hq : oT T τ (pa (pLs T) i) with
        | false => rfl
        | true =>
          have h1 := ((ho.2.2 i (Nat.le_refl _) hil).2 hq).1
          have := bcnt_pos (p := free.testBit) (n := 10) (show (pa (pLs T) i).1 < 10 by omega) h1
          omega
      · have n5 : ¬ zi τ.length = 5 := fun w => e5 ((zi_eqn (b := 5) (by omega) (by omega)).mp w)
        rw [if_neg n5, fits_R hO hL hT hl hr (show τ.length ≤ 5 by omega) hil, zr_some, zif0]
        cases hop : oT T τ (pa (pLs T) i) with
        | false => exact bad hb hop _ rfl
        | true =>
          obtain ⟨t1, t2⟩ := opn_take hn hL hil ho hop
          have t1' : opn (pLs T) (oT T (τ ++ [pa (pLs T) i])) (i + 1) (andn op (bset (fB T (pLs T) i) (pLs T).length)) (andn free (gsts (pa (pLs T) i))) := by
            rw [show oT T (τ ++ [pa (pLs T) i]) = fun y => oT T τ y && !cfP T (pa (pLs T) i) y from funext (fun y => oT_snoc τ (pa (pLs T) i) y)]
            exact t1
          have hf : fr eH e0 m (wI m 83 0 τ.length (zi i)) := fr_wI (fr_refl _ _ _) rfl
          have hr2 : rI (pLs T) (τ ++ [pa (pLs T) i]) ((wI m 83 0 τ.length (zi i)).1 83 0) := by
            have := rI_snoc hil hr
            intro j hj
            obtain ⟨c, c1, c2, c3⟩ := this j hj
            refine ⟨c, c1, ?_, c3⟩
            rw [← c2, wI_1]
            unfold zp
            by_cases q : j = τ.length <;> simp [q]
          rw [cond_true, chk_zn (show τ.length < 5 by omega) (by decide), ix_zn (show τ.length < 2147483648 by omega), zlet_eq, zi_s1 τ.length, show τ.length + 1 = (τ ++ [pa (pLs T) i]).length by simp]
          obtain ⟨b, m', b1, b2, b3, b4⟩ := ih kf (i + 1) (τ ++ [pa (pLs T) i]) _ _ _ (by omega) (by omega) t1' (by simp; omega) (tR_eH hf hT) (lR_eH hf hl) hr2
          refine ⟨b, m', b1, fr_trans hf b2, fun k => (b3 k).trans (by simp [wI_1]), b4.trans ⟨fun w => ⟨fun j a1 a2 a3 => ?_, fun j j' a1 a2 a3 a4 a5 => ?_⟩, fun w => ⟨fun j a1 a2 a3 => ?_, fun j j' a1 => w.2 j j' (by omega)⟩⟩⟩
          · by_cases e : j = i
            · subst e; exact hop
            · have := w.1 j (by omega) a2 a3
              rw [oT_snoc] at this
              exact (Bool.and_eq_true_iff.mp this).1
          · by_cases e : j = i
            · subst e
              have := w.1 j' (by omega) a3 a5
              rw [oT_snoc] at this
              have := (Bool.and_eq_true_iff.mp this).2
              unfold cL
              cases q : cfP T (pa (pLs T) j) (pa (pLs T) j') with
              | false => rfl
              | true => rw [q] at this; cases this
            · exact w.2 j j' (by omega) a2 a3 a4 a5
          · rw [oT_snoc, w.1 j (by omega) a2 a3]
            have := w.2 i j (Nat.le_refl _) (by omega) a2 hb a3
            unfold cL at this
            rw [this]; rfl
theorem ao_R (hO : tOK T) (h10 : (pLs T).length ≤ 10) {y : Nat} (hy : y < 2 ^ (pLs T).length) {m : zMem} (hT : tR T m) (hl : lR (pLs T) m) : ∃ (b : Bool) (m' : zMem), s_X7_isAtOnce (zi y) m = some (zo b, m') ∧ fr eH e0 m m' ∧ (∀ k, m'.1 86 0 k = m.1 86 0 k) ∧ (b = true ↔ ind (cL T) y) := by
  have hn := hO.1
  have hp := pow10 h10
  obtain ⟨b, m', b1, b2, b3, b4⟩ := ao_loop hO h10 (show y < 1024 by omega) (pLs T).length zF 0 [] _ 1023 m (by omega) (by unfold zF; omega) (opn_any (pOK_pLs hO) hn _) (by rw [bc1023]; decide) hT hl (fun k hk => absurd hk (Nat.not_lt_zero k))
  refine ⟨b, m', b1, b2, b3, b4.trans ⟨fun w i j hi hj hij => ?_, fun w => ⟨fun j _ _ _ => rfl, fun j j' _ a2 _ a4 a5 => w j j' a4 a5 (by omega)⟩⟩⟩
  have hi' := bit_lt hy hi
  have hj' := bit_lt hy hj
  by_cases e : i < j
  · exact w.2 i j (Nat.zero_le _) e hj' hi hj
  · rw [cL_sym hO hi' hj']
    exact w.2 j i (Nat.zero_le _) (by omega) hi' hj hi
/-- the parts gone through so far -/
def lwQ (T : zTab) (x t p b : Nat) : Prop := b ≤ 11 ∧ ∀ k, k ≤ 10 → (b ≤ k ↔ ∃ y, p < y ∧ sub y x ∧ y.testBit t = true ∧ ind (cL T) y ∧ ∃ k', k = k' + 1 ∧ col (cL T) k' (andn x y))
theorem low_all : ∀ s, s < 1024 → 0 < s → ∃ t, t < 10 ∧ zi (s : Nat) &&& -(zi (s : Nat)) = zi (2 ^ t : Nat) ∧ Nat.testBit s t = true := by decide +kernel
def fpQ (T : zTab) (r0 : zMem) (x : Option (Int32 × zMem)) : Prop := ∃ v r', x = some (zi (v : Nat), r') ∧ fsQ (cL T) (2 ^ (pLs T).length - 1) v ∧ fr rI' rL r0 r'
theorem le_in (hO : tOK T) (h10 : (pLs T).length ≤ 10) {r0 : zMem} {x t : Nat} (hx : x < 2 ^ (pLs T).length) (hx0 : 0 < x) (ht : t < 10) (htx : x.testBit t = true) {k27 : Int32 → Int32 → zMem → Option (Int32 × zMem)} (hk : ∀ m, tR T m → lR (pLs T) m → pQ T 86 (x + 1) m → fr rI' rL r0 m → fpQ T r0 (k27 (zi (pLs T).length) (zi (x + 1 : Nat)) m)) : ∀ (kf p b : Nat) (m : zMem), p < kf → sub p x → tR T m → lR (pLs T) m → pQ T 86 x m → m.1 86 0 x = zi (b : Nat) → lwQ T x t p b → fr rI' rL r0 m → fpQ T r0 (s_X7_fewest_L50 k27 kf (zi (pLs T).length) (zi x) (zi (2 ^ t : Nat)) (zi p) m) := by
  have hp10 := pow10 h10
  have ht10 := pow10 (show t ≤ 10 by omega)
  intro kf
  induction kf with
  | zero => intro p b m hkf; omega
  | succ kf ih =>
    intro p b m hkf hp hT hl hP hb hq hf
    have hpx := sub_le hp
    unfold s_X7_fewest_L50 s_X7_fewest_L115
    by_cases e0 : p = 0
    · subst e0
      rw [if_pos (show zi (0 : Nat) ≤ 0 from Int32.le_refl _), zi_s1]
      refine hk m hT hl (fun z hz => ?_) hf
      by_cases ez : z = x
      · subst ez
        refine ⟨b, hb, fsQ_of (by omega) (fun k hk10 => (hq.2 k hk10).trans ?_)⟩
        cases k with
        | zero =>
          refine ⟨fun ⟨y, _, _, _, _, k', a, _⟩ => by omega, fun w => by have := col_0.mp w; omega⟩
        | succ k =>
          rw [col_step htx]
          constructor
          · rintro ⟨y, -, y2, y3, y4, k', a, y5⟩
            obtain rfl : k = k' := by omega
            exact ⟨y, y2, y3, y4, y5⟩
          · rintro ⟨y, y2, y3, y4, y5⟩
            refine ⟨y, ?_, y2, y3, y4, k, rfl, y5⟩
            by_cases w : y = 0
            · subst w; rw [Nat.zero_testBit] at y3; cases y3
            · omega
      · exact hP z (by omega)
    · have hpos : ¬ zi (p : Nat) ≤ 0 := fun w => by have := (zi_len (b := 0) (by omega) (by omega)).mp w; omega
      have hnx : (zi (p : Nat) - 1) &&& zi (x : Nat) = zi ((p - 1) &&& x : Nat) := by
        rw [show zi (p : Nat) - 1 = zi (p - 1 : Nat) from zi_subn (b := 1) (by omega), zi_and (by omega) (by omega)]
      have hns : sub ((p - 1) &&& x) x := fun i hi => by rw [Nat.testBit_and] at hi; exact (Bool.and_eq_true_iff.mp hi).2
      have hnl : (p - 1) &&& x ≤ p - 1 := Nat.and_le_left
      have adv : ∀ y, sub y x → (p - 1) &&& x < y → y ≠ p → p < y := fun y a1 a2 a3 => by
        by_cases w : y < p
        · have := sub_next 10 x p y (by omega) hp a1 w; omega
        · omega
      -- nothing new: p is no part, or a dearer one
      have same : ¬ (p.testBit t = true ∧ ind (cL T) p ∧ ∃ k, k + 1 < b ∧ col (cL T) k (andn x p)) → lwQ T x t ((p - 1) &&& x) b := fun w => ⟨hq.1, fun k hk10 => (hq.2 k hk10).trans ⟨fun ⟨y, a1, a2⟩ => ⟨y, by omega, a2⟩, fun ⟨y, a1, a2, a3, a4, k', a5, a6⟩ => by
        by_cases ey : y = p
        · subst ey
          by_cases h1 : b ≤ k
          · exact (hq.2 k hk10).mp h1
          · exact absurd ⟨a3, a4, k', by omega, a6⟩ w
        · exact ⟨y, adv y a2 a1 ey, a2, a3, a4, k', a5, a6⟩⟩⟩
      have skip : ∀ m', tR T m' → lR (pLs T) m' → pQ T 86 x m' → m'.1 86 0 x = zi (b : Nat) → fr rI' rL r0 m' → ¬ (p.testBit t = true ∧ ind (cL T) p ∧ ∃ k, k + 1 < b ∧ col (cL T) k (andn x p)) → fpQ T r0 (s_X7_fewest_L50 k27 kf (zi (pLs T).length) (zi x) (zi (2 ^ t : Nat)) (zi ((p - 1) &&& x : Nat)) m') := fun m' a1 a2 a3 a4 a5 w => ih _ b m' (by omega) hns a1 a2 a3 a4 (same w) a5
      have hbit : (zi (p : Nat) &&& zi (2 ^ t : Nat) = 0) ↔ p.testBit t = false := by
        rw [zi_and (by omega) (by omega), show (0 : Int32) = zi (0 : Nat) from rfl, zi_eqn (Nat.lt_of_le_of_lt Nat.and_le_left (by omega)) (by omega)]
        constructor
        · intro w
          have := congrArg (fun q : Nat => q.testBit t) w
          simpa [Nat.testBit_and, Nat.testBit_two_pow] using this
        · intro w
          refine tb_0 (fun i => ?_)
          rw [Nat.testBit_and, Nat.testBit_two_pow]
          by_cases e : t = i
          · subst e; rw [w]; rfl
          · rw [decide_eq_false e, Bool.and_false]
      rw [if_neg hpos, zlet_eq, hnx]
      by_cases e1 : p.testBit t = false
      · rw [if_pos (hbit.mpr e1)]
        exact skip m hT hl hP hb hf (fun w => by rw [e1] at w; cases w.1)
      · have e1' : p.testBit t = true := by
          cases q : p.testBit t with
          | true => rfl
          | false => exact absurd q e1
        have hax : andn x p < x := by
          have h1 : sub (andn x p) x := fun i hi => by rw [andn_test] at hi; exact (Bool.and_eq_true_iff.mp hi).1
          have h2 := sub_le h1
          by_cases w : andn x p = x
          · have := congrArg (fun q : Nat => q.testBit t) w
            simp only [andn_test, htx, e1'] at this
            cases this
          · omega
        obtain ⟨v, v1, v2⟩ := hP (andn x p) hax
        have hv10 := fsQ_10 v2 (by omega)
        have hb11 := hq.1
        rw [if_neg (fun w => e1 (hbit.mp w)), zi_andn (by omega) (by omega), chk_zn (show andn x p < 1024 by omega) (by decide), chk_zn (show x < 1024 by omega) (by decide), ix_zn (by omega), ix_zn (by omega), hb, v1, zi_s1]
        by_cases e2 : b ≤ v + 1
        · rw [if_pos ((zi_len (by omega) (by omega)).mpr e2)]
          exact skip m hT hl hP hb hf (fun ⟨_, _, k, k1, k2⟩ => by have := (v2 k).mpr k2; omega)
        · obtain ⟨q, m', q1, q2, q3, q4⟩ := ao_R hO h10 (show p < 2 ^ (pLs T).length by omega) hT hl
          have hP' : pQ T 86 x m' := fun z hz => by
            obtain ⟨w, w1, w2⟩ := hP z hz
            exact ⟨w, (q3 z).trans w1, w2⟩
          have f' : fr rI' rL r0 m' := fr_trans hf (fr_eH q2)
          rw [if_neg (fun w => e2 ((zi_len (by omega) (by omega)).mp w)), q1, zb_some, zif0, q3, v1, zi_s1]
          cases hqq : q with
          | false =>
            rw [cond_false]
            exact skip m' (tR_eH q2 hT) (lR_eH q2 hl) hP' ((q3 x).trans hb) f' (fun w => by have := q4.mpr w.2.1; rw [hqq] at this; cases this)
          | true =>
            have hi : ind (cL T) p := q4.mp hqq
            rw [cond_true, zlet_eq]
            refine ih _ (v + 1) _ (by omega) hns ?_ ?_ (fun z hz => ?_) (by simp [wI_1]) ⟨by omega, fun k hk10 => ?_⟩ (fr_wI f' rfl)
            · obtain ⟨a1, a2, a3, a4⟩ := tR_eH q2 hT
              refine ⟨by simp [wI_1, a1], by simp [wI_1, a2], by simp [wI_1, a3], fun g hg => ?_⟩
              simp [wI_1, a4 g hg]
            · obtain ⟨a1, a2⟩ := lR_eH q2 hl
              refine ⟨by simp [wI_1, a1], fun i hi => ?_⟩
              simp [wI_1, a2 i hi]
            · obtain ⟨w, w1, w2⟩ := hP' z hz
              exact ⟨w, by simp [wI_1, show z ≠ x by omega, w1], w2⟩
            · constructor
              · intro w
                exact ⟨p, by omega, hp, e1', hi, k - 1, by omega, (v2 (k - 1)).mp (by omega)⟩
              · rintro ⟨y, a1, a2, a3, a4, k', a5, a6⟩
                by_cases ey : y = p
                · subst ey
                  have := (v2 k').mpr a6; omega
                · have := (hq.2 k hk10).mpr ⟨y, adv y a2 a1 ey, a2, a3, a4, k', a5, a6⟩; omega
theorem le_out (hO : tOK T) (h10 : (pLs T).length ≤ 10) {r0 : zMem} : ∀ (d kf x : Nat) (m : zMem), x + d = 2 ^ (pLs T).length → d < kf → 0 < x → tR T m → lR (pLs T) m → pQ T 86 x m → fr rI' rL r0 m → fpQ T r0 (s_X7_fewest_L27 kf (zi (pLs T).length) (zi x) m) := by
  have hp10 := pow10 h10
  intro d
  induction d with
  | zero =>
    intro kf x m hx hkf hx0 hT hl hP hf
    obtain ⟨kf, rfl⟩ : ∃ z, kf = z + 1 := ⟨kf - 1, by omega⟩
    obtain ⟨v, v1, v2⟩ := hP (2 ^ (pLs T).length - 1) (by omega)
    unfold s_X7_fewest_L27
    rw [zi_shl1 (by omega), if_pos ((zi_len (by omega) (by omega)).mpr (by omega)), show zi (2 ^ (pLs T).length : Nat) - 1 = zi (2 ^ (pLs T).length - 1 : Nat) from zi_subn (b := 1) (by omega), chk_zn (show 2 ^ (pLs T).length - 1 < 1024 by omega) (by decide), ix_zn (by omega), v1]
    exact ⟨v, m, rfl, v2, hf⟩
  | succ d ih =>
    intro kf x m hx hkf hx0 hT hl hP hf
    obtain ⟨kf, rfl⟩ : ∃ z, kf = z + 1 := ⟨kf - 1, by omega⟩
    obtain ⟨t, t1, t2, t3⟩ := low_all x (by omega) hx0
    unfold s_X7_fewest_L27
    rw [zi_shl1 (by omega), if_neg (fun w => by rw [zi_len (by omega) (by omega)] at w; omega), chk_zn (show x < 1024 by omega) (by decide), ix_zn (by omega), zlet_eq, t2]
    refine le_in hO h10 (show x < 2 ^ (pLs T).length by omega) hx0 t1 t3 (fun m a b e g => ih kf (x + 1) m (by omega) (by omega) (by omega) a b e g) zF x 11 _ (by unfold zF; omega) (sub_refl x) ?_ ?_ (fun z hz => ?_) (by rw [wI_1, if_pos ⟨rfl, rfl, rfl⟩]; rfl) ⟨by omega, fun k hk => ⟨fun w => by omega, fun ⟨y, a1, a2, _⟩ => by have := sub_le a2; omega⟩⟩ (fr_wI hf rfl)
    · obtain ⟨a1, a2, a3, a4⟩ := hT
      refine ⟨by simp [wI_1, a1], by simp [wI_1, a2], by simp [wI_1, a3], fun g hg => ?_⟩
      simp [wI_1, a4 g hg]
    · obtain ⟨a1, a2⟩ := hl
      refine ⟨by simp [wI_1, a1], fun i hi => ?_⟩
      simp [wI_1, a2 i hi]
    · obtain ⟨w, w1, w2⟩ := hP z hz
      exact ⟨w, by simp [wI_1, show z ≠ x by omega, w1], w2⟩
theorem op_fewest (h : Rel T c r) : OK2 (s_X6_fewest c) (s_X7_fewest r) := by
  have hO := h.1
  have h45 := pLs_45 hO
  obtain ⟨c1, a1, a2, a3⟩ := draw2 h
  obtain ⟨r1, b1, b2, b3⟩ := lists2 h
  have h1 : Rel T c1 r1 := Rel_fr a3 b3 h
  unfold s_X6_fewest s_X7_fewest
  rw [a1, zr_some, a2.1, b1, zb_some, show (10 : Int32) = zi (10 : Nat) from rfl]
  by_cases e : (pLs T).length ≤ 10
  · have hle : zi (pLs T).length ≤ zi (10 : Nat) := (zi_len (by omega) (by omega)).mpr e
    obtain ⟨v, c2, v1, v2, v3⟩ := fewest_C hO e a2
    have hp := Nat.two_pow_pos (pLs T).length
    obtain ⟨w, r2, w1, w2, w3⟩ := le_out hO e (r0 := r1) (2 ^ (pLs T).length - 1) zF 1 (wI r1 86 0 (ix 0) 0) (by omega) (by have := pow10 e; unfold zF; omega) (by omega) (by
      obtain ⟨a1, a2, a3, a4⟩ := h1.2.2.1
      refine ⟨by simp [wI_1, a1], by simp [wI_1, a2], by simp [wI_1, a3], fun g hg => ?_⟩
      simp [wI_1, a4 g hg]) (by
      obtain ⟨a1, a2⟩ := b2
      refine ⟨by simp [wI_1, a1], fun i hi => ?_⟩
      simp [wI_1, a2 i hi]) (fun z hz => ⟨0, by
        obtain rfl : z = 0 := by omega
        rw [wI_1, if_pos ⟨rfl, rfl, rfl⟩]; rfl, by
        obtain rfl : z = 0 := by omega
        exact fsQ_0⟩) (fr_wI (fr_refl _ _ _) rfl)
    rw [if_pos hle, if_pos hle, v1, zb_some, zlet_eq, show s_X7_fewest_L27 zF (zi (pLs T).length) 1 (wI r1 86 0 (ix 0) 0) = _ from w1]
    exact ok2_same (Rel_fr v3 w3 h1) (by rw [fsQ_eq v2 w2])
  · have hle : ¬ zi (pLs T).length ≤ zi (10 : Nat) := fun w => e ((zi_len (by omega) (by omega)).mp w)
    rw [if_neg hle, if_neg hle]
    exact ok2_ref h1 7 (by omega) (by omega) rfl
end ZD
