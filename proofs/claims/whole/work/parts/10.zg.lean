/-! the numbers of a text, on both sides -/
section ZG
variable {T : zTab} {c r : zMem} {s l : Nat} {V : Nat → Int32}
theorem isFree_R (hT : tR T r) (hO : tOK T) {v : Nat} (hv : v < 1000) : s_X7_isFree (zi v) r = some (zo (decide (v < tz T) && fr0 T v (tn T))) := by
  have hz := hO.2.2.1
  unfold s_X7_isFree s_X7_guestAt
  rw [hT.2.1, if_neg (fun w => by have := (lt0 (by omega) (by omega)).mp w; omega)]
  by_cases e : v < tz T
  · obtain ⟨x, v1, v2⟩ := guestAt_loop hT hO (s := v) (by omega) (tn T) zF 0 (by omega) (by have := hO.1; unfold zF; omega) rfl
    rw [if_neg (fun w => by rw [zi_len (by omega) (by omega)] at w; omega), show s_X7_guestAt_L2 zF (zi v) 0 r = some x from v1, zr_some, decide_eq_true e, Bool.true_and]
    cases hf : fr0 T v (tn T) with
    | true => rw [if_pos (v2.mpr hf)]; rfl
    | false =>
      have hv : ¬ x = -1 := fun w => by have := v2.mp w; rw [hf] at this; cases this
      rw [if_neg hv]; rfl
  · rw [if_pos ((zi_len (by omega) (by omega)).mpr (by omega)), decide_eq_false e]; rfl
def dgA (x : Int32) : Option Nat := if x < 48 then none else if 57 < x then none else some (ix (x - 48))
theorem dgA_some {x : Int32} {d : Nat} (h : dgA x = some d) : d ≤ 9 ∧ x = zi (48 + d : Nat) := by
  obtain ⟨y, rfl, y1, y2⟩ := zi_of x
  have l1 : zi y < 48 ↔ y < 48 := zi_lt (b := 48) y1 y2 (by omega) (by omega)
  have l2 : 57 < zi y ↔ 57 < y := zi_lt (a := 57) (by omega) (by omega) y1 y2
  unfold dgA at h
  by_cases e1 : y < 48
  · rw [if_pos (l1.mpr e1)] at h; cases h
  rw [if_neg (fun w => e1 (l1.mp w))] at h
  by_cases e2 : 57 < y
  · rw [if_pos (l2.mpr e2)] at h; cases h
  rw [if_neg (fun w => e2 (l2.mp w)), show (48 : Int32) = zi 48 from rfl, zi_sub, ix_zi (by omega) (by omega)] at h
  have := Option.some.inj h
  exact ⟨by omega, congrArg zi (by omega)⟩
theorem dig_C (x : Int32) : s_X3_digit x = some (match dgA x with
    | none => -1
    | some d => zi (d : Nat)) := by
  cases h : dgA x with
  | none =>
    unfold dgA at h
    unfold s_X3_digit
    by_cases e1 : x < 48
    · rw [if_pos e1]
    rw [if_neg e1] at h ⊢
    by_cases e2 : 57 < x
    · rw [if_pos e2]
    · rw [if_neg e2] at h; cases h
  | some d =>
    obtain ⟨h1, h2⟩ := dgA_some h
    unfold dgA at h
    unfold s_X3_digit
    by_cases e1 : x < 48
    · rw [if_pos e1] at h; cases h
    rw [if_neg e1] at h ⊢
    by_cases e2 : 57 < x
    · rw [if_pos e2] at h; cases h
    · rw [if_neg e2, h2, show (48 : Int32) = zi (48 : Nat) from rfl, zi_subn (by omega)]
      refine congrArg (fun q : Nat => some (zi q)) (by omega)
theorem dgA_0 : dgA 0 = none := by decide
theorem dgA_in {k d : Nat} (h : dgA (chA V l k) = some d) : k < l ∧ chA V l k = V k := by
  by_cases e : k < l
  · exact ⟨e, if_pos e⟩
  · rw [show chA V l k = 0 from if_neg e, dgA_0] at h; cases h
/-- a number at a place: its value, and the place behind it -/
def numA (V : Nat → Int32) (l p : Nat) : Option (Nat × Nat) := match dgA (chA V l p) with
  | none => none
  | some d => match dgA (chA V l (p + 1)) with
    | none => some (d, p + 1)
    | some e => some (10 * d + e, p + 2)
theorem rn_no (hR : RCq s l V c) {a : Nat} (ha : a < 1000000) (hat : c.1 19 0 0 = zi (a : Nat)) (h : chA V l a ≠ 32) (b : Int32) : s_X3_readNumber s b c = some (-1, c) := by
  unfold s_X3_readNumber
  rw [hat, num_ch hR (by omega), zr_some, if_neg h]
theorem rn_C (hR : RCq s l V c) {a : Nat} (ha : a < 1000000) (hat : c.1 19 0 0 = zi (a : Nat)) (h : chA V l a = 32) {b : Nat} (hb : b < 2147483648) : s_X3_readNumber s (zi b) c = match numA V l (a + 1) with
    | none => some (-1, wI c 19 0 0 (zi (a + 1 : Nat)))
    | some (v, q) => if decide (v ≤ 12) && b.testBit v then some (zi (v : Nat), wI (wI c 19 0 0 (zi (a + 1 : Nat))) 19 0 0 (zi (q : Nat))) else some (-1, wI c 19 0 0 (zi (a + 1 : Nat))) := by
  have hf : fr f19 e0 c (wI c 19 0 0 (zi (a + 1 : Nat))) := fr_wI (fr_refl _ _ _) rfl
  have hR1 := RC_19 hR hf
  have at1 : (wI c 19 0 0 (zi (a + 1 : Nat))).1 19 0 0 = zi (a + 1 : Nat) := by simp [wI_1]
  unfold s_X3_readNumber s_X3_readNumber_L76
  rw [hat, num_ch hR (by omega), zr_some, if_pos h, zlet_eq, zi_s1, at1, num_ch hR1 (by omega), zr_some, dig_C, zr_some, zi_s1, num_ch hR1 (by omega), zr_some, dig_C, zr_some]
  unfold numA
  have n1 : ∀ d : Nat, d < 100 → ¬ zi (d : Nat) = -1 := fun d hd w => by rw [li_m1, zi_eq (by omega) (by omega) (by omega) (by omega)] at w; omega
  have fin : ∀ (v q : Nat) (m : zMem), v < 100 → (if 12 < zi (v : Nat) then some ((-1 : Int32), wI c 19 0 0 (zi (a + 1 : Nat))) else if (jshr (zi b) (zi v)) &&& 1 = 0 then some (-1, wI c 19 0 0 (zi (a + 1 : Nat))) else some (zi (v : Nat), m)) = if decide (v ≤ 12) && b.testBit v then some (zi (v : Nat), m) else some (-1, wI c 19 0 0 (zi (a + 1 : Nat))) := fun v q m hv => by
    have l12 : 12 < zi (v : Nat) ↔ 12 < v := zi_ltn (a := 12) (by omega) (by omega)
    by_cases e : 12 < v
    · rw [if_pos (l12.mpr e), decide_eq_false (by omega)]; rfl
    · rw [if_neg (fun w => e (l12.mp w)), zi_bit hb (by omega), zif0, decide_eq_true (by omega), Bool.true_and]
      cases b.testBit v <;> rfl
  cases h1 : dgA (chA V l (a + 1)) with
  | none => rw [if_pos rfl]
  | some d =>
    obtain ⟨d1, d2⟩ := dgA_some h1
    simp only []
    rw [if_neg (n1 d (by omega))]
    cases h2 : dgA (chA V l (a + 1 + 1)) with
    | none =>
      simp only []
      rw [if_pos trivial, if_pos trivial]
      exact fin d (a + 1 + 1) _ (by omega)
    | some e =>
      obtain ⟨e1, e2⟩ := dgA_some h2
      simp only []
      have ne := n1 e (by omega)
      rw [if_neg ne, if_neg ne, show (10 : Int32) = zi (10 : Nat) from rfl, zi_muln, zi_addn, show zi (a + 1 : Nat) + 2 = zi (a + 1 + 2 : Nat) from zi_addn (a + 1) 2]
      exact fin (10 * d + e) (a + 1 + 2) _ (by omega)
/-! the reference -/
def fN : zEx := fun c _ k => Nat.beq c 64 && (Nat.beq k 22 || (Nat.beq k 24 || Nat.beq k 25))
def fNt : zEx := fun c _ k => (Nat.beq c 64 && (Nat.beq k 22 || (Nat.beq k 24 || Nat.beq k 25))) || Nat.beq c 78
theorem fr_Nt {m m' : zMem} (h : fr fN e0 m m') : fr fNt e0 m m' := fr_mono h (fun _ _ _ w => (Bool.or_eq_false_iff.mp w).1) (fun _ _ _ _ => rfl)
theorem RR_Nt {r' : zMem} (h : RRq s l V r) (f : fr fNt e0 r r') : RRq s l V r' := by
  obtain ⟨h1, h2, h3, h4, h5, h6⟩ := h
  exact ⟨h1, h2, (f.1 64 0 21 rfl).trans h3, (f.1 64 0 23 rfl).trans h4, fun k hk => by rw [f.2 75 0 _ rfl]; exact h5 k hk, wdQ_fr f (fun _ => rfl) h6⟩
theorem tR_Nt {r' : zMem} (h : tR T r) (f : fr fNt e0 r r') : tR T r' := tR_fr f rfl rfl rfl (fun _ => ⟨rfl, rfl, rfl, rfl, rfl⟩) h
theorem isDig_R (h : RRq s l V r) {a : Nat} (ha : a < 1000000) (hat : r.1 64 0 22 = zi (a : Nat)) : s_X7_isDigit r = some (zo (dgA (chA V l a)).isSome) := by
  obtain ⟨h1, h2, h3, h4, h5, h6⟩ := h
  unfold s_X7_isDigit
  rw [h4, h3, hat]
  by_cases e : a < l
  · rw [if_neg (fun w => by rw [zi_len (by omega) (by omega)] at w; omega), zi_addn, chk_zn (show 160 * s + a < 1280 by omega) (by decide), ix_zn (by omega), h5 a e, show chA V l a = V a from if_pos e]
    unfold dgA
    by_cases e1 : V a < 48
    · rw [if_pos e1, if_pos e1]; rfl
    · by_cases e2 : 57 < V a
      · rw [if_neg e1, if_pos e2, if_neg e1, if_pos e2]; rfl
      · rw [if_neg e1, if_neg e2, if_neg e1, if_neg e2]; rfl
  · rw [if_pos ((zi_len (by omega) (by omega)).mpr (by omega)), show chA V l a = 0 from if_neg e, dgA_0]; rfl
theorem zbo_0 {β : Type} (k : Option β) : zbo 0 k = k := if_pos (Or.inl rfl)
theorem reads_R (h : RRq s l V r) {p : Nat} (hp : p < 100000) (hat : r.1 64 0 22 = zi (p : Nat)) : (numA V l p = none ∧ ∃ r', s_X7_reads r = some (0, r') ∧ r'.1 64 0 25 = zi (p : Nat) ∧ fr fN e0 r r') ∨ ∃ v q r', numA V l p = some (v, q) ∧ v < 100 ∧ p < q ∧ q ≤ l ∧ s_X7_reads r = some (1, r') ∧ r'.1 64 0 24 = zi (v : Nat) ∧ r'.1 64 0 22 = zi (q : Nat) ∧ fr fN e0 r r' := by
  have f1 : fr fN e0 r (wI r 64 0 24 0) := fr_wI (fr_refl _ _ _) rfl
  have h1 := RR_Nt h (fr_Nt f1)
  have at1 : (wI r 64 0 24 0).1 64 0 22 = zi (p : Nat) := by simp [wI_1, hat]
  have hs := h.1
  have hl := h.2.1
  unfold s_X7_reads s_X7_wrong
  rw [zlet_eq, isDig_R h1 (by omega) at1, zr_some, zif0, at1]
  unfold numA
  cases d0 : dgA (chA V l p) with
  | none =>
    refine Or.inl ⟨rfl, _, by rw [show (none : Option Nat).isSome = false from rfl, cond_false, zlet_eq, zb_some, zbo_0], by simp [wI_1], fr_wI f1 rfl⟩
  | some d =>
    obtain ⟨d1, d2⟩ := dgA_some d0
    obtain ⟨d3, d4⟩ := dgA_in d0
    right
    rw [show (some d : Option Nat).isSome = true from rfl, cond_true, h1.2.2.1, zi_addn, chk_zn (show 160 * s + p < 1280 by omega) (by decide), ix_zn (by omega), h1.2.2.2.2.1 p d3, ← d4, d2, show zi (48 + d : Nat) - 48 = zi (d : Nat) from by rw [show (48 : Int32) = zi (48 : Nat) from rfl, zi_subn (by omega)]; exact congrArg (fun q : Nat => zi q) (by omega), zlet_eq, zlet_eq]
    generalize hr2 : wI (wI (wI r 64 0 24 0) 64 0 24 (zi (d : Nat))) 64 0 22 ((wI (wI r 64 0 24 0) 64 0 24 (zi (d : Nat))).1 64 0 22 + 1) = r2
    have f2 : fr fN e0 r r2 := by rw [← hr2]; exact fr_wI (fr_wI f1 rfl) rfl
    have at2 : r2.1 64 0 22 = zi (p + 1 : Nat) := by rw [← hr2]; simp [wI_1, hat, zi_s1]
    have nu2 : r2.1 64 0 24 = zi (d : Nat) := by rw [← hr2]; simp [wI_1]
    have h2 := RR_Nt h (fr_Nt f2)
    rw [isDig_R h2 (by omega) at2, zr_some, zif0]
    cases e0' : dgA (chA V l (p + 1)) with
    | none => exact ⟨d, p + 1, r2, rfl, by omega, by omega, by omega, by rw [show (none : Option Nat).isSome = false from rfl, cond_false], nu2, at2, f2⟩
    | some e =>
      obtain ⟨e1, e2⟩ := dgA_some e0'
      obtain ⟨e3, e4⟩ := dgA_in e0'
      rw [show (some e : Option Nat).isSome = true from rfl, cond_true, h2.2.2.1, at2, zi_addn, chk_zn (show 160 * s + (p + 1) < 1280 by omega) (by decide), ix_zn (by omega), h2.2.2.2.2.1 (p + 1) e3, ← e4, e2, nu2, show (10 : Int32) = zi (10 : Nat) from rfl, zi_muln, zi_addn, show zi (10 * d + (48 + e) : Nat) - 48 = zi (10 * d + e : Nat) from by rw [show (48 : Int32) = zi (48 : Nat) from rfl, zi_subn (by omega)]; exact congrArg (fun q : Nat => zi q) (by omega), zlet_eq, zlet_eq]
      exact ⟨10 * d + e, p + 2, _, rfl, by omega, by omega, by omega, rfl, by simp [wI_1], (by rw [wI_1, if_pos ⟨rfl, rfl, rfl⟩, wI_1, if_neg (by decide), at2, zi_s1]), fr_wI (fr_wI f2 rfl) rfl⟩
section NN
variable {k79 : Int32 → Int32 → Int32 → zMem → Option (Int32 × zMem)} {w n i b : Nat}
/-- one number read on both sides -/
theorem num2 (hC : RCq s l V c) (hR : RRq s l V r) {a : Nat} (ha : a < 1000) (hat : c.1 19 0 0 = zi (a : Nat)) (h32 : chA V l a = 32) (hrat : r.1 64 0 22 = zi (a + 1 : Nat)) (hb : b < 8192) (hi : i < 3) {x1 x2 : Int32} (hso : ∀ (r1 : zMem) (v : Nat), fr fN e0 r r1 → v < 100 → r1.1 64 0 24 = zi (v : Nat) → s_X7_isSo x1 (zi i) r1 = some (zo (decide (v ≤ 12) && b.testBit v))) :
    (∃ c' r', s_X3_readNumber s (zi b) c = some (-1, c') ∧ s_X7_item_L138 k79 x1 x2 (zi i) r = some (0, r') ∧ c'.1 19 0 0 = zi (a + 1 : Nat) ∧ r'.1 64 0 25 = zi (a + 1 : Nat) ∧ fr f19 e0 c c' ∧ fr fNt e0 r r') ∨ ∃ v q c' r', v ≤ 12 ∧ b.testBit v = true ∧ a + 1 < q ∧ q ≤ l ∧ s_X3_readNumber s (zi b) c = some (zi (v : Nat), c') ∧ s_X7_item_L138 k79 x1 x2 (zi i) r = k79 x1 x2 (zi (i + 1 : Nat)) r' ∧ c'.1 19 0 0 = zi (q : Nat) ∧ r'.1 64 0 22 = zi (q : Nat) ∧ r'.1 78 0 i = zi (v : Nat) ∧ (∀ j, j ≠ i → r'.1 78 0 j = r.1 78 0 j) ∧ fr f19 e0 c c' ∧ fr fNt e0 r r' := by
  have hf1 : fr f19 e0 c (wI c 19 0 0 (zi (a + 1 : Nat))) := fr_wI (fr_refl _ _ _) rfl
  rw [rn_C hC (by omega) hat h32 (show b < 2147483648 by omega)]
  unfold s_X7_item_L138 s_X7_wrong
  rw [hrat]
  rcases reads_R hR (by omega) hrat with ⟨e1, r1, e2, e3, e4⟩ | ⟨v, q, r1, e1, v1, q1, q2, e2, e3, e4, e5⟩
  · refine Or.inl ⟨_, r1, by rw [e1], ?_, by simp [wI_1], e3, hf1, fr_Nt e4⟩
    rw [e2, zb_some, ite_00]
  · rw [e1, e2, zb_some, if_neg n10, hso r1 v e5 v1 e3, zr_some, zif0]
    simp only []
    cases hq : (decide (v ≤ 12) && b.testBit v) with
    | false =>
      refine Or.inl ⟨_, _, by rw [if_neg (by simp)], by rw [cond_false, zlet_eq, zb_some, zbo_0], by simp [wI_1], by simp [wI_1], hf1, fr_wI (fr_Nt e5) rfl⟩
    | true =>
      obtain ⟨g1, g2⟩ := Bool.and_eq_true_iff.mp hq
      refine Or.inr ⟨v, q, _, wI r1 78 0 i (zi (v : Nat)), of_decide_eq_true g1, g2, by omega, q2, by rw [if_pos rfl], ?_, by simp [wI_1], by simp [wI_1, e4], by simp [wI_1], fun j hj => ?_, fr_wI hf1 rfl, fr_wI (fr_Nt e5) rfl⟩
      · rw [cond_true, chk_zn hi (by decide), zlet_eq, ix_zn (by omega), e3, zi_s1]
      · simp [wI_1, hj]; exact e5.1 78 0 j rfl
/-- the next number of an item: with its blank, but for the first -/
theorem num_next (hC : RCq s l V c) (hR : RRq s l V r) {a : Nat} (ha : a < 1000) (hat : c.1 19 0 0 = zi (a : Nat)) (hi : i < n) (hn : n ≤ 3) (hrat : (i = 0 ∧ chA V l a = 32 ∧ r.1 64 0 22 = zi (a + 1 : Nat)) ∨ (0 < i ∧ r.1 64 0 22 = zi (a : Nat))) (hb : b < 8192) (hso : ∀ (r1 : zMem) (v : Nat), fr fN e0 r r1 → v < 100 → r1.1 64 0 24 = zi (v : Nat) → s_X7_isSo (zi w) (zi i) r1 = some (zo (decide (v ≤ 12) && b.testBit v))) (kf : Nat) :
    (∃ f c' r', s_X3_readNumber s (zi b) c = some (-1, c') ∧ s_X7_item_L79 (kf + 1) (zi w) (zi n) (zi i) r = some (0, r') ∧ c'.1 19 0 0 = zi (f : Nat) ∧ r'.1 64 0 25 = zi (f : Nat) ∧ fr f19 e0 c c' ∧ fr fNt e0 r r') ∨ ∃ v q c' r', v ≤ 12 ∧ b.testBit v = true ∧ a < q ∧ q ≤ l ∧ s_X3_readNumber s (zi b) c = some (zi (v : Nat), c') ∧ s_X7_item_L79 (kf + 1) (zi w) (zi n) (zi i) r = s_X7_item_L79 kf (zi w) (zi n) (zi (i + 1 : Nat)) r' ∧ c'.1 19 0 0 = zi (q : Nat) ∧ r'.1 64 0 22 = zi (q : Nat) ∧ r'.1 78 0 i = zi (v : Nat) ∧ (∀ j, j ≠ i → r'.1 78 0 j = r.1 78 0 j) ∧ fr f19 e0 c c' ∧ fr fNt e0 r r' := by
  have hlt : ¬ zi (n : Nat) ≤ zi (i : Nat) := fun q => by rw [zi_len (by omega) (by omega)] at q; omega
  have hs := hR.1
  have hl := hR.2.1
  have step : ∀ r1 : zMem, fr fN e0 r r1 → r1.1 64 0 22 = zi (a + 1 : Nat) → chA V l a = 32 → (∀ z, z = s_X7_item_L138 (s_X7_item_L79 kf) (zi w) (zi n) (zi i) r1 → (∃ f c' r', s_X3_readNumber s (zi b) c = some (-1, c') ∧ z = some (0, r') ∧ c'.1 19 0 0 = zi (f : Nat) ∧ r'.1 64 0 25 = zi (f : Nat) ∧ fr f19 e0 c c' ∧ fr fNt e0 r r') ∨ ∃ v q c' r', v ≤ 12 ∧ b.testBit v = true ∧ a < q ∧ q ≤ l ∧ s_X3_readNumber s (zi b) c = some (zi (v : Nat), c') ∧ z = s_X7_item_L79 kf (zi w) (zi n) (zi (i + 1 : Nat)) r' ∧ c'.1 19 0 0 = zi (q : Nat) ∧ r'.1 64 0 22 = zi (q : Nat) ∧ r'.1 78 0 i = zi (v : Nat) ∧ (∀ j, j ≠ i → r'.1 78 0 j = r.1 78 0 j) ∧ fr f19 e0 c c' ∧ fr fNt e0 r r') := fun r1 g1 g2 g3 z hz => by
    subst hz
    rcases num2 (k79 := s_X7_item_L79 kf) (x1 := zi w) (x2 := zi n) (i := i) hC (RR_Nt hR (fr_Nt g1)) ha hat g3 g2 hb (by omega) (fun r2 v u1 u2 u3 => hso r2 v (fr_trans g1 u1) u2 u3) with ⟨c', r', u1, u2, u3, u4, u5, u6⟩ | ⟨v, q, c', r', u1, u2, u3, u4, u5, u6, u7, u8, u9, u10, u11, u12⟩
    · exact Or.inl ⟨a + 1, c', r', u1, u2, u3, u4, u5, fr_trans (fr_Nt g1) u6⟩
    · exact Or.inr ⟨v, q, c', r', u1, u2, by omega, u4, u5, u6, u7, u8, u9, fun j hj => (u10 j hj).trans (g1.1 78 0 j rfl), u11, fr_trans (fr_Nt g1) u12⟩
  rw [show s_X7_item_L79 (kf + 1) (zi w) (zi n) (zi i) r = (if zi (i : Nat) ≤ 0 then s_X7_item_L138 (s_X7_item_L79 kf) (zi w) (zi n) (zi i) r else if (r.1 64 0 23) ≤ (r.1 64 0 22) then s_X7_item_L119 r else chk ((r.1 64 0 21) + (r.1 64 0 22)) 1280 (if (Int64.toInt32 (r.2 75 0 (ix ((r.1 64 0 21) + (r.1 64 0 22))))) = 32 then zlet (wI r 64 0 22 ((r.1 64 0 22) + 1)) (fun (m43 : zMem) => s_X7_item_L138 (s_X7_item_L79 kf) (zi w) (zi n) (zi i) m43) else s_X7_item_L119 r)) from if_neg hlt]
  rcases hrat with ⟨i0, h32, hrat⟩ | ⟨i0, hrat⟩
  · subst i0
    rw [if_pos (show zi (0 : Nat) ≤ 0 from Int32.le_refl _)]
    exact step r (fr_refl _ _ _) hrat h32 _ rfl
  · have hi0 : ¬ zi (i : Nat) ≤ 0 := fun q => by have := (zi_len (b := 0) (by omega) (by omega)).mp q; omega
    have l119 : s_X7_item_L119 r = some (0, wI r 64 0 25 (zi (a : Nat))) := by
      unfold s_X7_item_L119 s_X7_wrong
      rw [zlet_eq, zb_some, zbo_0, hrat]
    rw [if_neg hi0, l119, hR.2.2.2.1, hR.2.2.1, hrat]
    have no : chA V l a ≠ 32 → (∃ f c' r', s_X3_readNumber s (zi b) c = some (-1, c') ∧ some ((0 : Int32), wI r 64 0 25 (zi (a : Nat))) = some (0, r') ∧ c'.1 19 0 0 = zi (f : Nat) ∧ r'.1 64 0 25 = zi (f : Nat) ∧ fr f19 e0 c c' ∧ fr fNt e0 r r') := fun g => ⟨a, c, _, rn_no hC (by omega) hat g _, rfl, hat, by simp [wI_1], fr_refl _ _ _, fr_wI (fr_refl _ _ _) rfl⟩
    by_cases e : a < l
    · rw [if_neg (fun q => by rw [zi_len (by omega) (by omega)] at q; omega), zi_addn, chk_zn (show 160 * s + a < 1280 by omega) (by decide), ix_zn (by omega), hR.2.2.2.2.1 a e]
      by_cases e2 : V a = 32
      · rw [if_pos e2, zlet_eq, zi_s1]
        exact step _ (fr_wI (fr_refl _ _ _) rfl) (by simp [wI_1]) (by unfold chA; rw [if_pos e]; exact e2) _ rfl
      · rw [if_neg e2]
        exact Or.inl (no (by unfold chA; rw [if_pos e]; exact e2))
    · rw [if_pos ((zi_len (by omega) (by omega)).mpr (by omega))]
      exact Or.inl (no (by unfold chA; rw [if_neg e]; decide))
end NN
end ZG
