/-! OPS: told; a ROW read on both sides -/
section Z8
variable {T : zTab} {c r : zMem}
def nm (s g : Nat) (c : zMem) : Int32 := Int64.toInt32 (c.2 9 s g)
theorem num_C {s o l g : Nat} (q : shR s o l c r) (hg : g < l) : s_X4_number s (zi g) c = some (nm s g c) := by
  obtain ⟨o3, l1, a1, a2, -⟩ := q
  unfold s_X4_number s_X4_has
  rw [a2, if_neg (fun w => by have := (lt0 (by omega) (by omega)).mp w; omega), if_neg (fun w => by rw [zi_len (by omega) (by omega)] at w; omega), zr_some, ite_10, chk_zn (show g < 160 by omega) (by decide), ix_zn (by omega)]
  rfl
theorem num_R {s o l g : Nat} (hs : s < 8) (q : shR s o l c r) (hg : g < l) : s_X7_intAt (zi s) (zi g) r = some (nm s g c) := by
  obtain ⟨o3, l1, a1, a2, a3, a4, a5, a6⟩ := q
  unfold s_X7_intAt nm
  rw [show (160 : Int32) = zi (160 : Nat) from rfl, zi_muln, zi_addn, chk_zn (show 160 * s + g < 1280 by omega) (by decide), ix_zn (by omega), a6 g hg]
theorem rowB (h : Rel T c r) (a : Int32) : (∃ s o l, s < 8 ∧ a = zi (s : Nat) ∧ shR s o l c r ∧ s_X6_refusalOfRow a c = some 0 ∧ s_X7_needed a r = some 0) ∨ ∃ k : Nat, 1 ≤ k ∧ k ≤ 3 ∧ s_X6_refusalOfRow a c = some (zi (-(k : Int))) ∧ s_X7_needed a r = some (zi (-(k : Int))) := by
  have hn := h.1.1
  rcases (shelf2 a).symm with ⟨s3, s4⟩ | ⟨s, s1, rfl, s3, s4⟩
  · refine Or.inr ⟨1, by omega, by omega, ?_, ?_⟩
    · unfold s_X6_refusalOfRow; rw [s3]; rfl
    · unfold s_X7_needed; rw [s4]; rfl
  · rcases h.2.2.2.2.2.1 s s1 with q | ⟨g, q⟩ | ⟨o, l, q⟩
    · refine Or.inr ⟨3, by omega, by omega, refE s1 q, ?_⟩
      unfold s_X7_needed
      rw [s4, zr_some, ite_10, chk_zn s1 (by decide), ix_zn (by omega), q.2.2, if_neg n02, if_pos y00]; rfl
    · refine Or.inr ⟨2, by omega, by omega, refG s1 hn q, ?_⟩
      unfold s_X7_needed
      rw [s4, zr_some, ite_10, chk_zn s1 (by decide), ix_zn (by omega), q.2.2.2.1, if_pos y22]; rfl
    · refine Or.inl ⟨s, o, l, s1, rfl, q, refR s1 q, ?_⟩
      unfold s_X7_needed
      rw [s4, zr_some, ite_10, chk_zn s1 (by decide), ix_zn (by omega), q.2.2.2.2.1, if_neg n12, if_neg n1z]
def D2 (x y : Option Int32) : Prop := ∃ v : Nat, v ≤ 1000 ∧ x = some (zi (v : Nat)) ∧ y = some (zi (v : Nat))
section DD
variable {s o l : Nat} {but : Int32}
theorem isIn_X {X : Nat} (hX : X < 1024) {i : Nat} (hi : i < 32) : s_X7_isIn (zi X) (zi i) = some (zo (X.testBit i)) := isIn_R (by omega) hi
theorem dis_in (h : Rel T c r) (hs : s < 8) (q : shR s o l c r) (hl : tn T ≤ l) {X : Nat → Nat} (hX : ∀ g, g < tn T → nm s g c = zi (X g) ∧ X g < 1024) {p : Nat} (hp : p < tn T) {k : Nat → Int32 → Int32 → Int32 → zMem → Option Int32} {k' : Int32 → Int32 → Int32 → Int32 → zMem → Option Int32} (hk : ∀ acc : Nat, acc ≤ 20 * (p + 1) → D2 (k s but (zi acc) (zi (p + 1 : Nat)) c) (k' (zi s) but (zi acc) (zi (p + 1 : Nat)) r)) :
    ∀ (d kf j acc : Nat), j + d = tn T → d < kf → p < j → acc ≤ 20 * p + j → D2 (s_X6_disputedBut_L23 k kf s but (zi acc) (zi p) (zi j) c) (s_X7_unlike_L20 k' kf (zi s) but (zi acc) (zi p) (zi j) r) := by
  have hn := h.1.1
  intro d
  induction d with
  | zero =>
    intro kf j acc hj hkf hpj ha
    obtain ⟨kf, rfl⟩ : ∃ z, kf = z + 1 := ⟨kf - 1, by omega⟩
    unfold s_X6_disputedBut_L23 s_X7_unlike_L20
    rw [h.2.1.1, h.2.2.1.1, if_pos ((zi_len (by omega) (by omega)).mpr (by omega)), if_pos ((zi_len (by omega) (by omega)).mpr (by omega)), zi_s1]
    exact hk acc (by omega)
  | succ d ih =>
    intro kf j acc hj hkf hpj ha
    obtain ⟨kf, rfl⟩ : ∃ z, kf = z + 1 := ⟨kf - 1, by omega⟩
    have hlt : ¬ zi (tn T : Nat) ≤ zi (j : Nat) := fun w => by rw [zi_len (by omega) (by omega)] at w; omega
    obtain ⟨x1, x2⟩ := hX p hp
    obtain ⟨x3, x4⟩ := hX j (by omega)
    unfold s_X6_disputedBut_L23 s_X7_unlike_L20 s_X6_disputedBut_L54 s_X6_disputedBut_L75 s_X6_disputedBut_L99 s_X7_unlike_L73
    rw [h.2.1.1, h.2.2.1.1, if_neg hlt, if_neg hlt, num_C q (show p < l by omega), num_C q (show j < l by omega), num_R hs q (show p < l by omega), num_R hs q (show j < l by omega), x1, x3]
    simp only [zr_some]
    rw [isIn_X x2 (show j < 32 by omega), isIn_X x4 (show p < 32 by omega), zi_bit (show X p < 2147483648 by omega) (show j < 32 by omega), zi_bit (show X j < 2147483648 by omega) (show p < 32 by omega), zi_s1, zi_s1]
    have hg := ih kf (j + 1) acc (by omega) (by omega) (by omega) (by omega)
    have hg' := ih kf (j + 1) (acc + 1) (by omega) (by omega) (by omega) (by omega)
    simp only [zr_some, zif0]
    by_cases e1 : zi (p : Nat) = but
    · simp only [if_pos e1, ite_self]
      cases (X p).testBit j <;> cases (X j).testBit p <;> exact hg
    · by_cases e2 : zi (j : Nat) = but
      · simp only [if_neg e1, if_pos e2, ite_self]
        cases (X p).testBit j <;> cases (X j).testBit p <;> exact hg
      · simp only [if_neg e1, if_neg e2]
        cases (X p).testBit j <;> cases (X j).testBit p
        · exact hg
        · exact hg'
        · exact hg'
        · exact hg
theorem dis_out (h : Rel T c r) (hs : s < 8) (q : shR s o l c r) (hl : tn T ≤ l) {X : Nat → Nat} (hX : ∀ g, g < tn T → nm s g c = zi (X g) ∧ X g < 1024) : ∀ (d kf p acc : Nat), p + d = tn T → d < kf → acc ≤ 20 * p → D2 (s_X6_disputedBut_L5 kf s but (zi acc) (zi p) c) (s_X7_unlike_L5 kf (zi s) but (zi acc) (zi p) r) := by
  have hn := h.1.1
  intro d
  induction d with
  | zero =>
    intro kf p acc hp hkf ha
    obtain ⟨kf, rfl⟩ : ∃ z, kf = z + 1 := ⟨kf - 1, by omega⟩
    unfold s_X6_disputedBut_L5 s_X7_unlike_L5
    rw [h.2.1.1, h.2.2.1.1, if_pos ((zi_len (by omega) (by omega)).mpr (by omega)), if_pos ((zi_len (by omega) (by omega)).mpr (by omega))]
    exact ⟨acc, by omega, rfl, rfl⟩
  | succ d ih =>
    intro kf p acc hp hkf ha
    obtain ⟨kf, rfl⟩ : ∃ z, kf = z + 1 := ⟨kf - 1, by omega⟩
    have hlt : ¬ zi (tn T : Nat) ≤ zi (p : Nat) := fun w => by rw [zi_len (by omega) (by omega)] at w; omega
    unfold s_X6_disputedBut_L5 s_X7_unlike_L5
    rw [h.2.1.1, h.2.2.1.1, if_neg hlt, if_neg hlt, zi_s1]
    exact dis_in h hs q hl hX (show p < tn T by omega) (fun acc ha => ih kf (p + 1) acc (by omega) (by omega) ha) (tn T - (p + 1)) zF (p + 1) acc (by omega) (by unfold zF; omega) (by omega) (by omega)
theorem dis2 (h : Rel T c r) (hs : s < 8) (q : shR s o l c r) (hl : tn T ≤ l) {X : Nat → Nat} (hX : ∀ g, g < tn T → nm s g c = zi (X g) ∧ X g < 1024) : D2 (s_X6_disputedBut s but c) (s_X7_unlike (zi s) but r) := by
  have hn := h.1.1
  exact dis_out h hs q hl hX (tn T) zF 0 0 (by omega) (by unfold zF; omega) (by omega)
theorem liar_loop (h : Rel T c r) (hs : s < 8) (q : shR s o l c r) (hl : tn T ≤ l) {X : Nat → Nat} (hX : ∀ g, g < tn T → nm s g c = zi (X g) ∧ X g < 1024) {v : Int32} (hv : ¬ v ≤ 0) : ∀ (d kf g : Nat), g + d = tn T → d < kf → ∃ w, s_X6_liar_L13 kf s (zi g) c = some w ∧ s_X7_told_L124 kf (zi s) v (zi g) r = some (w, r) := by
  have hn := h.1.1
  intro d
  induction d with
  | zero =>
    intro kf g hg hkf
    obtain ⟨kf, rfl⟩ : ∃ z, kf = z + 1 := ⟨kf - 1, by omega⟩
    unfold s_X6_liar_L13 s_X7_told_L124
    rw [h.2.1.1, h.2.2.1.1, if_pos ((zi_len (by omega) (by omega)).mpr (by omega)), if_pos ((zi_len (by omega) (by omega)).mpr (by omega))]
    exact ⟨_, rfl, rfl⟩
  | succ d ih =>
    intro kf g hg hkf
    obtain ⟨kf, rfl⟩ : ∃ z, kf = z + 1 := ⟨kf - 1, by omega⟩
    have hlt : ¬ zi (tn T : Nat) ≤ zi (g : Nat) := fun w => by rw [zi_len (by omega) (by omega)] at w; omega
    obtain ⟨y, y1, y2, y3⟩ := dis2 (but := zi (g : Nat)) h hs q hl hX
    unfold s_X6_liar_L13 s_X7_told_L124
    rw [h.2.1.1, h.2.2.1.1, if_neg hlt, if_neg hlt, if_neg hv, y2, y3, zr_some, zr_some, zi_s1]
    by_cases e : zi (y : Nat) = 0
    · rw [if_pos e, if_pos e]; exact ⟨_, rfl, rfl⟩
    · rw [if_neg e, if_neg e]; exact ih kf (g + 1) (by omega) (by omega)
/-- bits of others than there are, or of oneself -/
theorem oth_C (h : Rel T c r) {g : Nat} (hg : g < tn T) : ∃ b, s_X5_othersOf 0 (zi g) c = some (zi (b : Nat)) ∧ b < 1024 ∧ ∀ i, b.testBit i = (decide (i < tn T) && !decide (g = i)) := by
  have hn := h.1.1
  have h1 : 2 ^ tn T ≤ 2 ^ 10 := Nat.pow_le_pow_right (by omega) hn
  have h0 : 1 ≤ 2 ^ tn T := Nat.two_pow_pos _
  refine ⟨andn (2 ^ tn T - 1) (2 ^ g), ?_, ?_, fun i => ?_⟩
  · unfold s_X5_othersOf s_X5_guestBits
    rw [h.2.1.1, bit_C (by omega), zr_some, zr_some, bit_C (by omega), zr_some, show zi (2 ^ tn T : Nat) - 1 = zi (2 ^ tn T - 1 : Nat) from zi_subn (b := 1) h0, zi_andn (by omega) (by have := p10 (show g < 10 by omega); omega)]
  · exact andn_lt (n := 10) (by omega)
  · rw [andn_test, all_test, Nat.testBit_two_pow]
theorem neg_and {v : Int32} (hv : v < 0) {b : Nat} (hb : b < 1024) : ¬ v &&& (zi (b : Nat) ^^^ (-1)) = 0 := by
  intro w
  have h1 := congrArg (fun q : Int32 => q.toBitVec.getLsbD 31) w
  have hm : v.toBitVec.getLsbD 31 = true := by
    have h2 : v.toBitVec.msb = true := by
      rw [BitVec.msb_eq_toInt, decide_eq_true_eq]
      have := Int32.lt_iff_toInt_lt.mp hv
      exact this
    rw [BitVec.msb_eq_getLsbD_last] at h2
    exact h2
  have hz : (zi (b : Nat)).toBitVec.getLsbD 31 = false := by
    rw [zi_toBV b (by omega), BitVec.getLsbD_ofNat, Nat.testBit_lt_two_pow (by omega)]; rfl
  simp only [Int32.toBitVec_and, Int32.toBitVec_xor, BitVec.getLsbD_and, BitVec.getLsbD_xor, hm, hz] at h1
  revert h1
  decide
theorem chk_row (h : Rel T c r) {g : Nat} (hg : g < tn T) (v : Int32) : ∃ b, s_X5_othersOf 0 (zi g) c = some (zi (b : Nat)) ∧ ((v &&& (zi (b : Nat) ^^^ (-1)) = 0) ↔ (¬ v < 0 ∧ ¬ jshl 1 (zi (tn T)) ≤ v ∧ s_X7_isIn v (zi g) = some 0)) ∧ (v &&& (zi (b : Nat) ^^^ (-1)) = 0 → ∃ X : Nat, v = zi (X : Nat) ∧ X < 1024) ∧ (¬ v < 0 → ∃ y, s_X7_isIn v (zi g) = some (zo y)) := by
  have hn := h.1.1
  have h1 : 2 ^ tn T ≤ 2 ^ 10 := Nat.pow_le_pow_right (by omega) hn
  obtain ⟨b, b1, b2, b3⟩ := oth_C h hg
  obtain ⟨x, rfl, x1, x2⟩ := zi_of v
  refine ⟨b, b1, ?_⟩
  by_cases hx : x < 0
  · have hv := (lt0 x1 x2).mpr hx
    exact ⟨⟨fun w => absurd w (neg_and hv b2), fun w => absurd hv w.1⟩, fun w => absurd w (neg_and hv b2), fun w => absurd hv w⟩
  · obtain ⟨y, rfl⟩ : ∃ y : Nat, x = y := ⟨x.toNat, by omega⟩
    have hv : ¬ zi (y : Nat) < 0 := fun w => hx ((lt0 x1 x2).mp w)
    have hin : s_X7_isIn (zi (y : Nat)) (zi g) = some (zo (y.testBit g)) := isIn_R (by omega) (by omega)
    have key : (zi (y : Nat) &&& (zi (b : Nat) ^^^ (-1)) = 0) ↔ (y < 2 ^ tn T ∧ y.testBit g = false) := by
      rw [zi_andn (by omega) (by omega), show (0 : Int32) = zi (0 : Nat) from rfl, zi_eqn (Nat.lt_of_lt_of_le (andn_lt (n := 31) (by omega)) (by omega)) (by omega)]
      constructor
      · intro w
        have hb : ∀ i, y.testBit i = true → b.testBit i = true := fun i hi => by
          have := congrArg (fun q : Nat => q.testBit i) w
          simp only [andn_test, Nat.zero_testBit, hi, Bool.true_and] at this
          cases q : b.testBit i with
          | true => rfl
          | false => rw [q] at this; cases this
        refine ⟨Nat.lt_pow_two_of_testBit y (fun i hi => ?_), ?_⟩
        · cases q : y.testBit i with
          | false => rfl
          | true =>
            have := hb i q
            rw [b3, decide_eq_false (by omega)] at this; cases this
        · cases q : y.testBit g with
          | false => rfl
          | true =>
            have := hb g q
            rw [b3, decide_eq_true (rfl : g = g)] at this; simp at this
      · rintro ⟨w1, w2⟩
        refine Nat.eq_of_testBit_eq (fun i => ?_)
        rw [andn_test, Nat.zero_testBit, b3]
        by_cases hi : i < tn T
        · by_cases e : g = i
          · subst e; rw [w2]; rfl
          · rw [decide_eq_true hi, decide_eq_false e]; simp
        · rw [Nat.testBit_lt_two_pow (Nat.lt_of_lt_of_le w1 (Nat.pow_le_pow_right (by omega) (by omega)))]; rfl
    have hle : (jshl 1 (zi (tn T)) ≤ zi (y : Nat)) ↔ 2 ^ tn T ≤ y := by
      rw [zi_shl1 (by omega), zi_len (by omega) (by omega)]
    refine ⟨?_, fun w => ⟨y, rfl, by have := (key.mp w).1; omega⟩, fun _ => ⟨_, hin⟩⟩
    rw [key, hle, hin]
    refine ⟨fun w => ⟨hv, by omega, by rw [w.2]; rfl⟩, fun w => ⟨by omega, ?_⟩⟩
    cases q : y.testBit g with
    | false => rfl
    | true => rw [q] at w; exact absurd (Option.some.inj w.2.2) (by decide)
theorem told_loop (h : Rel T c r) (hs : s < 8) (q : shR s o l c r) (hl : tn T ≤ l) {w : Int32} : ∀ (d kf g : Nat), g + d = tn T → d + 1 < kf → (∀ j, j < g → ∃ X : Nat, nm s j c = zi (X : Nat) ∧ X < 1024) → OK2 (s_X6_told_L58 kf w s (zi g) c) (s_X7_told_L38 kf (zi s) w 0 (zi g) r) := by
  have hn := h.1.1
  have R6 := ok2_ten h 6 (by omega) (by omega) (show (-6 : Int32) = zi (-((6 : Nat) : Int)) from rfl)
  intro d
  induction d with
  | zero =>
    intro kf g hg hkf hX
    obtain ⟨kf, rfl⟩ : ∃ z, kf = z + 1 := ⟨kf - 1, by omega⟩
    have hX' : ∀ j, j < tn T → nm s j c = zi (ix (nm s j c) : Nat) ∧ ix (nm s j c) < 1024 := fun j hj => by
      obtain ⟨X, X1, X2⟩ := hX j (by omega)
      rw [X1, ix_zn (by omega)]
      exact ⟨rfl, X2⟩
    obtain ⟨v, v1, v2, v3⟩ := dis2 (but := -1) h hs q hl hX'
    unfold s_X6_told_L58 s_X7_told_L38 s_X7_told_L96 s_X6_liar
    rw [h.2.1.1, h.2.2.1.1, if_pos ((zi_len (by omega) (by omega)).mpr (by omega)), if_pos ((zi_len (by omega) (by omega)).mpr (by omega)), if_pos rfl, v2, v3, zr_some, zr_some, zr_some]
    by_cases e : w = 0
    · rw [if_pos e, if_pos e]; exact ok2_same h rfl
    · rw [if_neg e, if_neg e]
      by_cases e2 : v = 0
      · subst e2
        rw [if_pos y00, zr_some]
        have hz : s_X7_told_L124 zF (zi s) (zi (0 : Nat)) 0 r = some (-1, r) := by
          unfold zF s_X7_told_L124
          by_cases e3 : r.1 64 0 0 ≤ 0
          · rw [if_pos e3]
          · rw [if_neg e3, if_pos (show zi (0 : Nat) ≤ 0 from Int32.le_refl _)]
        rw [hz]
        exact ok2_same h rfl
      · obtain ⟨x, x1, x2⟩ := liar_loop h hs q hl hX' (v := zi v) (fun w => by have := (zi_len (b := 0) (by omega) (by omega)).mp w; omega) (tn T) zF 0 (by omega) (by unfold zF; omega)
        have v0 : ¬ zi (v : Nat) = 0 := fun w => e2 ((zi_eqn (b := 0) (by omega) (by omega)).mp w)
        rw [if_neg v0, show s_X6_liar_L13 zF s 0 c = some x from x1, show s_X7_told_L124 zF (zi s) (zi v) 0 r = some (x, r) from x2]
        exact ok2_same h rfl
  | succ d ih =>
    intro kf g hg hkf hX
    obtain ⟨kf, rfl⟩ : ∃ z, kf = z + 1 := ⟨kf - 1, by omega⟩
    have hlt : ¬ zi (tn T : Nat) ≤ zi (g : Nat) := fun w => by rw [zi_len (by omega) (by omega)] at w; omega
    obtain ⟨b, b1, b2, b3, b4⟩ := chk_row h (show g < tn T by omega) (nm s g c)
    have bad : s_X7_told_L38 kf (zi s) w (-6) (zi (g + 1 : Nat)) r = zb (s_X7_noTen (-6) r) (fun a m => some (a, m)) := by
      obtain ⟨kf, rfl⟩ : ∃ z, kf = z + 1 := ⟨kf - 1, by omega⟩
      have n6 : ¬ (-6 : Int32) = 0 := by decide
      unfold s_X7_told_L38 s_X7_told_L96
      rw [if_neg n6, if_neg n6, ite_self]
    unfold s_X6_told_L58 s_X7_told_L38 s_X7_told_L87 s_X7_told_L90
    rw [h.2.1.1, h.2.2.1.1, if_neg hlt, if_neg hlt, if_pos rfl, num_C q (show g < l by omega), num_R hs q (show g < l by omega), zr_some, zr_some, b1, zr_some, zi_s1, bad]
    by_cases e : nm s g c &&& (zi (b : Nat) ^^^ (-1)) = 0
    · obtain ⟨u1, u2, u3⟩ := b2.mp e
      rw [if_pos e, if_neg u1, if_neg u2, u3, zr_some, ite_00]
      exact ih kf (g + 1) (by omega) (by omega) (fun j hj => by
        by_cases ej : j = g
        · subst ej; exact b3 e
        · exact hX j (by omega))
    · rw [if_neg e]
      by_cases u1 : nm s g c < 0
      · rw [if_pos u1]; exact R6
      rw [if_neg u1]
      by_cases u2 : jshl 1 (zi (tn T)) ≤ nm s g c
      · rw [if_pos u2]; exact R6
      rw [if_neg u2]
      obtain ⟨y, y1⟩ := b4 u1
      rw [y1, zr_some, zif0]
      cases y with
      | false => exact absurd (b2.mpr ⟨u1, u2, y1⟩) e
      | true => exact R6
end DD
theorem op_told (h : Rel T c r) (a b : Int32) : OK2 (s_X6_told a b c) (s_X7_told a b r) := by
  have hn := h.1.1
  have R5 := ok2_ten h 5 (by omega) (by omega) (show (-5 : Int32) = zi (-((5 : Nat) : Int)) from rfl)
  have bad : ∀ k : Nat, 1 ≤ k → k ≤ 7 → s_X7_told_L38 zF a b (zi (-(k : Int))) 0 r = zb (s_X7_noTen (zi (-(k : Int))) r) (fun a m => some (a, m)) := fun k k1 k2 => by
    have n6 := neg_ne0 k1 k2
    unfold zF s_X7_told_L38 s_X7_told_L96
    rw [if_neg n6, if_neg n6, ite_self]
  unfold s_X6_told s_X7_told s_X7_told_L32 s_X7_told_L35 s_X6_told_L48 s_X6_told_L55
  rcases (rowB h a).symm with ⟨k, k1, k2, k3, k4⟩ | ⟨s, o, l, s1, rfl, q, k3, k4⟩
  · have n6 := neg_ne0 k1 (show k ≤ 7 by omega)
    rw [k3, k4, zr_some, zr_some, if_neg n6, if_neg n6, bad k k1 (by omega)]
    exact ok2_ten h k k1 (by omega) rfl
  · have hl := q.2.1
    have bad5 : s_X7_told_L38 zF (zi s) b (-5) 0 r = zb (s_X7_noTen (-5) r) (fun a m => some (a, m)) := bad 5 (by omega) (by omega)
    rw [k3, k4, zr_some, zr_some, ite_00, ite_00, chk_zn s1 (by decide), chk_zn s1 (by decide), ix_zn (by omega), q.2.2.2.1, q.2.2.2.2.2.2.1, h.2.1.1, h.2.2.1.1, bad5]
    by_cases e : l < tn T
    · rw [if_pos ((zi_ltn (by omega) (by omega)).mpr e), if_pos ((zi_ltn (by omega) (by omega)).mpr e)]; exact R5
    have e' : ¬ zi (l : Nat) < zi (tn T : Nat) := fun w => e ((zi_ltn (by omega) (by omega)).mp w)
    rw [if_neg e', if_neg e']
    have go := told_loop h s1 q (show tn T ≤ l by omega) (w := b) (tn T) zF 0 (by omega) (by unfold zF; omega) (fun j hj => absurd hj (Nat.not_lt_zero j))
    obtain ⟨y, rfl, y1, y2⟩ := zi_of b
    have z1 : zi y = 0 ↔ y = 0 := zi_eq (b := 0) y1 y2 (by omega) (by omega)
    have z2 : zi y = 1 ↔ y = 1 := zi_eq (b := 1) y1 y2 (by omega) (by omega)
    have z4 : zi y ≤ 1 ↔ y ≤ 1 := zi_le (b := 1) y1 y2 (by omega) (by omega)
    have z5 : zi y < 0 ↔ y < 0 := lt0 y1 y2
    by_cases x0 : y = 0
    · rw [if_pos (z1.mpr x0), if_neg (fun w => by have := z5.mp w; omega), if_pos (z4.mpr (by omega))]; exact go
    rw [if_neg (fun w => x0 (z1.mp w))]
    by_cases x1 : y = 1
    · rw [if_pos (z2.mpr x1), if_neg (fun w => by have := z5.mp w; omega), if_pos (z4.mpr (by omega))]; exact go
    rw [if_neg (fun w => x1 (z2.mp w))]
    by_cases x3 : y < 0
    · rw [if_pos (z5.mpr x3)]; exact R5
    · have x4 : ¬ zi y ≤ 1 := fun w => by have := z4.mp w; omega
      rw [if_neg (fun w => x3 (z5.mp w)), if_neg x4]; exact R5
end Z8
