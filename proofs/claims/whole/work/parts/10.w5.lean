/-! OPS: guestOf, status, bound, leftOut, never, clink -/
section W5
variable {T : zTab} {c r : zMem}
theorem op_guestOf (h : Rel T c r) (a b : Int32) : OK2 (s_X6_guestOf a b c) (s_X7_guestOf a b r) := by
  have hn := h.1.1
  have hR : OK2 (zb (s_X6_refuse (-5) c) (fun a m => some (a, m))) (zb (s_X7_no (-5) r) (fun a m => some (a, m))) := ok2_ref h 5 (by omega) (by omega) rfl
  unfold s_X6_guestOf s_X7_guestOf
  rcases (guest2 h a).symm with ⟨p3, p4⟩ | ⟨p, p1, p2, p3, p4⟩
  · rw [p3, p4]; exact hR
  · subst p2
    obtain ⟨a1, a2, a3, a4, a5⟩ := h.2.1.2.2.2 p p1
    obtain ⟨b1, b2, b3, b4, b5⟩ := h.2.2.1.2.2.2 p p1
    rw [p3, p4, zr_some, zr_some, ite_10, ite_10, chk_zn (show p < 10 by omega) (by decide), chk_zn (show p < 10 by omega) (by decide), chk_zn (show p < 10 by omega) (by decide), chk_zn (show p < 10 by omega) (by decide), chk_zn (show p < 10 by omega) (by decide), chk_zn (show p < 10 by omega) (by decide), chk_zn (show p < 10 by omega) (by decide), chk_zn (show p < 10 by omega) (by decide), chk_zn (show p < 10 by omega) (by decide), chk_zn (show p < 10 by omega) (by decide), ix_zn (show p < 2147483648 by omega), a1, a2, a3, a4, a5, b1, b2, b3, b4, b5, lacks_C h.2.1 h.1 p1, lacks_R h.2.2.1 h.1 p1]
    by_cases e0 : b = 0
    · rw [if_pos e0, if_pos e0]; exact ok2_same h rfl
    rw [if_neg e0, if_neg e0]
    by_cases e1 : b = 1
    · rw [if_pos e1, if_pos e1]; exact ok2_same h rfl
    rw [if_neg e1, if_neg e1]
    by_cases e2 : b = 2
    · rw [if_pos e2, if_pos e2]; exact ok2_same h rfl
    rw [if_neg e2, if_neg e2]
    by_cases e3 : b = 3
    · rw [if_pos e3, if_pos e3]; exact ok2_same h rfl
    rw [if_neg e3, if_neg e3]
    by_cases e4 : b = 4
    · rw [if_pos e4, if_pos e4]; exact ok2_same h rfl
    rw [if_neg e4, if_neg e4]
    by_cases e5 : b = 5
    · rw [if_pos e5, if_pos e5]; exact ok2_same h rfl
    rw [if_neg e5, if_neg e5]
    exact hR
theorem had_loop (h : Rel T c r) : ∀ (d kf i : Nat) (acc : Int32), i + d = tn T → d < kf → RD2 (s_X5_hadPairs_L4 kf 0 acc (zi i) c) (s_X7_status_L84 kf acc (zi i) r) := by
  have hn := h.1.1
  intro d
  induction d with
  | zero =>
    intro kf i acc hi hkf
    obtain ⟨kf, rfl⟩ : ∃ z, kf = z + 1 := ⟨kf - 1, by omega⟩
    unfold s_X5_hadPairs_L4 s_X7_status_L84
    rw [h.2.1.1, h.2.2.1.1, if_pos (by rw [zi_len (by omega) (by omega)]; omega), if_pos (by rw [zi_len (by omega) (by omega)]; omega)]
    exact ⟨_, rfl, rfl⟩
  | succ d ih =>
    intro kf i acc hi hkf
    obtain ⟨kf, rfl⟩ : ∃ z, kf = z + 1 := ⟨kf - 1, by omega⟩
    obtain ⟨-, -, -, -, o5, -⟩ := h.1.g (show i < tn T by omega)
    obtain ⟨-, -, -, -, a5⟩ := h.2.1.2.2.2 i (by omega)
    obtain ⟨-, -, -, -, b5⟩ := h.2.2.1.2.2.2 i (by omega)
    unfold s_X5_hadPairs_L4 s_X7_status_L84
    rw [h.2.1.1, h.2.2.1.1, if_neg (by rw [zi_len (by omega) (by omega)]; omega), if_neg (by rw [zi_len (by omega) (by omega)]; omega), chk_zn (show i < 10 by omega) (by decide), chk_zn (show i < 10 by omega) (by decide), ix_zn (show i < 2147483648 by omega), a5, b5, bitCount_all _ o5, count_all o5, zr_some, zr_some, zi_s1]
    exact ih kf (i + 1) _ (by omega) (by omega)
theorem rd2_map {α : Type} {x y : Option α} (h : RD2 x y) : RD2 (zr x (fun a => some a)) y := by
  obtain ⟨a, e1, e2⟩ := h
  rw [e1, e2]; exact ⟨a, rfl, rfl⟩
theorem op_status (h : Rel T c r) (a : Int32) : RD2 (s_X6_status a c) (s_X7_status a r) := by
  have hn := h.1.1
  obtain ⟨q1, q2, q3, q4, q5, q6, q7, q8, q9, q10⟩ := h
  unfold s_X6_status s_X7_status s_X7_status_L22 s_X5_hadPairs
  rw [q2.1, q2.2.1, q2.2.2.1, q3.1, q3.2.1, q3.2.2.1, q4.1, q4.2.1, q4.2.2, q9.1]
  have hl := had_loop ⟨q1, q2, q3, q4, q5, q6, q7, q8, q9, q10⟩ (tn T) zF 0 0 (by omega) (by unfold zF; omega)
  have hm := rd2_map hl
  obtain ⟨x, rfl, x1, x2⟩ := zi_of a
  have l11 : zi x < 11 ↔ x < 11 := zi_lt (b := 11) x1 x2 (by omega) (by omega)
  have l17 : 17 < zi x ↔ 17 < x := zi_lt (a := 17) (by omega) (by omega) x1 x2
  have ee : ∀ k : Int, 0 ≤ k → k < 8 → (zi x = zi k ↔ x = k) := fun k k1 k2 => zi_eq x1 x2 (by omega) (by omega)
  by_cases w1 : x < 11
  · rw [if_pos (l11.mpr w1), if_pos (l11.mpr w1)]
    by_cases e0 : zi x = 0
    · rw [if_pos e0, if_pos e0]; exact ⟨_, rfl, rfl⟩
    rw [if_neg e0, if_neg e0]
    by_cases e1 : zi x = 1
    · rw [if_pos e1, if_pos e1]; exact ⟨_, rfl, rfl⟩
    rw [if_neg e1, if_neg e1]
    by_cases e2 : zi x = 2
    · rw [if_pos e2, if_pos e2]; exact hm
    rw [if_neg e2, if_neg e2]
    by_cases e3 : zi x = 3
    · rw [if_pos e3]; exact ⟨_, rfl, rfl⟩
    rw [if_neg e3]
    by_cases e4 : zi x = 4
    · rw [if_pos e4]; exact ⟨_, rfl, rfl⟩
    rw [if_neg e4]
    by_cases e5 : zi x = 5
    · rw [if_pos e5]; exact ⟨_, rfl, rfl⟩
    rw [if_neg e5]
    by_cases e6 : zi x = 6
    · rw [if_pos e6]; exact ⟨_, rfl, rfl⟩
    rw [if_neg e6]
    by_cases e7 : zi x = 7
    · rw [if_pos e7]; exact ⟨_, rfl, rfl⟩
    rw [if_neg e7]
    exact ⟨_, rfl, rfl⟩
  have n0 : ¬ zi x = 0 := fun w => by have := (ee 0 (by omega) (by omega)).mp w; omega
  have n1 : ¬ zi x = 1 := fun w => by have := (ee 1 (by omega) (by omega)).mp w; omega
  have n2 : ¬ zi x = 2 := fun w => by have := (ee 2 (by omega) (by omega)).mp w; omega
  have n3 : ¬ zi x = 3 := fun w => by have := (ee 3 (by omega) (by omega)).mp w; omega
  have n4 : ¬ zi x = 4 := fun w => by have := (ee 4 (by omega) (by omega)).mp w; omega
  have n5 : ¬ zi x = 5 := fun w => by have := (ee 5 (by omega) (by omega)).mp w; omega
  have n6 : ¬ zi x = 6 := fun w => by have := (ee 6 (by omega) (by omega)).mp w; omega
  have n7 : ¬ zi x = 7 := fun w => by have := (ee 7 (by omega) (by omega)).mp w; omega
  rw [if_neg n0, if_neg n1, if_neg n2, if_neg n3, if_neg n4, if_neg n5, if_neg n6, if_neg n7, if_neg n0, if_neg n1, if_neg n2, if_neg n3, if_neg n4, if_neg n5, if_neg n6, if_neg n7]
  rw [if_neg (fun w => w1 (l11.mp w)), if_neg (fun w => w1 (l11.mp w))]
  by_cases w2 : 17 < x
  · rw [if_pos (l17.mpr w2), if_pos (l17.mpr w2)]; exact ⟨_, rfl, rfl⟩
  rw [if_neg (fun w => w2 (l17.mp w)), if_neg (fun w => w2 (l17.mp w)), show (10 : Int32) = zi 10 from rfl, zi_sub, chk_zi (show 0 ≤ x - 10 by omega) (show x - 10 < (8 : Nat) by omega) (by decide), chk_zi (show 0 ≤ x - 10 by omega) (show x - 10 < (8 : Nat) by omega) (by decide), ix_zi (by omega) (by omega), q7 _ (by omega)]
  exact ⟨_, rfl, rfl⟩
theorem i32_nlt (a b : Int32) : ¬ a < b ↔ b ≤ a := by rw [Int32.lt_iff_toInt_lt, Int32.le_iff_toInt_le]; omega
theorem bound_loop (h : Rel T c r) : ∀ (d kf i : Nat) (acc : Int32), i + d = tn T → d < kf → RD2 (s_X6_bound_L4 kf acc (zi i) c) (s_X7_bound_L4 kf acc (zi i) r) := by
  have hn := h.1.1
  intro d
  induction d with
  | zero =>
    intro kf i acc hi hkf
    obtain ⟨kf, rfl⟩ : ∃ z, kf = z + 1 := ⟨kf - 1, by omega⟩
    unfold s_X6_bound_L4 s_X7_bound_L4
    rw [h.2.1.1, h.2.2.1.1, if_pos (by rw [zi_len (by omega) (by omega)]; omega), if_pos (by rw [zi_len (by omega) (by omega)]; omega)]
    exact ⟨_, rfl, rfl⟩
  | succ d ih =>
    intro kf i acc hi hkf
    obtain ⟨kf, rfl⟩ : ∃ z, kf = z + 1 := ⟨kf - 1, by omega⟩
    have hi2 : i < tn T := by omega
    unfold s_X6_bound_L4 s_X7_bound_L4 s_X7_bound_L38
    rw [h.2.1.1, h.2.2.1.1, if_neg (by rw [zi_len (by omega) (by omega)]; omega), if_neg (by rw [zi_len (by omega) (by omega)]; omega), wants_C h.2.1 h.1 hi2, lacks_R h.2.2.1 h.1 hi2, zr_some, zr_some, zr_some, count_R hn, zr_some, zr_some, zi_s1]
    unfold jmax
    by_cases w : acc < zi (bcnt (wntT T i) (tn T) : Nat)
    · rw [if_pos w, if_neg (fun z => (i32_nlt _ _).mpr z w)]
      exact ih kf (i + 1) _ (by omega) (by omega)
    · rw [if_neg w, if_pos ((i32_nlt _ _).mp w)]
      exact ih kf (i + 1) _ (by omega) (by omega)
theorem op_bound (h : Rel T c r) : RD2 (s_X6_bound c) (s_X7_bound r) := by
  have hn := h.1.1
  unfold s_X6_bound s_X7_bound
  exact bound_loop h (tn T) zF 0 0 (by omega) (by unfold zF; omega)
theorem left_loop (h : Rel T c r) : ∀ (d kf i x : Nat), i + d = tn T → d < kf → x < tn T → OK2 (s_X6_leftOut_L21 kf (zi x) (zi i) c) (s_X7_leftOut_L18 kf (zi x) (zi i) r) := by
  have hn := h.1.1
  intro d
  induction d with
  | zero =>
    intro kf i x hi hkf hx
    obtain ⟨kf, rfl⟩ : ∃ z, kf = z + 1 := ⟨kf - 1, by omega⟩
    unfold s_X6_leftOut_L21 s_X7_leftOut_L18
    rw [h.2.1.1, h.2.2.1.1, if_pos (by rw [zi_len (by omega) (by omega)]; omega), if_pos (by rw [zi_len (by omega) (by omega)]; omega)]
    exact ok2_same h rfl
  | succ d ih =>
    intro kf i x hi hkf hx
    obtain ⟨kf, rfl⟩ : ∃ z, kf = z + 1 := ⟨kf - 1, by omega⟩
    have hi2 : i < tn T := by omega
    unfold s_X6_leftOut_L21 s_X7_leftOut_L18 s_X6_leftOut_L53 s_X7_leftOut_L49
    rw [h.2.1.1, h.2.2.1.1, if_neg (by rw [zi_len (by omega) (by omega)]; omega), if_neg (by rw [zi_len (by omega) (by omega)]; omega), wants_C h.2.1 h.1 hi2, wants_C h.2.1 h.1 hx, lacks_R h.2.2.1 h.1 hi2, zr_some, zr_some, zr_some, count_R hn, zr_some, lacks_R h.2.2.1 h.1 hx, zr_some, count_R hn, zr_some, zi_s1]
    by_cases w : zi (bcnt (wntT T i) (tn T) : Nat) ≤ zi (bcnt (wntT T x) (tn T) : Nat)
    · rw [if_pos w, if_pos w]; exact ih kf (i + 1) _ (by omega) (by omega) hx
    · rw [if_neg w, if_neg w]; exact ih kf (i + 1) _ (by omega) (by omega) hi2
theorem op_leftOut (h : Rel T c r) : OK2 (s_X6_leftOut c) (s_X7_leftOut r) := by
  have hn := h.1.1
  unfold s_X6_leftOut s_X7_leftOut
  have e : zi (tn T) = (0 : Int32) ↔ tn T = 0 := zi_eqn (b := 0) (by omega) (by omega)
  rw [h.2.1.1, h.2.2.1.1]
  by_cases w : tn T = 0
  · rw [if_pos (e.mpr w), if_pos (e.mpr w)]; exact ok2_ref h 5 (by omega) (by omega) rfl
  · rw [if_neg (fun z => w (e.mp z)), if_neg (fun z => w (e.mp z))]
    exact left_loop h (tn T - 1) zF 1 0 (by omega) (by unfold zF; omega) (by omega)
theorem never_in (h : Rel T c r) {p : Nat} (hp : p < tn T) {k : Int32 → Int32 → zMem → Option Int32} {k' : Int32 → Int32 → zMem → Option Int32} (hk : ∀ acc, RD2 (k acc (zi (p + 1 : Nat)) c) (k' acc (zi (p + 1 : Nat)) r)) :
    ∀ (d kf q : Nat) (acc : Int32), q + d = tn T → d < kf → RD2 (s_X6_never_L19 k kf acc (zi p) (zi q) c) (s_X7_never_L16 k' kf acc (zi p) (zi q) r) := by
  have hn := h.1.1
  intro d
  induction d with
  | zero =>
    intro kf q acc hi hkf
    obtain ⟨kf, rfl⟩ : ∃ z, kf = z + 1 := ⟨kf - 1, by omega⟩
    unfold s_X6_never_L19 s_X7_never_L16
    rw [h.2.1.1, h.2.2.1.1, if_pos (by rw [zi_len (by omega) (by omega)]; omega), if_pos (by rw [zi_len (by omega) (by omega)]; omega), zi_s1]
    exact hk acc
  | succ d ih =>
    intro kf q acc hi hkf
    obtain ⟨kf, rfl⟩ : ∃ z, kf = z + 1 := ⟨kf - 1, by omega⟩
    have hq : q < tn T := by omega
    unfold s_X6_never_L19 s_X7_never_L16 s_X6_never_L48 s_X7_never_L36
    rw [h.2.1.1, h.2.2.1.1, if_neg (by rw [zi_len (by omega) (by omega)]; omega), if_neg (by rw [zi_len (by omega) (by omega)]; omega), may_C h.2.1 h.1 hp hq, may_R h.2.2.1 h.1 hp hq, zr_some, zr_some, zif0, zif0, zi_s1, Int32.add_zero]
    cases mayT T p q <;> exact ih kf (q + 1) _ (by omega) (by omega)
theorem never_out (h : Rel T c r) : ∀ (d kf p : Nat) (acc : Int32), p + d = tn T → d < kf → RD2 (s_X6_never_L4 kf acc (zi p) c) (s_X7_never_L4 kf acc (zi p) r) := by
  have hn := h.1.1
  intro d
  induction d with
  | zero =>
    intro kf p acc hi hkf
    obtain ⟨kf, rfl⟩ : ∃ z, kf = z + 1 := ⟨kf - 1, by omega⟩
    unfold s_X6_never_L4 s_X7_never_L4
    rw [h.2.1.1, h.2.2.1.1, if_pos (by rw [zi_len (by omega) (by omega)]; omega), if_pos (by rw [zi_len (by omega) (by omega)]; omega)]
    exact ⟨_, rfl, rfl⟩
  | succ d ih =>
    intro kf p acc hi hkf
    obtain ⟨kf, rfl⟩ : ∃ z, kf = z + 1 := ⟨kf - 1, by omega⟩
    unfold s_X6_never_L4 s_X7_never_L4
    rw [h.2.1.1, h.2.2.1.1, if_neg (by rw [zi_len (by omega) (by omega)]; omega), if_neg (by rw [zi_len (by omega) (by omega)]; omega), zi_s1]
    exact never_in h (show p < tn T by omega) (fun acc => ih kf (p + 1) acc (by omega) (by omega)) (tn T - (p + 1)) zF (p + 1) acc (by omega) (by unfold zF; omega)
theorem op_never (h : Rel T c r) : RD2 (s_X6_never c) (s_X7_never r) := by
  have hn := h.1.1
  unfold s_X6_never s_X7_never
  exact never_out h (tn T) zF 0 0 (by omega) (by unfold zF; omega)
end W5
