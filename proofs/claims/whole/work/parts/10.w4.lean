/-! what is BARRED, what was HAD: put on both sides -/
def flp (B : Nat → Nat) (g h : Nat) : Nat → Nat := fun i => if i = g then B g ^^^ 2 ^ h else if i = h then B h ^^^ 2 ^ g else B i
theorem flp_test (B : Nat → Nat) {g h : Nat} (e : g ≠ h) (x y : Nat) : (flp B g h x).testBit y = ((B x).testBit y != (decide (x = g ∧ y = h) || decide (x = h ∧ y = g))) := by
  unfold flp
  by_cases x1 : x = g
  · subst x1
    rw [if_pos rfl, Nat.testBit_xor, Nat.testBit_two_pow, decide_eq_false (show ¬ (x = h ∧ y = x) from fun w => e w.1), Bool.or_false]
    by_cases y1 : y = h
    · rw [decide_eq_true (show x = x ∧ y = h from ⟨rfl, y1⟩), decide_eq_true y1.symm]
    · rw [decide_eq_false (show ¬ (x = x ∧ y = h) from fun w => y1 w.2), decide_eq_false (fun w => y1 (Eq.symm w))]
  · rw [if_neg x1, decide_eq_false (show ¬ (x = g ∧ y = h) from fun w => x1 w.1), Bool.false_or]
    by_cases x2 : x = h
    · subst x2
      rw [if_pos rfl, Nat.testBit_xor, Nat.testBit_two_pow]
      by_cases y1 : y = g
      · rw [decide_eq_true (show x = x ∧ y = g from ⟨rfl, y1⟩), decide_eq_true y1.symm]
      · rw [decide_eq_false (show ¬ (x = x ∧ y = g) from fun w => y1 w.2), decide_eq_false (fun w => y1 (Eq.symm w))]
    · rw [if_neg x2, decide_eq_false (show ¬ (x = h ∧ y = g) from fun w => x2 w.1), Bool.bne_false]
theorem flp_lt {B : Nat → Nat} {g h n : Nat} (hg : g < n) (hh : h < n) (hB : ∀ i, i < n → B i < 2 ^ n) : ∀ i, i < n → flp B g h i < 2 ^ n := by
  intro i hi
  unfold flp
  split
  · exact Nat.xor_lt_two_pow (hB g hg) (Nat.pow_lt_pow_right (by omega) hh)
  · split
    · exact Nat.xor_lt_two_pow (hB h hh) (Nat.pow_lt_pow_right (by omega) hg)
    · exact hB i hi
theorem flp_sym {B : Nat → Nat} {g h x y : Nat} (e : g ≠ h) (s : (B x).testBit y = (B y).testBit x) : (flp B g h x).testBit y = (flp B g h y).testBit x := by
  rw [flp_test B e, flp_test B e, s]
  refine congrArg _ ?_
  rw [Bool.or_comm, show decide (x = h ∧ y = g) = decide (y = g ∧ x = h) from decide_eq_decide.mpr And.comm, show decide (x = g ∧ y = h) = decide (y = h ∧ x = g) from decide_eq_decide.mpr And.comm]
theorem flp_diag {B : Nat → Nat} {g h x : Nat} (e : g ≠ h) (s : (B x).testBit x = false) : (flp B g h x).testBit x = false := by
  rw [flp_test B e, s, decide_eq_false (show ¬ (x = g ∧ x = h) from fun w => e (w.1.symm.trans w.2)), decide_eq_false (show ¬ (x = h ∧ x = g) from fun w => e (w.2.symm.trans w.1))]
  rfl
def tBar (T : zTab) (g h : Nat) : zTab := (tn T, tz T, te T, tK T, tS T, tA T, flp (tB T) g h, tH T)
def tHad (T : zTab) (g h : Nat) : zTab := (tn T, tz T, te T, tK T, tS T, tA T, tB T, flp (tH T) g h)
section W4
variable {T : zTab} {c r : zMem} {g h : Nat}
theorem bar_ok (o : tOK T) (hg : g < tn T) (hh : h < tn T) (e : g ≠ h) : tOK (tBar T g h) := by
  obtain ⟨o1, o2, o3, o4, o5, o6, o7, o8⟩ := o
  exact ⟨o1, o2, o3, o4, fun i hi => ⟨(o5 i hi).1, (o5 i hi).2.1, (o5 i hi).2.2.1, flp_lt hg hh (fun i hi => (o5 i hi).2.2.2.1) i hi, (o5 i hi).2.2.2.2⟩, fun i j hi hj => ⟨flp_sym e (o6 i j hi hj).1, (o6 i j hi hj).2⟩, fun i hi => ⟨flp_diag e (o7 i hi).1, (o7 i hi).2⟩, o8⟩
theorem had_ok (o : tOK T) (hg : g < tn T) (hh : h < tn T) (e : g ≠ h) : tOK (tHad T g h) := by
  obtain ⟨o1, o2, o3, o4, o5, o6, o7, o8⟩ := o
  exact ⟨o1, o2, o3, o4, fun i hi => ⟨(o5 i hi).1, (o5 i hi).2.1, (o5 i hi).2.2.1, (o5 i hi).2.2.2.1, flp_lt hg hh (fun i hi => (o5 i hi).2.2.2.2) i hi⟩, fun i j hi hj => ⟨(o6 i j hi hj).1, flp_sym e (o6 i j hi hj).2⟩, fun i hi => ⟨(o7 i hi).1, flp_diag e (o7 i hi).2⟩, o8⟩
theorem p10 {i : Nat} (h : i < 10) : 2 ^ i < 1024 := Nat.pow_lt_pow_right (n := 10) (by omega) h
theorem mark6_C {t : Nat} (hT : tC t T c) (o : tOK T) (hg : g < tn T) (hh : h < tn T) (e : g ≠ h) (a : Int32) : (zo ((tH T g).testBit h) = a ∧ s_X5_mark_6 t t (zi g) (zi h) a c = some (0, c)) ∨ (¬ zo ((tH T g).testBit h) = a ∧ ∃ c', s_X5_mark_6 t t (zi g) (zi h) a c = some (1, c') ∧ tC t (tHad T g h) c' ∧ fr (fun x j _ => Nat.beq x 6 && Nat.beq j t) e0 c c') := by
  have hn := o.1
  obtain ⟨-, -, -, -, g5, -⟩ := o.g hg
  obtain ⟨-, -, -, -, h5, -⟩ := o.g hh
  have w1 := p10 (show g < 10 by omega)
  have w2 := p10 (show h < 10 by omega)
  obtain ⟨a1, a2, a3, a4⟩ := hT
  obtain ⟨-, -, -, -, b5⟩ := a4 g hg
  obtain ⟨-, -, -, -, d5⟩ := a4 h hh
  have hi : ∀ y : Int32, (if zo y.toBitVec.msb = 0 then (0 : Int32) else 0) = 0 := fun y => by split <;> rfl
  unfold s_X5_mark_6
  rw [chk_zn (show g < 10 by omega) (by decide), ix_zn (show g < 2147483648 by omega), b5, zi_bit (by omega) (by omega)]
  have hx : ∀ b : Bool, (if zo b = 0 then s_X5_mark_6_L15 t (zi g) (zi h) a 0 c else s_X5_mark_6_L15 t (zi g) (zi h) a 1 c) = s_X5_mark_6_L15 t (zi g) (zi h) a (zo b) c := fun b => by cases b <;> rfl
  rw [hx]
  unfold s_X5_mark_6_L15
  by_cases q : zo ((tH T g).testBit h) = a
  · rw [if_pos q]; exact Or.inl ⟨q, rfl⟩
  · refine Or.inr ⟨q, ?_⟩
    rw [if_neg q, chk_zn (show g < 10 by omega) (by decide), bit_C (by omega), zr_some, zlet_eq, chk_zn (show h < 10 by omega) (by decide), bit_C (by omega), zr_some, zlet_eq, ix_zn (show g < 2147483648 by omega), ix_zn (show h < 2147483648 by omega), wI_1, if_neg (fun z => e z.2.2.symm), b5, d5, zi_xor (by omega) (by omega), zi_xor (by omega) (by omega)]
    refine ⟨_, rfl, ⟨by simp [wI_1, a1, tHad], by simp [wI_1, a2, tHad], by simp [wI_1, a3, tHad], fun i hi => ?_⟩, fr_wI (fr_wI (fr_refl _ _ _) (by simp)) (by simp)⟩
    obtain ⟨c1, c2, c3, c4, c5⟩ := a4 i hi
    refine ⟨by simp [wI_1, c1, tHad], by simp [wI_1, c2, tHad], by simp [wI_1, c3, tHad], by simp [wI_1, c4, tHad], ?_⟩
    show _ = zi (flp (tH T) g h i : Nat)
    unfold flp
    by_cases i1 : i = g
    · subst i1; simp [wI_1, e]
    · by_cases i2 : i = h
      · subst i2; simp [wI_1, i1]
      · simp [wI_1, i1, i2, c5]
theorem mark5_C {t : Nat} (hT : tC t T c) (o : tOK T) (hg : g < tn T) (hh : h < tn T) (e : g ≠ h) (a : Int32) : (zo ((tB T g).testBit h) = a ∧ s_X5_mark_5 t t (zi g) (zi h) a c = some (0, c)) ∨ (¬ zo ((tB T g).testBit h) = a ∧ ∃ c', s_X5_mark_5 t t (zi g) (zi h) a c = some (1, c') ∧ tC t (tBar T g h) c' ∧ fr (fun x j _ => Nat.beq x 5 && Nat.beq j t) e0 c c') := by
  have hn := o.1
  obtain ⟨-, -, -, g5, -⟩ := o.g hg
  obtain ⟨-, -, -, h5, -⟩ := o.g hh
  have w1 := p10 (show g < 10 by omega)
  have w2 := p10 (show h < 10 by omega)
  obtain ⟨a1, a2, a3, a4⟩ := hT
  obtain ⟨-, -, -, b5, -⟩ := a4 g hg
  obtain ⟨-, -, -, d5, -⟩ := a4 h hh
  unfold s_X5_mark_5
  rw [chk_zn (show g < 10 by omega) (by decide), ix_zn (show g < 2147483648 by omega), b5, zi_bit (by omega) (by omega)]
  have hx : ∀ b : Bool, (if zo b = 0 then s_X5_mark_5_L15 t (zi g) (zi h) a 0 c else s_X5_mark_5_L15 t (zi g) (zi h) a 1 c) = s_X5_mark_5_L15 t (zi g) (zi h) a (zo b) c := fun b => by cases b <;> rfl
  rw [hx]
  unfold s_X5_mark_5_L15
  by_cases q : zo ((tB T g).testBit h) = a
  · rw [if_pos q]; exact Or.inl ⟨q, rfl⟩
  · refine Or.inr ⟨q, ?_⟩
    rw [if_neg q, chk_zn (show g < 10 by omega) (by decide), bit_C (by omega), zr_some, zlet_eq, chk_zn (show h < 10 by omega) (by decide), bit_C (by omega), zr_some, zlet_eq, ix_zn (show g < 2147483648 by omega), ix_zn (show h < 2147483648 by omega), wI_1, if_neg (fun z => e z.2.2.symm), b5, d5, zi_xor (by omega) (by omega), zi_xor (by omega) (by omega)]
    refine ⟨_, rfl, ⟨by simp [wI_1, a1, tBar], by simp [wI_1, a2, tBar], by simp [wI_1, a3, tBar], fun i hi => ?_⟩, fr_wI (fr_wI (fr_refl _ _ _) (by simp)) (by simp)⟩
    obtain ⟨c1, c2, c3, c4, c5⟩ := a4 i hi
    refine ⟨by simp [wI_1, c1, tBar], by simp [wI_1, c2, tBar], by simp [wI_1, c3, tBar], ?_, by simp [wI_1, c5, tBar]⟩
    show _ = zi (flp (tB T) g h i : Nat)
    unfold flp
    by_cases i1 : i = g
    · subst i1; simp [wI_1, e]
    · by_cases i2 : i = h
      · subst i2; simp [wI_1, i1]
      · simp [wI_1, i1, i2, c4]
theorem puts70_R (hT : tR T r) (o : tOK T) (hg : g < tn T) (hh : h < tn T) (e : g ≠ h) (a : Int32) : (zo ((tH T g).testBit h) = a ∧ s_X7_puts_70 (zi g) (zi h) a r = some (0, r)) ∨ (¬ zo ((tH T g).testBit h) = a ∧ ∃ r', s_X7_puts_70 (zi g) (zi h) a r = some (1, r') ∧ tR (tHad T g h) r' ∧ fr (fun x _ _ => Nat.beq x 70) e0 r r') := by
  have hn := o.1
  obtain ⟨-, -, -, -, g5, -⟩ := o.g hg
  obtain ⟨-, -, -, -, h5, -⟩ := o.g hh
  have w1 := p10 (show g < 10 by omega)
  have w2 := p10 (show h < 10 by omega)
  obtain ⟨a1, a2, a3, a4⟩ := hT
  obtain ⟨-, -, -, -, b5⟩ := a4 g hg
  obtain ⟨-, -, -, -, d5⟩ := a4 h hh
  unfold s_X7_puts_70
  rw [chk_zn (show g < 10 by omega) (by decide), ix_zn (show g < 2147483648 by omega), b5, isIn_R (by omega) (by omega), zr_some]
  by_cases q : zo ((tH T g).testBit h) = a
  · rw [if_pos q]; exact Or.inl ⟨q, rfl⟩
  · refine Or.inr ⟨q, ?_⟩
    rw [if_neg q, zi_shl1 (by omega), zlet_eq, chk_zn (show h < 10 by omega) (by decide), zi_shl1 (by omega), zlet_eq, ix_zn (show h < 2147483648 by omega), wI_1, if_neg (fun z => e z.2.2.symm), d5, zi_xor (by omega) (by omega), zi_xor (by omega) (by omega)]
    refine ⟨_, rfl, ⟨by simp [wI_1, a1, tHad], by simp [wI_1, a2, tHad], by simp [wI_1, a3, tHad], fun i hi => ?_⟩, fr_wI (fr_wI (fr_refl _ _ _) (by simp)) (by simp)⟩
    obtain ⟨c1, c2, c3, c4, c5⟩ := a4 i hi
    refine ⟨by simp [wI_1, c1, tHad], by simp [wI_1, c2, tHad], by simp [wI_1, c3, tHad], by simp [wI_1, c4, tHad], ?_⟩
    show _ = zi (flp (tH T) g h i : Nat)
    unfold flp
    by_cases i1 : i = g
    · subst i1; simp [wI_1, e]
    · by_cases i2 : i = h
      · subst i2; simp [wI_1, i1]
      · simp [wI_1, i1, i2, c5]
theorem puts69_R (hT : tR T r) (o : tOK T) (hg : g < tn T) (hh : h < tn T) (e : g ≠ h) (a : Int32) : (zo ((tB T g).testBit h) = a ∧ s_X7_puts_69 (zi g) (zi h) a r = some (0, r)) ∨ (¬ zo ((tB T g).testBit h) = a ∧ ∃ r', s_X7_puts_69 (zi g) (zi h) a r = some (1, r') ∧ tR (tBar T g h) r' ∧ fr (fun x _ _ => Nat.beq x 69) e0 r r') := by
  have hn := o.1
  obtain ⟨-, -, -, g5, -⟩ := o.g hg
  obtain ⟨-, -, -, h5, -⟩ := o.g hh
  have w1 := p10 (show g < 10 by omega)
  have w2 := p10 (show h < 10 by omega)
  obtain ⟨a1, a2, a3, a4⟩ := hT
  obtain ⟨-, -, -, b5, -⟩ := a4 g hg
  obtain ⟨-, -, -, d5, -⟩ := a4 h hh
  unfold s_X7_puts_69
  rw [chk_zn (show g < 10 by omega) (by decide), ix_zn (show g < 2147483648 by omega), b5, isIn_R (by omega) (by omega), zr_some]
  by_cases q : zo ((tB T g).testBit h) = a
  · rw [if_pos q]; exact Or.inl ⟨q, rfl⟩
  · refine Or.inr ⟨q, ?_⟩
    rw [if_neg q, zi_shl1 (by omega), zlet_eq, chk_zn (show h < 10 by omega) (by decide), zi_shl1 (by omega), zlet_eq, ix_zn (show h < 2147483648 by omega), wI_1, if_neg (fun z => e z.2.2.symm), d5, zi_xor (by omega) (by omega), zi_xor (by omega) (by omega)]
    refine ⟨_, rfl, ⟨by simp [wI_1, a1, tBar], by simp [wI_1, a2, tBar], by simp [wI_1, a3, tBar], fun i hi => ?_⟩, fr_wI (fr_wI (fr_refl _ _ _) (by simp)) (by simp)⟩
    obtain ⟨c1, c2, c3, c4, c5⟩ := a4 i hi
    refine ⟨by simp [wI_1, c1, tBar], by simp [wI_1, c2, tBar], by simp [wI_1, c3, tBar], ?_, by simp [wI_1, c5, tBar]⟩
    show _ = zi (flp (tB T) g h i : Nat)
    unfold flp
    by_cases i1 : i = g
    · subst i1; simp [wI_1, e]
    · by_cases i2 : i = h
      · subst i2; simp [wI_1, i1]
      · simp [wI_1, i1, i2, c4]
/-- frames of one class of cells -/
theorem fr_mI {x t : Nat} {c c' : zMem} (hx : 1 ≤ x ∧ x ≤ 6) (q : fr (fun y j _ => Nat.beq y x && Nat.beq j 0) e0 c c') : fr mI sL c c' := fr_mono q (fun y j k w => by
  by_cases e : y = x ∧ j = 0
  · obtain ⟨rfl, rfl⟩ := e
    have : mI y 0 k = true := by
      unfold mI
      rw [Nat.ble_eq.mpr hx.1, Nat.ble_eq.mpr hx.2]; simp
    rw [this] at w; cases w
  · by_cases e1 : y = x
    · rw [beqf (fun z => e ⟨e1, z⟩), Bool.and_false]
    · rw [beqf e1]; rfl) (fun _ _ _ _ => rfl)
theorem fr_mR {x : Nat} {c c' : zMem} (hx : 66 ≤ x ∧ x ≤ 70) (q : fr (fun y _ _ => Nat.beq y x) e0 c c') : fr mR rL c c' := fr_mono q (fun y j k w => by
  by_cases e : y = x
  · subst e
    have : mR y j k = true := by
      unfold mR
      rw [Nat.ble_eq.mpr hx.1, Nat.ble_eq.mpr hx.2]; simp
    rw [this] at w; cases w
  · exact beqf e) (fun _ _ _ _ => rfl)
theorem op_bar (h : Rel T c r) (a b x : Int32) : OK2 (s_X6_bar a b x c) (s_X7_bar a b x r) := by
  unfold s_X6_bar s_X7_bar
  refine ok2_pair h a b (fun x hx => if_neg hx) (fun x hx => if_neg hx) (fun p q p1 q1 e ha hb => ?_)
  subst ha hb
  rw [if_pos rfl, if_pos rfl]
  rcases mark5_C h.2.1 h.1 p1 q1 e x with ⟨u, m1⟩ | ⟨u, c', m1, m2, m3⟩
  · rcases puts69_R h.2.2.1 h.1 p1 q1 e x with ⟨u', n1⟩ | ⟨u', n1⟩
    · rw [m1, n1]; exact ok2_same h rfl
    · exact absurd u u'
  · rcases puts69_R h.2.2.1 h.1 p1 q1 e x with ⟨u', n1⟩ | ⟨u', r', n1, n2, n3⟩
    · exact absurd u' u
    · rw [m1, n1]
      exact ⟨_, _, _, _, rfl, rfl, Rel_tab (fr_mI (t := 0) (by omega) m3) (fr_mR (by omega) n3) h (bar_ok h.1 p1 q1 e) m2 n2 (cntQ_fr m3 n3 (fun _ _ => rfl) ⟨rfl, rfl, rfl⟩ h.2.2.2.1) (Nat.le_refl _)⟩
theorem op_had (h : Rel T c r) (a b x : Int32) : OK2 (s_X6_had a b x c) (s_X7_had a b x r) := by
  unfold s_X6_had s_X7_had
  refine ok2_pair h a b (fun x hx => if_neg hx) (fun x hx => if_neg hx) (fun p q p1 q1 e ha hb => ?_)
  subst ha hb
  rw [if_pos rfl, if_pos rfl]
  rcases mark6_C h.2.1 h.1 p1 q1 e x with ⟨u, m1⟩ | ⟨u, c', m1, m2, m3⟩
  · rcases puts70_R h.2.2.1 h.1 p1 q1 e x with ⟨u', n1⟩ | ⟨u', n1⟩
    · rw [m1, n1]; exact ok2_same h rfl
    · exact absurd u u'
  · rcases puts70_R h.2.2.1 h.1 p1 q1 e x with ⟨u', n1⟩ | ⟨u', r', n1, n2, n3⟩
    · exact absurd u' u
    · rw [m1, n1]
      exact ⟨_, _, _, _, rfl, rfl, Rel_tab (fr_mI (t := 0) (by omega) m3) (fr_mR (by omega) n3) h (had_ok h.1 p1 q1 e) m2 n2 (cntQ_fr m3 n3 (fun _ _ => rfl) ⟨rfl, rfl, rfl⟩ h.2.2.2.1) (Nat.le_refl _)⟩
end W4
