/-! FEWEST: colourings of sets of pairs -/
section ZB
def ind (cf : Nat → Nat → Bool) (x : Nat) : Prop := ∀ i j, x.testBit i = true → x.testBit j = true → i ≠ j → cf i j = false
def col (cf : Nat → Nat → Bool) (k x : Nat) : Prop := ∃ f : Nat → Nat, (∀ i, x.testBit i = true → f i < k) ∧ ∀ i j, x.testBit i = true → x.testBit j = true → i ≠ j → f i = f j → cf i j = false
def sub (y x : Nat) : Prop := ∀ i, y.testBit i = true → x.testBit i = true
variable {cf : Nat → Nat → Bool}
theorem tb_0 {x : Nat} (h : ∀ i, x.testBit i = false) : x = 0 := Nat.eq_of_testBit_eq (fun i => by rw [h, Nat.zero_testBit])
theorem col_0 {x : Nat} : col cf 0 x ↔ x = 0 := by
  constructor
  · rintro ⟨f, h, -⟩
    refine tb_0 (fun i => ?_)
    cases q : x.testBit i with
    | false => rfl
    | true => exact absurd (h i q) (Nat.not_lt_zero _)
  · rintro rfl
    exact ⟨fun _ => 0, fun i h => (by rw [Nat.zero_testBit] at h; cases h), fun i j h => (by rw [Nat.zero_testBit] at h; cases h)⟩
theorem col_1 {x : Nat} : col cf 1 x ↔ ind cf x := by
  constructor
  · rintro ⟨f, h1, h2⟩ i j hi hj hij
    exact h2 i j hi hj hij (by have := h1 i hi; have := h1 j hj; omega)
  · intro h
    exact ⟨fun _ => 0, fun _ _ => Nat.zero_lt_one, fun i j hi hj hij _ => h i j hi hj hij⟩
theorem col_mono {k k' x : Nat} (h : k ≤ k') (q : col cf k x) : col cf k' x := by
  obtain ⟨f, h1, h2⟩ := q
  exact ⟨f, fun i hi => Nat.lt_of_lt_of_le (h1 i hi) h, h2⟩
theorem col_10 {x : Nat} (h : x < 1024) : col cf 10 x := by
  refine ⟨fun i => i, fun i hi => ?_, fun i j _ _ hij e => absurd e hij⟩
  by_cases w : i < 10
  · exact w
  · rw [Nat.testBit_lt_two_pow (Nat.lt_of_lt_of_le h (Nat.pow_le_pow_right (n := 2) (by omega) (show 10 ≤ i by omega)))] at hi
    cases hi
theorem ind_sub {x y : Nat} (h : sub y x) (q : ind cf x) : ind cf y := fun i j hi hj => q i j (h i hi) (h j hj)
/-- one colour taken away: that of p -/
theorem col_step {k x p : Nat} (hp : x.testBit p = true) : col cf (k + 1) x ↔ ∃ y, sub y x ∧ y.testBit p = true ∧ ind cf y ∧ col cf k (andn x y) := by
  constructor
  · rintro ⟨f, h1, h2⟩
    have hx : ∀ i, x.testBit i = true → i < x + 1 := fun i hi => by
      by_cases w : i < x + 1
      · exact w
      · have hlt : x < 2 ^ i := Nat.lt_of_lt_of_le (Nat.lt_two_pow_self (n := x)) (Nat.pow_le_pow_right (by omega) (by omega))
        rw [Nat.testBit_lt_two_pow hlt] at hi; cases hi
    have hy : ∀ i, (bset (fun i => x.testBit i && decide (f i = f p)) (x + 1)).testBit i = (x.testBit i && decide (f i = f p)) := fun i => by
      rw [bset_test]
      cases q : x.testBit i with
      | false => rw [Bool.false_and, Bool.and_false]
      | true => rw [decide_eq_true (hx i q), Bool.true_and]
    refine ⟨bset (fun i => x.testBit i && decide (f i = f p)) (x + 1), fun i hi => ?_, ?_, fun i j hi hj hij => ?_, fun i => if f i = k then f p else f i, fun i hi => ?_, fun i j hi hj hij e => ?_⟩
    · rw [hy] at hi; exact (Bool.and_eq_true_iff.mp hi).1
    · rw [hy, hp, decide_eq_true rfl]; rfl
    · rw [hy] at hi hj
      obtain ⟨i1, i2⟩ := Bool.and_eq_true_iff.mp hi
      obtain ⟨j1, j2⟩ := Bool.and_eq_true_iff.mp hj
      exact h2 i j i1 j1 hij ((of_decide_eq_true i2).trans (of_decide_eq_true j2).symm)
    · rw [andn_test, hy] at hi
      obtain ⟨i1, i2⟩ := Bool.and_eq_true_iff.mp hi
      rw [i1, Bool.true_and] at i2
      have i3 : f i ≠ f p := fun w => by rw [decide_eq_true w] at i2; cases i2
      have i4 := h1 i i1
      have i5 := h1 p hp
      show (if f i = k then f p else f i) < k
      by_cases w : f i = k
      · rw [if_pos w]; omega
      · rw [if_neg w]; omega
    · rw [andn_test, hy] at hi hj
      obtain ⟨i1, i2⟩ := Bool.and_eq_true_iff.mp hi
      obtain ⟨j1, j2⟩ := Bool.and_eq_true_iff.mp hj
      rw [i1, Bool.true_and] at i2
      rw [j1, Bool.true_and] at j2
      have i3 : f i ≠ f p := fun w => by rw [decide_eq_true w] at i2; cases i2
      have j3 : f j ≠ f p := fun w => by rw [decide_eq_true w] at j2; cases j2
      refine h2 i j i1 j1 hij ?_
      have e' : (if f i = k then f p else f i) = (if f j = k then f p else f j) := e
      by_cases w : f i = k
      · by_cases v : f j = k
        · rw [w, v]
        · rw [if_pos w, if_neg v] at e'; exact absurd e'.symm j3
      · by_cases v : f j = k
        · rw [if_neg w, if_pos v] at e'; exact absurd e' i3
        · rw [if_neg w, if_neg v] at e'; exact e'
  · rintro ⟨y, hy, -, hi, f, h1, h2⟩
    have hr : ∀ i, x.testBit i = true → y.testBit i = false → (andn x y).testBit i = true := fun i a b => by rw [andn_test, a, b]; rfl
    refine ⟨fun i => if y.testBit i = true then k else f i, fun i a => ?_, fun i j a b hij e => ?_⟩
    · show (if y.testBit i = true then k else f i) < k + 1
      cases q : y.testBit i with
      | true => rw [if_pos rfl]; omega
      | false => rw [if_neg (by simp)]; have := h1 i (hr i a q); omega
    · have e' : (if y.testBit i = true then k else f i) = (if y.testBit j = true then k else f j) := e
      cases q : y.testBit i with
      | true =>
        cases q' : y.testBit j with
        | true => exact hi i j q q' hij
        | false =>
          rw [q, q', if_pos rfl, if_neg (by simp)] at e'
          have := h1 j (hr j b q'); omega
      | false =>
        cases q' : y.testBit j with
        | true =>
          rw [q, q', if_neg (by simp), if_pos rfl] at e'
          have := h1 i (hr i a q); omega
        | false =>
          rw [q, q', if_neg (by simp), if_neg (by simp)] at e'
          exact h2 i j (hr i a q) (hr j b q') hij e'
/-- v is the fewest colours of x -/
def fsQ (cf : Nat → Nat → Bool) (x v : Nat) : Prop := ∀ k, v ≤ k ↔ col cf k x
theorem fsQ_eq {x v w : Nat} (h : fsQ cf x v) (h' : fsQ cf x w) : v = w := Nat.le_antisymm ((h w).mpr ((h' w).mp (Nat.le_refl _))) ((h' v).mpr ((h v).mp (Nat.le_refl _)))
theorem fsQ_0 : fsQ cf 0 0 := fun k => ⟨fun _ => col_mono (Nat.zero_le _) (col_0.mpr rfl), fun _ => Nat.zero_le _⟩
theorem fsQ_10 {x v : Nat} (h : fsQ cf x v) (hx : x < 1024) : v ≤ 10 := (h 10).mpr (col_10 hx)
theorem fsQ_1 {x v : Nat} (h : fsQ cf x v) (hx : x ≠ 0) : v = 1 ↔ ind cf x := by
  have h0 : ¬ v ≤ 0 := fun w => hx (col_0.mp ((h 0).mp w))
  rw [← col_1, ← h 1]; omega
theorem fsQ_of {x v : Nat} (hx : x < 1024) (h : ∀ k, k ≤ 10 → (v ≤ k ↔ col cf k x)) : fsQ cf x v := fun k => by
  by_cases hk : k ≤ 10
  · exact h k hk
  · have h10 := (h 10 (Nat.le_refl _)).mpr (col_10 hx)
    exact ⟨fun _ => col_mono (by omega) (col_10 hx), fun _ => by omega⟩
/-- the next subset downwards -/
theorem sub_half {y x : Nat} (h : sub y x) : sub (y / 2) (x / 2) := fun i hi => by
  rw [Nat.testBit_div_two] at hi ⊢; exact h _ hi
theorem sub_mod {y x : Nat} (h : sub y x) : y % 2 ≤ x % 2 := by
  have := h 0
  rw [Nat.testBit_zero, Nat.testBit_zero, decide_eq_true_eq, decide_eq_true_eq] at this
  omega
theorem and_half (a b : Nat) : a &&& b = 2 * ((a / 2) &&& (b / 2)) + (if a % 2 = 1 ∧ b % 2 = 1 then 1 else 0) := by
  have h1 : (a &&& b) / 2 = (a / 2) &&& (b / 2) := Nat.eq_of_testBit_eq (fun i => by rw [Nat.testBit_div_two, Nat.testBit_and, Nat.testBit_and, Nat.testBit_div_two, Nat.testBit_div_two])
  have h2 : (a &&& b) % 2 = (if a % 2 = 1 ∧ b % 2 = 1 then 1 else 0) := by
    have h3 : ((a &&& b).testBit 0) = (a.testBit 0 && b.testBit 0) := Nat.testBit_and _ _ _
    rw [Nat.testBit_zero, Nat.testBit_zero, Nat.testBit_zero] at h3
    have ha := Nat.mod_two_eq_zero_or_one a
    have hb := Nat.mod_two_eq_zero_or_one b
    have hc := Nat.mod_two_eq_zero_or_one (a &&& b)
    rcases ha with ha | ha <;> rcases hb with hb | hb <;> rcases hc with hc | hc <;> simp [ha, hb, hc] at h3 ⊢
  rw [← h1, ← h2]; omega
theorem and_sub {y x : Nat} (h : sub y x) : y &&& x = y := Nat.eq_of_testBit_eq (fun i => by
  rw [Nat.testBit_and]
  cases q : y.testBit i with
  | false => rfl
  | true => rw [h i q]; rfl)
theorem sub_next : ∀ (n s p y : Nat), s < 2 ^ n → sub p s → sub y s → y < p → y ≤ (p - 1) &&& s
  | 0, s, p, y, hs, hp, hy, hlt => by
    have : p &&& s = p := and_sub hp
    have h2 : p &&& s ≤ s := Nat.and_le_right
    omega
  | n + 1, s, p, y, hs, hp, hy, hlt => by
    have hs2 : s / 2 < 2 ^ n := by rw [Nat.pow_succ] at hs; omega
    have ih := sub_next n (s / 2) (p / 2) (y / 2) hs2 (sub_half hp) (sub_half hy)
    have hy0 := sub_mod hy
    have hp0 := sub_mod hp
    rw [and_half (p - 1) s]
    rcases Nat.mod_two_eq_zero_or_one p with e | e
    · have e1 : (p - 1) / 2 = p / 2 - 1 := by omega
      have e2 : (p - 1) % 2 = 1 := by omega
      have := ih (by omega)
      rw [e1, e2]
      by_cases w : s % 2 = 1
      · rw [if_pos ⟨rfl, w⟩]; omega
      · rw [if_neg (fun q => w q.2)]; omega
    · have e1 : (p - 1) / 2 = p / 2 := by omega
      have e2 : ¬ (p - 1) % 2 = 1 := by omega
      rw [e1, and_sub (sub_half hp), if_neg (fun q => e2 q.1)]; omega
theorem andn_0 {a b : Nat} : andn a b = 0 ↔ sub a b := by
  constructor
  · intro h i hi
    have := congrArg (fun q : Nat => q.testBit i) h
    simp only [andn_test, Nat.zero_testBit, hi, Bool.true_and] at this
    cases q : b.testBit i with
    | true => rfl
    | false => rw [q] at this; cases this
  · intro h
    refine tb_0 (fun i => ?_)
    rw [andn_test]
    cases q : a.testBit i with
    | false => rfl
    | true => rw [h i q]; rfl
theorem sub_le {y x : Nat} (h : sub y x) : y ≤ x := by
  have h1 := and_sub h
  have h2 : y &&& x ≤ x := Nat.and_le_right
  omega
theorem or_add {l s : Nat} (h : s < 2 ^ l) : 2 ^ l ||| s = 2 ^ l + s := by
  have := Nat.two_pow_add_eq_or_of_lt h 1
  rw [Nat.mul_one] at this
  exact this.symm
theorem top_test {l s : Nat} (h : s < 2 ^ l) (i : Nat) : (2 ^ l + s).testBit i = (decide (l = i) || s.testBit i) := by
  rw [← or_add h, Nat.testBit_or, Nat.testBit_two_pow]
theorem sub_refl (x : Nat) : sub x x := fun _ h => h
end ZB
