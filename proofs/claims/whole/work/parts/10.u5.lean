/-! sets of small numbers as bits, counts -/
def bset (p : Nat → Bool) : Nat → Nat
  | 0 => 0
  | i + 1 => bset p i + (bif p i then 2 ^ i else 0)
def bcnt (p : Nat → Bool) : Nat → Nat
  | 0 => 0
  | i + 1 => bcnt p i + (bif p i then 1 else 0)
theorem bset_lt (p : Nat → Bool) : ∀ n, bset p n < 2 ^ n
  | 0 => by simp [bset]
  | n + 1 => by
    have h := bset_lt p n
    rw [bset, Nat.pow_succ]
    cases p n <;> simp <;> omega
theorem bset_lt' (p : Nat → Bool) {n k : Nat} (h : n ≤ k) : bset p n < 2 ^ k := Nat.lt_of_lt_of_le (bset_lt p n) (Nat.pow_le_pow_right (by omega) h)
theorem bset_or (p : Nat → Bool) (n : Nat) : bset p n ||| 2 ^ n = bset p n + 2 ^ n := by
  have h := Nat.two_pow_add_eq_or_of_lt (bset_lt p n) 1
  rw [Nat.mul_one] at h
  rw [Nat.or_comm, ← h, Nat.add_comm]
theorem bset_test (p : Nat → Bool) : ∀ n i, (bset p n).testBit i = (decide (i < n) && p i)
  | 0, i => by simp [bset]
  | n + 1, i => by
    have h := bset_test p n i
    rw [bset]
    cases hp : p n with
    | false =>
      rw [cond_false, Nat.add_zero, h]
      by_cases q : i = n
      · subst q; simp [hp]
      · by_cases q2 : i < n
        · rw [decide_eq_true q2, decide_eq_true (by omega)]
        · rw [decide_eq_false q2, decide_eq_false (by omega)]
    | true =>
      rw [cond_true, ← bset_or, Nat.testBit_or, h, Nat.testBit_two_pow]
      by_cases q : n = i
      · subst q; simp [hp]
      · by_cases q2 : i < n
        · rw [decide_eq_true q2, decide_eq_true (show i < n + 1 by omega), decide_eq_false q, Bool.or_false]
        · rw [decide_eq_false q2, decide_eq_false (show ¬ i < n + 1 by omega), decide_eq_false q]; rfl
theorem bset_congr {p q : Nat → Bool} : ∀ n, (∀ i, i < n → p i = q i) → bset p n = bset q n
  | 0, _ => rfl
  | n + 1, h => by rw [bset, bset, bset_congr n (fun i hi => h i (by omega)), h n (by omega)]
theorem bcnt_congr {p q : Nat → Bool} : ∀ n, (∀ i, i < n → p i = q i) → bcnt p n = bcnt q n
  | 0, _ => rfl
  | n + 1, h => by rw [bcnt, bcnt, bcnt_congr n (fun i hi => h i (by omega)), h n (by omega)]
theorem bcnt_le (p : Nat → Bool) : ∀ n, bcnt p n ≤ n
  | 0 => Nat.le_refl _
  | n + 1 => by have := bcnt_le p n; rw [bcnt]; cases p n <;> simp <;> omega
theorem bcnt_ext (p : Nat → Bool) {n : Nat} : ∀ k, (∀ i, n ≤ i → p i = false) → bcnt p (n + k) = bcnt p n
  | 0, _ => rfl
  | k + 1, h => by rw [← Nat.add_assoc, bcnt, bcnt_ext p k h, h (n + k) (by omega)]; rfl
theorem bset_bits : ∀ (n : Nat) (b : Nat), b < 2 ^ n → bset b.testBit n = b := by
  intro n b hb
  apply Nat.eq_of_testBit_eq
  intro i
  rw [bset_test]
  by_cases q : i < n
  · rw [decide_eq_true q, Bool.true_and]
  · rw [decide_eq_false q, Bool.false_and, Nat.testBit_lt_two_pow (Nat.lt_of_lt_of_le hb (Nat.pow_le_pow_right (by omega) (by omega)))]
theorem bcnt_bset (p : Nat → Bool) {n : Nat} (hn : n ≤ 10) : bcnt (bset p n).testBit 10 = bcnt p n := by
  have h1 : bcnt (bset p n).testBit (n + (10 - n)) = bcnt (bset p n).testBit n := bcnt_ext _ _ (fun i hi => by rw [bset_test, decide_eq_false (by omega)]; rfl)
  rw [show n + (10 - n) = 10 by omega] at h1
  rw [h1]
  exact bcnt_congr n (fun i hi => by rw [bset_test, decide_eq_true hi]; rfl)
set_option maxRecDepth 20000 in
theorem bitCount_all : ∀ b, b < 1024 → s_J6_bitCount_0f7a4 (zi (b : Nat)) = some (zi (bcnt (Nat.testBit b) 10 : Nat)) := by decide +kernel
theorem bitCount_C {p : Nat → Bool} {n : Nat} (hn : n ≤ 10) : s_J6_bitCount_0f7a4 (zi (bset p n)) = some (zi (bcnt p n)) := by
  rw [bitCount_all _ (bset_lt' p hn), bcnt_bset p hn]
theorem bcnt_succ (p : Nat → Bool) (n : Nat) : bcnt p (n + 1) = bcnt p n + (bif p n then 1 else 0) := rfl
theorem bcnt_mono (p : Nat → Bool) (n : Nat) : ∀ d, bcnt p n ≤ bcnt p (n + d)
  | 0 => Nat.le_refl _
  | d + 1 => by
    have := bcnt_mono p n d
    have e := bcnt_succ p (n + d)
    rw [← Nat.add_assoc, e]; omega
theorem bcnt_mono' (p : Nat → Bool) {n k : Nat} (h : n ≤ k) : bcnt p n ≤ bcnt p k := by
  have := bcnt_mono p n (k - n)
  rwa [show n + (k - n) = k by omega] at this
theorem count_loop : ∀ (d k i : Nat) (b : Nat), i + d = 10 → d < k → b < 1024 → s_X7_count_L4 k (zi b) (zi (bcnt b.testBit i)) (zi i) = some (zi (bcnt b.testBit 10)) := by
  intro d
  induction d with
  | zero =>
    intro k i b hi hk hb
    obtain ⟨k, rfl⟩ : ∃ q, k = q + 1 := ⟨k - 1, by omega⟩
    unfold s_X7_count_L4
    have : i = 10 := by omega
    subst this
    simp (disch := omega) only [zi_bit, zi_bitn, chk_zn, ix_zn, zr_some, zb_some, zlet_eq, zi_addn, zi_muln, zi_ltn, zi_len, zi_eqn, zif0, zif1, zif0n, zif1n, zo_t, zo_f, cond_true, cond_false, if_true, if_false, ln_0, ln_1, ln_2, ln_3, ln_4, ln_5, ln_6, ln_7, ln_8, ln_9, ln_10, ln_11, ln_12, ln_13, ln_14, ln_15, ln_16, ln_17, ln_18, ln_19, ln_20, ln_21, ln_22, ln_23, ln_24, ln_25, ln_30, ln_32, ln_33, ln_34, ln_36, ln_37, ln_40, ln_41, ln_45, ln_48, ln_50, ln_51, ln_57, ln_59, ln_60, ln_63, ln_64, ln_65, ln_66, ln_67, ln_68, ln_69, ln_70, ln_71, ln_72, ln_73, ln_74, ln_75, ln_76, ln_77, ln_78, ln_79, ln_80, ln_81, ln_82, ln_83, ln_84, ln_85, ln_86, ln_87, ln_88, ln_98, ln_100, ln_101, ln_103, ln_104, ln_109, ln_115, ln_127, ln_160, ln_1023, ln_1024, ln_1280]
    rfl
  | succ d ih =>
    intro k i b hi hk hb
    obtain ⟨k, rfl⟩ : ∃ q, k = q + 1 := ⟨k - 1, by omega⟩
    unfold s_X7_count_L4
    have hl := bcnt_le b.testBit i
    simp (disch := omega) only [zi_bit, zi_bit, zi_bitn, chk_zn, ix_zn, zr_some, zb_some, zlet_eq, zi_addn, zi_muln, zi_ltn, zi_len, zi_eqn, zif0, zif1, zif0n, zif1n, zo_t, zo_f, cond_true, cond_false, if_true, if_false, ln_0, ln_1, ln_2, ln_3, ln_4, ln_5, ln_6, ln_7, ln_8, ln_9, ln_10, ln_11, ln_12, ln_13, ln_14, ln_15, ln_16, ln_17, ln_18, ln_19, ln_20, ln_21, ln_22, ln_23, ln_24, ln_25, ln_30, ln_32, ln_33, ln_34, ln_36, ln_37, ln_40, ln_41, ln_45, ln_48, ln_50, ln_51, ln_57, ln_59, ln_60, ln_63, ln_64, ln_65, ln_66, ln_67, ln_68, ln_69, ln_70, ln_71, ln_72, ln_73, ln_74, ln_75, ln_76, ln_77, ln_78, ln_79, ln_80, ln_81, ln_82, ln_83, ln_84, ln_85, ln_86, ln_87, ln_88, ln_98, ln_100, ln_101, ln_103, ln_104, ln_109, ln_115, ln_127, ln_160, ln_1023, ln_1024, ln_1280]
    rw [if_neg (by omega), zo_zi]
    have e : (zi (bcnt b.testBit i : Int) + zi (bif b.testBit i then 1 else 0) : Int32) = zi (bcnt b.testBit (i + 1) : Nat) := by rw [bcnt_succ]; cases b.testBit i <;> exact zi_add _ _
    rw [e]
    exact ih k (i + 1) b (by omega) (by omega) hb
theorem count_all {b : Nat} (hb : b < 1024) : s_X7_count (zi b) = some (zi (bcnt b.testBit 10)) := by
  unfold s_X7_count
  exact count_loop 10 zF 0 b (by omega) (by decide) hb
theorem count_R {p : Nat → Bool} {n : Nat} (hn : n ≤ 10) : s_X7_count (zi (bset p n)) = some (zi (bcnt p n)) := by
  rw [count_all (bset_lt' p hn), bcnt_bset p hn]
section TE
variable {t : Nat} {T : zTab} {m : zMem} {g h : Nat}
theorem lacks_loop_C (hT : tC t T m) (hO : tOK T) (hg : g < tn T) : ∀ (d k i : Nat), i + d = tn T → d < k → s_X5_lacksOf_L4 k t (zi g) (zi (bset (wntT T g) i)) (zi i) m = some (zi (bset (wntT T g) (tn T))) := by
  have hn := hO.1
  intro d
  induction d with
  | zero =>
    intro k i hi hk
    obtain ⟨k, rfl⟩ : ∃ q, k = q + 1 := ⟨k - 1, by omega⟩
    unfold s_X5_lacksOf_L4
    rw [hT.1, if_pos (by rw [zi_len (by omega) (by omega)]; omega), show i = tn T by omega]
  | succ d ih =>
    intro k i hi hk
    obtain ⟨k, rfl⟩ : ∃ q, k = q + 1 := ⟨k - 1, by omega⟩
    unfold s_X5_lacksOf_L4 s_X5_lacksOf_L30 s_X6_bit
    have hl := bset_lt' (wntT T g) (show i ≤ 10 by omega)
    have hp : 2 ^ i < 2 ^ 10 := Nat.pow_lt_pow_right (by omega) (by omega)
    have e := ih k (i + 1) (by omega) (by omega)
    rw [hT.1, if_neg (by rw [zi_len (by omega) (by omega)]; omega), wnt_C hT hO hg (show i < tn T by omega), zr_some, zif0, ln_1, zi_addn]
    rw [bset] at e
    cases hw : wntT T g i with
    | false =>
      rw [hw, cond_false, Nat.add_zero] at e
      rw [cond_false, ln_0, zi_or (by omega) (by omega), Nat.or_zero]
      exact e
    | true =>
      rw [hw, cond_true] at e
      rw [cond_true, zr_some, ← ln_1, zi_shl1 (by omega), zi_or (by omega) (by omega), bset_or]
      exact e
theorem lacks_C (hT : tC t T m) (hO : tOK T) (hg : g < tn T) : s_X5_lacksOf t (zi g) m = some (zi (bset (wntT T g) (tn T))) := by
  have hn := hO.1
  unfold s_X5_lacksOf
  have h := lacks_loop_C hT hO hg (tn T) zF 0 (by omega) (by unfold zF; omega)
  exact h
theorem lacks_loop_R (hT : tR T m) (hO : tOK T) (hg : g < tn T) : ∀ (d k i : Nat), i + d = tn T → d < k → s_X7_lacks_L4 k (zi g) (zi (bset (wntT T g) i)) (zi i) m = some (zi (bset (wntT T g) (tn T))) := by
  have hn := hO.1
  intro d
  induction d with
  | zero =>
    intro k i hi hk
    obtain ⟨k, rfl⟩ : ∃ q, k = q + 1 := ⟨k - 1, by omega⟩
    unfold s_X7_lacks_L4
    rw [hT.1, if_pos (by rw [zi_len (by omega) (by omega)]; omega), show i = tn T by omega]
  | succ d ih =>
    intro k i hi hk
    obtain ⟨k, rfl⟩ : ∃ q, k = q + 1 := ⟨k - 1, by omega⟩
    unfold s_X7_lacks_L4 s_X7_lacks_L27
    have hl := bset_lt' (wntT T g) (show i ≤ 10 by omega)
    have hp : 2 ^ i < 2 ^ 10 := Nat.pow_lt_pow_right (by omega) (by omega)
    have e := ih k (i + 1) (by omega) (by omega)
    rw [hT.1, if_neg (by rw [zi_len (by omega) (by omega)]; omega), wnt_R hT hO hg (show i < tn T by omega), zr_some, zif0]
    rw [bset] at e
    cases hw : wntT T g i with
    | false =>
      rw [hw, cond_false, Nat.add_zero] at e
      rw [cond_false, ln_1, zi_addn]
      exact e
    | true =>
      rw [hw, cond_true] at e
      rw [cond_true, zlet_eq, zi_shl1 (by omega), zi_or (by omega) (by omega), bset_or, ln_1, zi_addn]
      exact e
theorem lacks_R (hT : tR T m) (hO : tOK T) (hg : g < tn T) : s_X7_lacks (zi g) m = some (zi (bset (wntT T g) (tn T))) := by
  have hn := hO.1
  unfold s_X7_lacks
  have h := lacks_loop_R hT hO hg (tn T) zF 0 (by omega) (by unfold zF; omega)
  exact h
theorem wants_C (hT : tC t T m) (hO : tOK T) (hg : g < tn T) : s_X5_wantsOf t (zi g) m = some (zi (bcnt (wntT T g) (tn T))) := by
  unfold s_X5_wantsOf
  rw [lacks_C hT hO hg, zr_some, bitCount_C hO.1, zr_some]
end TE
