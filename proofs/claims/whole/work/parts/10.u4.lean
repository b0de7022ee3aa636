theorem kin_5 : ∀ a, a < 7 → kin a 5 = decide (a = 5) := by decide +kernel
theorem kin_3 : ∀ a, a < 7 → kin a 3 = decide (a = 3) := by decide +kernel
theorem kin_6 : ∀ a, a < 7 → kin a 6 = decide (a = 6) := by decide +kernel
theorem kin_4 : ∀ a, a < 7 → kin a 4 = (decide (a = 4) || decide (a = 6)) := by decide +kernel
theorem kin_1 : ∀ a, a < 7 → kin a 1 = (decide (a = 1) || decide (a = 3)) := by decide +kernel
theorem kin_2 : ∀ a, a < 7 → kin a 2 = (decide (a = 2) || decide (a = 5)) := by decide +kernel
section TD
variable {t : Nat} {T : zTab} {m : zMem} {g h : Nat}
theorem isIn_R {b i : Nat} (hb : b < 2147483648) (hi : i < 32) : s_X7_isIn (zi b) (zi i) = some (zo (b.testBit i)) := by
  unfold s_X7_isIn
  rw [zi_bit hb hi, zif1, zsome_zo]
theorem farT_lt (hO : tOK T) (hg : g < tn T) (hh : h < tn T) : farT T g h < 12 := by
  obtain ⟨k1, k2, k3, k4, k5, k6, k7, k8⟩ := hO.g hg
  obtain ⟨j1, j2, -⟩ := hO.g hh
  unfold farT
  dsimp only
  repeat' split
  all_goals omega
theorem rch_R (hT : tR T m) (hO : tOK T) (hg : g < tn T) {d : Nat} (hd : d < 100) : s_X7_reaches (zi g) (zi d) m = some (zo (rchT T g d)) := by
  obtain ⟨k1, k2, k3, k4, k5, k6, k7, k8⟩ := hO.g hg
  obtain ⟨e1, e2, e3, e4, e5⟩ := hT.2.2.2 g hg
  unfold s_X7_reaches s_X7_reaches_L20 s_X7_reaches_L32 rchT
  rw [kin_1 _ k1]
  simp (disch := omega) only [zi_bit, zi_bitn, chk_zn, ix_zn, zr_some, zb_some, zlet_eq, zi_addn, zi_muln, zi_ltn, zi_len, zi_eqn, zif0, zif1, zif0n, zif1n, zo_t, zo_f, cond_true, cond_false, if_true, if_false, ln_0, ln_1, ln_2, ln_3, ln_4, ln_5, ln_6, ln_7, ln_8, ln_9, ln_10, ln_11, ln_12, ln_13, ln_14, ln_15, ln_16, ln_17, ln_18, ln_19, ln_20, ln_21, ln_22, ln_23, ln_24, ln_25, ln_30, ln_32, ln_33, ln_34, ln_36, ln_37, ln_40, ln_41, ln_45, ln_48, ln_50, ln_51, ln_57, ln_59, ln_60, ln_63, ln_64, ln_65, ln_66, ln_67, ln_68, ln_69, ln_70, ln_71, ln_72, ln_73, ln_74, ln_75, ln_76, ln_77, ln_78, ln_79, ln_80, ln_81, ln_82, ln_83, ln_84, ln_85, ln_86, ln_87, ln_88, ln_98, ln_100, ln_101, ln_103, ln_104, ln_109, ln_115, ln_127, ln_160, ln_1023, ln_1024, ln_1280, e1, e3]
  by_cases q1 : tK T g = 1 <;> by_cases q3 : tK T g = 3 <;> by_cases q : d ≤ tA T g + 1 <;> simp [q1, q3, q] <;> first | rfl | (intro; omega) | skip
  all_goals (first | (rw [if_neg (by omega)]; rfl) | (rw [if_pos (by omega)]; rfl))
theorem may85_C (hT : tC t T m) (hO : tOK T) (hg : g < tn T) {d : Nat} (hd : d < 100) : s_X5_mayClink_L85 t (zi g) (zi d) m = some (zo (rchT T g d)) := by
  obtain ⟨k1, k2, k3, k4, k5, k6, k7, k8⟩ := hO.g hg
  obtain ⟨e1, e2, e3, e4, e5⟩ := hT.2.2.2 g hg
  unfold s_X5_mayClink_L85 s_X5_mayClink_L106 rchT
  simp (disch := omega) only [zi_bit, zi_bitn, chk_zn, ix_zn, zr_some, zb_some, zlet_eq, zi_addn, zi_muln, zi_ltn, zi_len, zi_eqn, zif0, zif1, zif0n, zif1n, zo_t, zo_f, cond_true, cond_false, if_true, if_false, ln_0, ln_1, ln_2, ln_3, ln_4, ln_5, ln_6, ln_7, ln_8, ln_9, ln_10, ln_11, ln_12, ln_13, ln_14, ln_15, ln_16, ln_17, ln_18, ln_19, ln_20, ln_21, ln_22, ln_23, ln_24, ln_25, ln_30, ln_32, ln_33, ln_34, ln_36, ln_37, ln_40, ln_41, ln_45, ln_48, ln_50, ln_51, ln_57, ln_59, ln_60, ln_63, ln_64, ln_65, ln_66, ln_67, ln_68, ln_69, ln_70, ln_71, ln_72, ln_73, ln_74, ln_75, ln_76, ln_77, ln_78, ln_79, ln_80, ln_81, ln_82, ln_83, ln_84, ln_85, ln_86, ln_87, ln_88, ln_98, ln_100, ln_101, ln_103, ln_104, ln_109, ln_115, ln_127, ln_160, ln_1023, ln_1024, ln_1280, e3, isOf_C hT hO hg]
  cases kin (tK T g) 1
  · rfl
  · by_cases q : d ≤ tA T g + 1
    · rw [if_neg (by omega), decide_eq_true q]; rfl
    · rw [if_pos (by omega), decide_eq_false q]; rfl
theorem may55_C (hT : tC t T m) (hO : tOK T) (hg : g < tn T) (hh : h < tn T) : s_X5_mayClink_L55 t (zi g) (zi h) m = some (zo (rchT T g (farT T g h) && rchT T h (farT T g h))) := by
  obtain ⟨k1, k2, k3, k4, k5, k6, k7, k8⟩ := hO.g hg
  obtain ⟨e1, e2, e3, e4, e5⟩ := hT.2.2.2 g hg
  have hf := farT_lt hO hg hh
  unfold s_X5_mayClink_L55
  simp (disch := omega) only [zi_bit, zi_bitn, chk_zn, ix_zn, zr_some, zb_some, zlet_eq, zi_addn, zi_muln, zi_ltn, zi_len, zi_eqn, zif0, zif1, zif0n, zif1n, zo_t, zo_f, cond_true, cond_false, if_true, if_false, ln_0, ln_1, ln_2, ln_3, ln_4, ln_5, ln_6, ln_7, ln_8, ln_9, ln_10, ln_11, ln_12, ln_13, ln_14, ln_15, ln_16, ln_17, ln_18, ln_19, ln_20, ln_21, ln_22, ln_23, ln_24, ln_25, ln_30, ln_32, ln_33, ln_34, ln_36, ln_37, ln_40, ln_41, ln_45, ln_48, ln_50, ln_51, ln_57, ln_59, ln_60, ln_63, ln_64, ln_65, ln_66, ln_67, ln_68, ln_69, ln_70, ln_71, ln_72, ln_73, ln_74, ln_75, ln_76, ln_77, ln_78, ln_79, ln_80, ln_81, ln_82, ln_83, ln_84, ln_85, ln_86, ln_87, ln_88, ln_98, ln_100, ln_101, ln_103, ln_104, ln_109, ln_115, ln_127, ln_160, ln_1023, ln_1024, ln_1280, e3, isOf_C hT hO hg, far_C hT hO hg hh, may85_C hT hO hh]
  have hr : rchT T g (farT T g h) = (!kin (tK T g) 1 || decide (farT T g h ≤ tA T g + 1)) := rfl
  rw [hr]
  cases kin (tK T g) 1
  · simp
  · by_cases q : farT T g h ≤ tA T g + 1
    · rw [if_pos q, decide_eq_true q]; simp
    · rw [if_neg q, decide_eq_false q]; rfl
theorem may_C (hT : tC t T m) (hO : tOK T) (hg : g < tn T) (hh : h < tn T) : s_X5_mayClink t (zi g) (zi h) m = some (zo (mayT T g h)) := by
  obtain ⟨k1, k2, k3, k4, k5, k6, k7, k8⟩ := hO.g hg
  obtain ⟨e1, e2, e3, e4, e5⟩ := hT.2.2.2 g hg
  unfold s_X5_mayClink mayT
  rw [ln_5, ln_3, chk_zn (by omega) (by omega), ix_zn (by omega), e4, zi_bit (by omega) (by omega), isOf_C hT hO hg (by omega), isOf_C hT hO hh (by omega), isOf_C hT hO hg (by omega), isOf_C hT hO hh (by omega), may55_C hT hO hg hh]
  simp only [zr_some, zif0]
  cases (tB T g).testBit h <;> cases kin (tK T g) 5 <;> cases kin (tK T h) 5 <;> cases kin (tK T g) 3 <;> cases kin (tK T h) 3 <;> rfl
theorem may56_R (hT : tR T m) (hO : tOK T) (hg : g < tn T) (hh : h < tn T) : s_X7_mayBe_L56 (zi g) (zi h) m = some (zo (rchT T g (farT T g h) && rchT T h (farT T g h))) := by
  have hf := farT_lt hO hg hh
  unfold s_X7_mayBe_L56
  simp (disch := omega) only [zr_some, far_R hT hO hg hh, rch_R hT hO hg, rch_R hT hO hh, zif0]
  cases rchT T g (farT T g h) <;> cases rchT T h (farT T g h) <;> rfl
theorem may_R (hT : tR T m) (hO : tOK T) (hg : g < tn T) (hh : h < tn T) : s_X7_mayBe (zi g) (zi h) m = some (zo (mayT T g h)) := by
  obtain ⟨k1, k2, k3, k4, k5, k6, k7, k8⟩ := hO.g hg
  obtain ⟨j1, j2, j3, j4, j5, j6, j7, j8⟩ := hO.g hh
  obtain ⟨e1, e2, e3, e4, e5⟩ := hT.2.2.2 g hg
  obtain ⟨f1, f2, f3, f4, f5⟩ := hT.2.2.2 h hh
  unfold s_X7_mayBe mayT
  rw [kin_5 _ k1, kin_5 _ j1, kin_3 _ k1, kin_3 _ j1]
  simp (disch := omega) only [zi_bit, zi_bitn, chk_zn, ix_zn, zr_some, zb_some, zlet_eq, zi_addn, zi_muln, zi_ltn, zi_len, zi_eqn, zif0, zif1, zif0n, zif1n, zo_t, zo_f, cond_true, cond_false, if_true, if_false, ln_0, ln_1, ln_2, ln_3, ln_4, ln_5, ln_6, ln_7, ln_8, ln_9, ln_10, ln_11, ln_12, ln_13, ln_14, ln_15, ln_16, ln_17, ln_18, ln_19, ln_20, ln_21, ln_22, ln_23, ln_24, ln_25, ln_30, ln_32, ln_33, ln_34, ln_36, ln_37, ln_40, ln_41, ln_45, ln_48, ln_50, ln_51, ln_57, ln_59, ln_60, ln_63, ln_64, ln_65, ln_66, ln_67, ln_68, ln_69, ln_70, ln_71, ln_72, ln_73, ln_74, ln_75, ln_76, ln_77, ln_78, ln_79, ln_80, ln_81, ln_82, ln_83, ln_84, ln_85, ln_86, ln_87, ln_88, ln_98, ln_100, ln_101, ln_103, ln_104, ln_109, ln_115, ln_127, ln_160, ln_1023, ln_1024, ln_1280, e1, e4, f1, isIn_R, may56_R hT hO hg hh, zib]
  cases (tB T g).testBit h <;> cases decide (tK T g = 5) <;> cases decide (tK T h = 5) <;> cases decide (tK T g = 3) <;> cases decide (tK T h = 3) <;> rfl
theorem wnt_C (hT : tC t T m) (hO : tOK T) (hg : g < tn T) (hh : h < tn T) : s_X5_isWanted t (zi g) (zi h) m = some (zo (wntT T g h)) := by
  obtain ⟨k1, k2, k3, k4, k5, k6, k7, k8⟩ := hO.g hg
  obtain ⟨e1, e2, e3, e4, e5⟩ := hT.2.2.2 g hg
  unfold s_X5_isWanted wntT
  simp (disch := omega) only [zi_bit, zi_bitn, chk_zn, ix_zn, zr_some, zb_some, zlet_eq, zi_addn, zi_muln, zi_ltn, zi_len, zi_eqn, zif0, zif1, zif0n, zif1n, zo_t, zo_f, cond_true, cond_false, if_true, if_false, ln_0, ln_1, ln_2, ln_3, ln_4, ln_5, ln_6, ln_7, ln_8, ln_9, ln_10, ln_11, ln_12, ln_13, ln_14, ln_15, ln_16, ln_17, ln_18, ln_19, ln_20, ln_21, ln_22, ln_23, ln_24, ln_25, ln_30, ln_32, ln_33, ln_34, ln_36, ln_37, ln_40, ln_41, ln_45, ln_48, ln_50, ln_51, ln_57, ln_59, ln_60, ln_63, ln_64, ln_65, ln_66, ln_67, ln_68, ln_69, ln_70, ln_71, ln_72, ln_73, ln_74, ln_75, ln_76, ln_77, ln_78, ln_79, ln_80, ln_81, ln_82, ln_83, ln_84, ln_85, ln_86, ln_87, ln_88, ln_98, ln_100, ln_101, ln_103, ln_104, ln_109, ln_115, ln_127, ln_160, ln_1023, ln_1024, ln_1280, e5, may_C hT hO hg hh, zi_bit]
  by_cases q : g = h
  · rw [if_pos q, decide_eq_false (by omega)]; rfl
  · rw [if_neg q, decide_eq_true q]
    cases (tH T g).testBit h <;> cases mayT T g h <;> rfl
theorem wnt_R (hT : tR T m) (hO : tOK T) (hg : g < tn T) (hh : h < tn T) : s_X7_isWanted (zi g) (zi h) m = some (zo (wntT T g h)) := by
  obtain ⟨k1, k2, k3, k4, k5, k6, k7, k8⟩ := hO.g hg
  obtain ⟨e1, e2, e3, e4, e5⟩ := hT.2.2.2 g hg
  unfold s_X7_isWanted wntT
  simp (disch := omega) only [zi_bit, zi_bitn, chk_zn, ix_zn, zr_some, zb_some, zlet_eq, zi_addn, zi_muln, zi_ltn, zi_len, zi_eqn, zif0, zif1, zif0n, zif1n, zo_t, zo_f, cond_true, cond_false, if_true, if_false, ln_0, ln_1, ln_2, ln_3, ln_4, ln_5, ln_6, ln_7, ln_8, ln_9, ln_10, ln_11, ln_12, ln_13, ln_14, ln_15, ln_16, ln_17, ln_18, ln_19, ln_20, ln_21, ln_22, ln_23, ln_24, ln_25, ln_30, ln_32, ln_33, ln_34, ln_36, ln_37, ln_40, ln_41, ln_45, ln_48, ln_50, ln_51, ln_57, ln_59, ln_60, ln_63, ln_64, ln_65, ln_66, ln_67, ln_68, ln_69, ln_70, ln_71, ln_72, ln_73, ln_74, ln_75, ln_76, ln_77, ln_78, ln_79, ln_80, ln_81, ln_82, ln_83, ln_84, ln_85, ln_86, ln_87, ln_88, ln_98, ln_100, ln_101, ln_103, ln_104, ln_109, ln_115, ln_127, ln_160, ln_1023, ln_1024, ln_1280, e5, may_R hT hO hg hh, isIn_R]
  by_cases q : g = h
  · rw [if_pos q, decide_eq_false (by omega)]; rfl
  · rw [if_neg q, decide_eq_true q]
    cases (tH T g).testBit h <;> cases mayT T g h <;> rfl
theorem jmax_zi {a b : Nat} (ha : a < 2147483648) (hb : b < 2147483648) : jmax (zi a) (zi b) = zi (max a b : Nat) := by
  unfold jmax
  simp (disch := omega) only [zi_lt]
  split
  · congr 1; omega
  · congr 1; omega
theorem jmin_zi {a b : Nat} (ha : a < 2147483648) (hb : b < 2147483648) : jmin (zi a) (zi b) = zi (min a b : Nat) := by
  unfold jmin
  simp (disch := omega) only [zi_lt]
  split
  · congr 1; omega
  · congr 1; omega
theorem slw_C (hT : tC t T m) (hO : tOK T) (hg : g < tn T) : s_X5_slownessOf t (zi g) m = some (zi (slwT T g)) := by
  obtain ⟨k1, k2, k3, k4, k5, k6, k7, k8⟩ := hO.g hg
  obtain ⟨e1, e2, e3, e4, e5⟩ := hT.2.2.2 g hg
  unfold s_X5_slownessOf slwT
  simp (disch := omega) only [zi_bit, zi_bitn, chk_zn, ix_zn, zr_some, zb_some, zlet_eq, zi_addn, zi_muln, zi_ltn, zi_len, zi_eqn, zif0, zif1, zif0n, zif1n, zo_t, zo_f, cond_true, cond_false, if_true, if_false, ln_0, ln_1, ln_2, ln_3, ln_4, ln_5, ln_6, ln_7, ln_8, ln_9, ln_10, ln_11, ln_12, ln_13, ln_14, ln_15, ln_16, ln_17, ln_18, ln_19, ln_20, ln_21, ln_22, ln_23, ln_24, ln_25, ln_30, ln_32, ln_33, ln_34, ln_36, ln_37, ln_40, ln_41, ln_45, ln_48, ln_50, ln_51, ln_57, ln_59, ln_60, ln_63, ln_64, ln_65, ln_66, ln_67, ln_68, ln_69, ln_70, ln_71, ln_72, ln_73, ln_74, ln_75, ln_76, ln_77, ln_78, ln_79, ln_80, ln_81, ln_82, ln_83, ln_84, ln_85, ln_86, ln_87, ln_88, ln_98, ln_100, ln_101, ln_103, ln_104, ln_109, ln_115, ln_127, ln_160, ln_1023, ln_1024, ln_1280, e3, isOf_C hT hO hg]
  cases kin (tK T g) 2 <;> rfl
theorem slw_R (hT : tR T m) (hO : tOK T) (hg : g < tn T) : s_X7_slow (zi g) m = some (zi (slwT T g)) := by
  obtain ⟨k1, k2, k3, k4, k5, k6, k7, k8⟩ := hO.g hg
  obtain ⟨e1, e2, e3, e4, e5⟩ := hT.2.2.2 g hg
  unfold s_X7_slow s_X7_slow_L20 slwT
  rw [kin_2 _ k1]
  simp (disch := omega) only [zi_bit, zi_bitn, chk_zn, ix_zn, zr_some, zb_some, zlet_eq, zi_addn, zi_muln, zi_ltn, zi_len, zi_eqn, zif0, zif1, zif0n, zif1n, zo_t, zo_f, cond_true, cond_false, if_true, if_false, ln_0, ln_1, ln_2, ln_3, ln_4, ln_5, ln_6, ln_7, ln_8, ln_9, ln_10, ln_11, ln_12, ln_13, ln_14, ln_15, ln_16, ln_17, ln_18, ln_19, ln_20, ln_21, ln_22, ln_23, ln_24, ln_25, ln_30, ln_32, ln_33, ln_34, ln_36, ln_37, ln_40, ln_41, ln_45, ln_48, ln_50, ln_51, ln_57, ln_59, ln_60, ln_63, ln_64, ln_65, ln_66, ln_67, ln_68, ln_69, ln_70, ln_71, ln_72, ln_73, ln_74, ln_75, ln_76, ln_77, ln_78, ln_79, ln_80, ln_81, ln_82, ln_83, ln_84, ln_85, ln_86, ln_87, ln_88, ln_98, ln_100, ln_101, ln_103, ln_104, ln_109, ln_115, ln_127, ln_160, ln_1023, ln_1024, ln_1280, e1, e3, Bool.or_eq_true, decide_eq_true_eq]
  repeat' split
  all_goals first | rfl | (exfalso; omega)
theorem slwT_le (hO : tOK T) (hg : g < tn T) : slwT T g ≤ 9 := by
  have := (hO.g hg).2.2.1
  unfold slwT; split <;> omega
theorem tks_C (hT : tC t T m) (hO : tOK T) (hg : g < tn T) (hh : h < tn T) : s_X5_secondsOf t (zi g) (zi h) m = some (zi (tksT T g h)) := by
  have h1 := slwT_le hO hg
  have h2 := slwT_le hO hh
  have h3 := hO.2.2.2.1
  unfold s_X5_secondsOf tksT
  simp (disch := omega) only [slw_C hT hO hg, slw_C hT hO hh, jmax_zi, zi_bit, zi_bitn, chk_zn, ix_zn, zr_some, zb_some, zlet_eq, zi_addn, zi_muln, zi_ltn, zi_len, zi_eqn, zif0, zif1, zif0n, zif1n, zo_t, zo_f, cond_true, cond_false, if_true, if_false, ln_0, ln_1, ln_2, ln_3, ln_4, ln_5, ln_6, ln_7, ln_8, ln_9, ln_10, ln_11, ln_12, ln_13, ln_14, ln_15, ln_16, ln_17, ln_18, ln_19, ln_20, ln_21, ln_22, ln_23, ln_24, ln_25, ln_30, ln_32, ln_33, ln_34, ln_36, ln_37, ln_40, ln_41, ln_45, ln_48, ln_50, ln_51, ln_57, ln_59, ln_60, ln_63, ln_64, ln_65, ln_66, ln_67, ln_68, ln_69, ln_70, ln_71, ln_72, ln_73, ln_74, ln_75, ln_76, ln_77, ln_78, ln_79, ln_80, ln_81, ln_82, ln_83, ln_84, ln_85, ln_86, ln_87, ln_88, ln_98, ln_100, ln_101, ln_103, ln_104, ln_109, ln_115, ln_127, ln_160, ln_1023, ln_1024, ln_1280, hT.2.2.1]
  repeat' split
  all_goals first | (refine congrArg (fun q => some (zi q)) ?_; omega) | (exfalso; omega)
theorem tks_R (hT : tR T m) (hO : tOK T) (hg : g < tn T) (hh : h < tn T) : s_X7_takesOf (zi g) (zi h) m = some (zi (tksT T g h)) := by
  have h1 := slwT_le hO hg
  have h2 := slwT_le hO hh
  have h3 := hO.2.2.2.1
  unfold s_X7_takesOf s_X7_takesOf_L27 tksT
  simp (disch := omega) only [slw_R hT hO hg, slw_R hT hO hh, zi_bit, zi_bitn, chk_zn, ix_zn, zr_some, zb_some, zlet_eq, zi_addn, zi_muln, zi_ltn, zi_len, zi_eqn, zif0, zif1, zif0n, zif1n, zo_t, zo_f, cond_true, cond_false, if_true, if_false, ln_0, ln_1, ln_2, ln_3, ln_4, ln_5, ln_6, ln_7, ln_8, ln_9, ln_10, ln_11, ln_12, ln_13, ln_14, ln_15, ln_16, ln_17, ln_18, ln_19, ln_20, ln_21, ln_22, ln_23, ln_24, ln_25, ln_30, ln_32, ln_33, ln_34, ln_36, ln_37, ln_40, ln_41, ln_45, ln_48, ln_50, ln_51, ln_57, ln_59, ln_60, ln_63, ln_64, ln_65, ln_66, ln_67, ln_68, ln_69, ln_70, ln_71, ln_72, ln_73, ln_74, ln_75, ln_76, ln_77, ln_78, ln_79, ln_80, ln_81, ln_82, ln_83, ln_84, ln_85, ln_86, ln_87, ln_88, ln_98, ln_100, ln_101, ln_103, ln_104, ln_109, ln_115, ln_127, ln_160, ln_1023, ln_1024, ln_1280, hT.2.2.1]
  repeat' split
  all_goals first | (refine congrArg (fun q => some (zi q)) ?_; omega) | (exfalso; omega)
theorem btw_C (hT : tC t T m) (hO : tOK T) {p q : Nat} (hg : g < tn T) (hp : p < tn T) (hq : q < tn T) : s_X5_sitsBetween t (zi g) (zi p) (zi q) m = some (zo (btwT T g p q)) := by
  obtain ⟨k1, k2, k3, k4, k5, k6, k7, k8⟩ := hO.g hg
  obtain ⟨-, j2, -⟩ := hO.g hp
  obtain ⟨-, l2, -⟩ := hO.g hq
  obtain ⟨-, e2, -⟩ := hT.2.2.2 g hg
  obtain ⟨-, f2, -⟩ := hT.2.2.2 p hp
  obtain ⟨-, d2, -⟩ := hT.2.2.2 q hq
  unfold s_X5_sitsBetween btwT
  simp (disch := omega) only [e2, f2, d2, jmin_zi, jmax_zi, zi_bit, zi_bitn, chk_zn, ix_zn, zr_some, zb_some, zlet_eq, zi_addn, zi_muln, zi_ltn, zi_len, zi_eqn, zif0, zif1, zif0n, zif1n, zo_t, zo_f, cond_true, cond_false, if_true, if_false, ln_0, ln_1, ln_2, ln_3, ln_4, ln_5, ln_6, ln_7, ln_8, ln_9, ln_10, ln_11, ln_12, ln_13, ln_14, ln_15, ln_16, ln_17, ln_18, ln_19, ln_20, ln_21, ln_22, ln_23, ln_24, ln_25, ln_30, ln_32, ln_33, ln_34, ln_36, ln_37, ln_40, ln_41, ln_45, ln_48, ln_50, ln_51, ln_57, ln_59, ln_60, ln_63, ln_64, ln_65, ln_66, ln_67, ln_68, ln_69, ln_70, ln_71, ln_72, ln_73, ln_74, ln_75, ln_76, ln_77, ln_78, ln_79, ln_80, ln_81, ln_82, ln_83, ln_84, ln_85, ln_86, ln_87, ln_88, ln_98, ln_100, ln_101, ln_103, ln_104, ln_109, ln_115, ln_127, ln_160, ln_1023, ln_1024, ln_1280]
  by_cases q1 : tS T g ≤ min (tS T p) (tS T q)
  · rw [if_pos q1, decide_eq_false (by omega)]; rfl
  · rw [if_neg q1, decide_eq_true (by omega)]
    by_cases q2 : max (tS T p) (tS T q) ≤ tS T g
    · rw [if_pos q2, decide_eq_false (by omega)]; rfl
    · rw [if_neg q2, decide_eq_true (by omega)]; rfl
theorem btw30_R (hT : tR T m) (hO : tOK T) {p q : Nat} (hg : g < tn T) (hp : p < tn T) (hq : q < tn T) : s_X7_isBetween_L30 (zi g) (zi p) (zi q) (zi (min (tS T p) (tS T q) : Nat)) m = some (zo (btwT T g p q)) := by
  obtain ⟨k1, k2, k3, k4, k5, k6, k7, k8⟩ := hO.g hg
  obtain ⟨-, j2, -⟩ := hO.g hp
  obtain ⟨-, l2, -⟩ := hO.g hq
  obtain ⟨-, e2, -⟩ := hT.2.2.2 g hg
  obtain ⟨-, f2, -⟩ := hT.2.2.2 p hp
  obtain ⟨-, d2, -⟩ := hT.2.2.2 q hq
  unfold s_X7_isBetween_L30 btwT
  simp (disch := omega) only [e2, f2, d2, zi_subn, zi_bit, zi_bitn, chk_zn, ix_zn, zr_some, zb_some, zlet_eq, zi_addn, zi_muln, zi_ltn, zi_len, zi_eqn, zif0, zif1, zif0n, zif1n, zo_t, zo_f, cond_true, cond_false, if_true, if_false, ln_0, ln_1, ln_2, ln_3, ln_4, ln_5, ln_6, ln_7, ln_8, ln_9, ln_10, ln_11, ln_12, ln_13, ln_14, ln_15, ln_16, ln_17, ln_18, ln_19, ln_20, ln_21, ln_22, ln_23, ln_24, ln_25, ln_30, ln_32, ln_33, ln_34, ln_36, ln_37, ln_40, ln_41, ln_45, ln_48, ln_50, ln_51, ln_57, ln_59, ln_60, ln_63, ln_64, ln_65, ln_66, ln_67, ln_68, ln_69, ln_70, ln_71, ln_72, ln_73, ln_74, ln_75, ln_76, ln_77, ln_78, ln_79, ln_80, ln_81, ln_82, ln_83, ln_84, ln_85, ln_86, ln_87, ln_88, ln_98, ln_100, ln_101, ln_103, ln_104, ln_109, ln_115, ln_127, ln_160, ln_1023, ln_1024, ln_1280]
  by_cases q1 : tS T g ≤ min (tS T p) (tS T q)
  · rw [if_pos q1, decide_eq_false (by omega)]; rfl
  · rw [if_neg q1, decide_eq_true (by omega)]
    by_cases q2 : max (tS T p) (tS T q) ≤ tS T g
    · rw [if_pos (by omega), decide_eq_false (by omega)]; rfl
    · rw [if_neg (by omega), decide_eq_true (by omega)]; rfl
theorem btw_R (hT : tR T m) (hO : tOK T) {p q : Nat} (hg : g < tn T) (hp : p < tn T) (hq : q < tn T) : s_X7_isBetween (zi g) (zi p) (zi q) m = some (zo (btwT T g p q)) := by
  obtain ⟨-, j2, -, -, -, k6, k7, k8⟩ := hO.g hp
  obtain ⟨-, l2, -⟩ := hO.g hq
  obtain ⟨-, f2, -⟩ := hT.2.2.2 p hp
  obtain ⟨-, d2, -⟩ := hT.2.2.2 q hq
  unfold s_X7_isBetween
  simp (disch := omega) only [f2, d2, chk_zn, ix_zn, zi_len]
  by_cases q1 : tS T q ≤ tS T p
  · rw [if_pos q1, ← btw30_R hT hO hg hp hq, Nat.min_eq_right q1]
  · rw [if_neg q1, ← btw30_R hT hO hg hp hq, Nat.min_eq_left (by omega)]
theorem has_C (hT : tC t T m) (hO : tOK T) (hg : g < tn T) (hh : h < tn T) {k : Nat} (hk : k < 32) : s_X5_hasKind t (zi g) (zi h) (zi k) m = some (zo (hasT T g h k)) := by
  unfold s_X5_hasKind s_X5_hasKind_L18 hasT
  simp (disch := omega) only [zr_some, isOf_C hT hO hg, isOf_C hT hO hh, zif0]
  cases kin (tK T g) k <;> cases kin (tK T h) k <;> rfl
theorem crs_C (hT : tC t T m) (hO : tOK T) {p q r u : Nat} (hp : p < tn T) (hq : q < tn T) (hr : r < tn T) (hu : u < tn T) : s_X5_armsCross t (zi p) (zi q) (zi r) (zi u) m = some (zo (crsT T p q r u)) := by
  unfold s_X5_armsCross s_X5_armsCross_L48 crsT
  rw [li_6, li_4, show (6 : Int) = ((6 : Nat) : Int) from rfl, show (4 : Int) = ((4 : Nat) : Int) from rfl]
  simp (disch := omega) only [zr_some, has_C hT hO hp hq, has_C hT hO hr hu, btw_C hT hO hr hp hq, btw_C hT hO hu hp hq, zif0]
  cases hasT T p q 6 <;> cases hasT T r u 6 <;> cases hasT T p q 4 <;> cases hasT T r u 4 <;> cases btwT T r p q <;> cases btwT T u p q <;> rfl
theorem left_R (hT : tR T m) (hO : tOK T) (hg : g < tn T) (hh : h < tn T) : s_X7_isLeft (zi g) (zi h) m = some (zo (decide (tK T g = 4) || decide (tK T h = 4))) := by
  obtain ⟨k1, k2, k3, k4, k5, k6, k7, k8⟩ := hO.g hg
  obtain ⟨j1, -⟩ := hO.g hh
  obtain ⟨e1, -⟩ := hT.2.2.2 g hg
  obtain ⟨f1, -⟩ := hT.2.2.2 h hh
  unfold s_X7_isLeft s_X7_isLeft_L20
  simp (disch := omega) only [zi_bit, zi_bitn, chk_zn, ix_zn, zr_some, zb_some, zlet_eq, zi_addn, zi_muln, zi_ltn, zi_len, zi_eqn, zif0, zif1, zif0n, zif1n, zo_t, zo_f, cond_true, cond_false, if_true, if_false, ln_0, ln_1, ln_2, ln_3, ln_4, ln_5, ln_6, ln_7, ln_8, ln_9, ln_10, ln_11, ln_12, ln_13, ln_14, ln_15, ln_16, ln_17, ln_18, ln_19, ln_20, ln_21, ln_22, ln_23, ln_24, ln_25, ln_30, ln_32, ln_33, ln_34, ln_36, ln_37, ln_40, ln_41, ln_45, ln_48, ln_50, ln_51, ln_57, ln_59, ln_60, ln_63, ln_64, ln_65, ln_66, ln_67, ln_68, ln_69, ln_70, ln_71, ln_72, ln_73, ln_74, ln_75, ln_76, ln_77, ln_78, ln_79, ln_80, ln_81, ln_82, ln_83, ln_84, ln_85, ln_86, ln_87, ln_88, ln_98, ln_100, ln_101, ln_103, ln_104, ln_109, ln_115, ln_127, ln_160, ln_1023, ln_1024, ln_1280, e1, f1, zib]
  cases decide (tK T g = 4) <;> cases decide (tK T h = 4) <;> rfl
theorem crs_R (hT : tR T m) (hO : tOK T) {p q r u : Nat} (hp : p < tn T) (hq : q < tn T) (hr : r < tn T) (hu : u < tn T) : s_X7_crosses (zi p) (zi q) (zi r) (zi u) m = some (zo (crsT T p q r u)) := by
  obtain ⟨k1, -, -, -, -, -, k7, -⟩ := hO.g hp
  obtain ⟨j1, -⟩ := hO.g hq
  obtain ⟨l1, -⟩ := hO.g hr
  obtain ⟨n1, -⟩ := hO.g hu
  obtain ⟨e1, -⟩ := hT.2.2.2 p hp
  obtain ⟨e2, -⟩ := hT.2.2.2 q hq
  obtain ⟨e3, -⟩ := hT.2.2.2 r hr
  obtain ⟨e4, -⟩ := hT.2.2.2 u hu
  unfold s_X7_crosses s_X7_crosses_L86 crsT hasT
  rw [kin_6 _ k1, kin_6 _ j1, kin_6 _ l1, kin_6 _ n1, kin_4 _ k1, kin_4 _ j1, kin_4 _ l1, kin_4 _ n1]
  simp (disch := omega) only [btw_R hT hO hr hp hq, btw_R hT hO hu hp hq, left_R hT hO hp hq, left_R hT hO hr hu, zr_some]
  simp (disch := omega) only [zi_bit, zi_bitn, chk_zn, ix_zn, zr_some, zb_some, zlet_eq, zi_addn, zi_muln, zi_ltn, zi_len, zi_eqn, zif0, zif1, zif0n, zif1n, zo_t, zo_f, cond_true, cond_false, if_true, if_false, ln_0, ln_1, ln_2, ln_3, ln_4, ln_5, ln_6, ln_7, ln_8, ln_9, ln_10, ln_11, ln_12, ln_13, ln_14, ln_15, ln_16, ln_17, ln_18, ln_19, ln_20, ln_21, ln_22, ln_23, ln_24, ln_25, ln_30, ln_32, ln_33, ln_34, ln_36, ln_37, ln_40, ln_41, ln_45, ln_48, ln_50, ln_51, ln_57, ln_59, ln_60, ln_63, ln_64, ln_65, ln_66, ln_67, ln_68, ln_69, ln_70, ln_71, ln_72, ln_73, ln_74, ln_75, ln_76, ln_77, ln_78, ln_79, ln_80, ln_81, ln_82, ln_83, ln_84, ln_85, ln_86, ln_87, ln_88, ln_98, ln_100, ln_101, ln_103, ln_104, ln_109, ln_115, ln_127, ln_160, ln_1023, ln_1024, ln_1280, e1, e2, e3, e4]
  have hz : ∀ a b : Bool, (zo a = zo b) ↔ (a = b) := by decide
  simp only [hz, zib]
  by_cases q1 : tK T p = 6
  · simp only [q1, decide_true, decide_false, cond_true, cond_false, Bool.true_or, Bool.not_true, Bool.false_and]
    cases btwT T r p q <;> cases btwT T u p q <;> rfl
  by_cases q2 : tK T q = 6
  · simp only [q1, q2, decide_true, decide_false, cond_true, cond_false, Bool.true_or, Bool.or_true, Bool.not_true, Bool.false_and]
    cases btwT T r p q <;> cases btwT T u p q <;> rfl
  by_cases q3 : tK T r = 6
  · simp only [q1, q2, q3, decide_true, decide_false, cond_true, cond_false, Bool.true_or, Bool.or_true, Bool.false_or, Bool.not_true, Bool.false_and]
    cases btwT T r p q <;> cases btwT T u p q <;> rfl
  by_cases q4 : tK T u = 6
  · simp only [q1, q2, q3, q4, decide_true, decide_false, cond_true, cond_false, Bool.true_or, Bool.or_true, Bool.false_or, Bool.not_true, Bool.false_and]
    cases btwT T r p q <;> cases btwT T u p q <;> rfl
  simp only [q1, q2, q3, q4, decide_true, decide_false, cond_true, cond_false, Bool.or_false]
  cases decide (tK T p = 4) <;> cases decide (tK T q = 4) <;> cases decide (tK T r = 4) <;> cases decide (tK T u = 4) <;> cases btwT T r p q <;> cases btwT T u p q <;> rfl
end TD
