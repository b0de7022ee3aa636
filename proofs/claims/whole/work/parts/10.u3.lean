/-! THE TABLE as a mathematical value: (guests, seats, eyes, kind, seat, a, barred bits, had bits) -/
abbrev zTab : Type := Nat × Nat × Nat × (Nat → Nat) × (Nat → Nat) × (Nat → Nat) × (Nat → Nat) × (Nat → Nat)
abbrev tn (T : zTab) : Nat := T.1
abbrev tz (T : zTab) : Nat := T.2.1
abbrev te (T : zTab) : Nat := T.2.2.1
abbrev tK (T : zTab) : Nat → Nat := T.2.2.2.1
abbrev tS (T : zTab) : Nat → Nat := T.2.2.2.2.1
abbrev tA (T : zTab) : Nat → Nat := T.2.2.2.2.2.1
abbrev tB (T : zTab) : Nat → Nat := T.2.2.2.2.2.2.1
abbrev tH (T : zTab) : Nat → Nat := T.2.2.2.2.2.2.2
def tOK (T : zTab) : Prop := tn T ≤ 10 ∧ 3 ≤ tz T ∧ tz T ≤ 12 ∧ te T ≤ 1 ∧ (∀ g, g < tn T → tK T g < 7 ∧ tS T g < tz T ∧ tA T g ≤ 9 ∧ tB T g < 2 ^ tn T ∧ tH T g < 2 ^ tn T) ∧
  (∀ g h, g < tn T → h < tn T → (tB T g).testBit h = (tB T h).testBit g ∧ (tH T g).testBit h = (tH T h).testBit g) ∧ (∀ g, g < tn T → (tB T g).testBit g = false ∧ (tH T g).testBit g = false) ∧ (∀ g h, g < tn T → h < tn T → tS T g = tS T h → g = h)
/-- the class's t-th table in its memory; the reference's -/
def tC (t : Nat) (T : zTab) (m : zMem) : Prop := m.1 1 t 6 = zi (tn T) ∧ m.1 1 t 5 = zi (tz T) ∧ m.1 1 t 7 = zi (te T) ∧ ∀ g, g < tn T → m.1 2 t g = zi (tK T g) ∧ m.1 3 t g = zi (tS T g) ∧ m.1 4 t g = zi (tA T g) ∧ m.1 5 t g = zi (tB T g) ∧ m.1 6 t g = zi (tH T g)
def tR (T : zTab) (m : zMem) : Prop := m.1 64 0 0 = zi (tn T) ∧ m.1 64 0 1 = zi (tz T) ∧ m.1 64 0 2 = zi (te T) ∧ ∀ g, g < tn T → m.1 66 0 g = zi (tK T g) ∧ m.1 68 0 g = zi (tS T g) ∧ m.1 67 0 g = zi (tA T g) ∧ m.1 69 0 g = zi (tB T g) ∧ m.1 70 0 g = zi (tH T g)
/-- a KIND is of another, or under it -/
def kin (a k : Nat) : Bool := ([1, 3, 5, 11, 17, 37, 81].getD a 0).testBit k
def farT (T : zTab) (g h : Nat) : Nat := let d := if tS T h ≤ tS T g then tS T g - tS T h else tS T h - tS T g; if tz T < 2 * d then tz T - d else d
def rchT (T : zTab) (g d : Nat) : Bool := !kin (tK T g) 1 || decide (d ≤ tA T g + 1)
def mayT (T : zTab) (g h : Nat) : Bool := !(tB T g).testBit h && (!kin (tK T g) 5 && (!kin (tK T h) 5 && (!(kin (tK T g) 3 && kin (tK T h) 3) && (rchT T g (farT T g h) && rchT T h (farT T g h)))))
def wntT (T : zTab) (g h : Nat) : Bool := decide (g ≠ h) && (!(tH T g).testBit h && mayT T g h)
def slwT (T : zTab) (g : Nat) : Nat := if kin (tK T g) 2 then tA T g else 0
def tksT (T : zTab) (g h : Nat) : Nat := let p := 1 + max (slwT T g) (slwT T h); if te T = 1 then 2 * p else p
def btwT (T : zTab) (g p q : Nat) : Bool := decide (min (tS T p) (tS T q) < tS T g) && decide (tS T g < max (tS T p) (tS T q))
def hasT (T : zTab) (g h k : Nat) : Bool := kin (tK T g) k || kin (tK T h) k
def crsT (T : zTab) (p q r t : Nat) : Bool := !(hasT T p q 6 || hasT T r t 6) && (!(hasT T p q 4 && hasT T r t 4) && (btwT T r p q != btwT T t p q))
theorem kin_LN : ∀ a, a < 7 → (zLN.getD a 0 = zi (([1, 3, 5, 11, 17, 37, 81] : List Nat).getD a 0) ∧ ([1, 3, 5, 11, 17, 37, 81] : List Nat).getD a 0 < 2147483648) := by decide +kernel
theorem tOK.n {T : zTab} (h : tOK T) : tn T ≤ 10 := h.1
theorem tOK.g {T : zTab} (h : tOK T) {g : Nat} (hg : g < tn T) : tK T g < 7 ∧ tS T g < tz T ∧ tA T g ≤ 9 ∧ tB T g < 1024 ∧ tH T g < 1024 ∧ tz T ≤ 12 ∧ tn T ≤ 10 ∧ 3 ≤ tz T := by
  obtain ⟨h1, h2, h3, h4, h5, -⟩ := h
  obtain ⟨a, b, c, d, e⟩ := h5 g hg
  have hp : 2 ^ tn T ≤ 2 ^ 10 := Nat.pow_le_pow_right (by omega) h1
  exact ⟨a, b, c, by omega, by omega, h3, h1, h2⟩
section TC
variable {t : Nat} {T : zTab} {m : zMem} {g h : Nat}
theorem isOf_C (hT : tC t T m) (hO : tOK T) (hg : g < tn T) {k : Nat} (hk : k < 32) : s_X5_isOf t (zi g) (zi k) m = some (zo (kin (tK T g) k)) := by
  obtain ⟨k1, k2, k3, k4, k5, k6, k7, k8⟩ := hO.g hg
  obtain ⟨e1, -⟩ := hT.2.2.2 g hg
  obtain ⟨l1, l2⟩ := kin_LN _ k1
  unfold s_X5_isOf
  rw [chk_zi (by omega) (by omega) (by omega), ix_zn (by omega), e1, chk_zi (by omega) (by omega) (by omega), ix_zn (by omega), l1, zi_bit l2 hk, zif0, zsome_zo]
  rfl
theorem far_C (hT : tC t T m) (hO : tOK T) (hg : g < tn T) (hh : h < tn T) : s_X5_distance t (zi g) (zi h) m = some (zi (farT T g h)) := by
  obtain ⟨k1, k2, k3, k4, k5, k6, k7, k8⟩ := hO.g hg
  obtain ⟨j1, j2, -⟩ := hO.g hh
  obtain ⟨-, e1, -⟩ := hT.2.2.2 g hg
  obtain ⟨-, e2, -⟩ := hT.2.2.2 h hh
  unfold s_X5_distance s_X5_distance_L24 farT
  simp (disch := omega) only [chk_zi, ix_zn, ix_zi, Int.toNat_natCast, zr_some, zb_some, zlet_eq, zi_add, zi_sub, zi_mul, zi_neg, zi_lt, zi_le, zi_eq, zif0, zif1, zifn0, zo_t, zo_f, cond_true, cond_false, if_true, if_false, li_m7, li_m6, li_m5, li_m4, li_m3, li_m2, li_m1, li_0, li_1, li_2, li_3, li_4, li_5, li_6, li_7, li_8, li_9, li_10, li_11, li_12, li_13, li_14, li_15, li_16, li_17, li_18, li_19, li_20, li_21, li_22, li_23, li_24, li_25, li_30, li_32, li_33, li_34, li_36, li_37, li_40, li_41, li_45, li_48, li_50, li_51, li_57, li_59, li_60, li_63, li_64, li_65, li_66, li_67, li_68, li_69, li_70, li_71, li_72, li_73, li_74, li_75, li_76, li_77, li_78, li_79, li_80, li_81, li_82, li_83, li_84, li_85, li_86, li_87, li_88, li_98, li_100, li_101, li_103, li_104, li_109, li_115, li_127, li_160, li_1023, li_1024, li_1280, e1, e2, hT.2.1]
  repeat' split
  all_goals first | (refine congrArg (fun q => some (zi q)) ?_; omega) | (exfalso; omega)
theorem far_R (hT : tR T m) (hO : tOK T) (hg : g < tn T) (hh : h < tn T) : s_X7_farOf (zi g) (zi h) m = some (zi (farT T g h)) := by
  obtain ⟨k1, k2, k3, k4, k5, k6, k7, k8⟩ := hO.g hg
  obtain ⟨j1, j2, -⟩ := hO.g hh
  obtain ⟨-, e1, -⟩ := hT.2.2.2 g hg
  obtain ⟨-, e2, -⟩ := hT.2.2.2 h hh
  unfold s_X7_farOf s_X7_farOf_L24 farT
  simp (disch := omega) only [chk_zi, ix_zn, ix_zi, Int.toNat_natCast, zr_some, zb_some, zlet_eq, zi_add, zi_sub, zi_mul, zi_neg, zi_lt, zi_le, zi_eq, zif0, zif1, zifn0, zo_t, zo_f, cond_true, cond_false, if_true, if_false, li_m7, li_m6, li_m5, li_m4, li_m3, li_m2, li_m1, li_0, li_1, li_2, li_3, li_4, li_5, li_6, li_7, li_8, li_9, li_10, li_11, li_12, li_13, li_14, li_15, li_16, li_17, li_18, li_19, li_20, li_21, li_22, li_23, li_24, li_25, li_30, li_32, li_33, li_34, li_36, li_37, li_40, li_41, li_45, li_48, li_50, li_51, li_57, li_59, li_60, li_63, li_64, li_65, li_66, li_67, li_68, li_69, li_70, li_71, li_72, li_73, li_74, li_75, li_76, li_77, li_78, li_79, li_80, li_81, li_82, li_83, li_84, li_85, li_86, li_87, li_88, li_98, li_100, li_101, li_103, li_104, li_109, li_115, li_127, li_160, li_1023, li_1024, li_1280, e1, e2, hT.2.1]
  repeat' split
  all_goals first | (refine congrArg (fun q => some (zi q)) ?_; omega) | (exfalso; omega)
end TC
