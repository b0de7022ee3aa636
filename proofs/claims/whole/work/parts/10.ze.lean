/-! the table kept and brought back while a text is read -/
theorem carJ66_loop {f : Nat} (hf : f ≤ 40) : ∀ (d kf k : Nat) (m : zMem), k + d = 10 → d < kf → ∃ m', s_X7_carries_66_79_L3 kf 10 (zi f) 0 (zi k) m = some (zi (f + 10 : Nat), m') ∧ (∀ j, k ≤ j → j < 10 → m'.1 79 0 (f + j) = m.1 66 0 j) ∧ (∀ i, (i < f + k ∨ f + 10 ≤ i) → m'.1 79 0 i = m.1 79 0 i) ∧ fr (fun c _ _ => Nat.beq c 79) e0 m m' := by
  intro d
  induction d with
  | zero =>
    intro kf k m hk hkf
    obtain ⟨kf, rfl⟩ : ∃ z, kf = z + 1 := ⟨kf - 1, by omega⟩
    unfold s_X7_carries_66_79_L3
    rw [show (10 : Int32) = zi (10 : Nat) from rfl, if_pos (by rw [zi_len (by omega) (by omega)]; omega), zi_addn]
    exact ⟨m, rfl, fun j a b => by omega, fun i _ => rfl, fr_refl _ _ _⟩
  | succ d ih =>
    intro kf k m hk hkf
    obtain ⟨kf, rfl⟩ : ∃ z, kf = z + 1 := ⟨kf - 1, by omega⟩
    have hlt : ¬ (10 : Int32) ≤ zi k := fun w => by rw [show (10 : Int32) = zi (10 : Nat) from rfl, zi_len (by omega) (by omega)] at w; omega
    unfold s_X7_carries_66_79_L3 s_X7_carries_66_79_L39
    rw [if_neg hlt, ite_00, chk_zn (show k < 10 by omega) (by decide), zi_addn, chk_zn (show f + k < 60 by omega) (by decide), ix_zn (show f + k < 2147483648 by omega), ix_zn (show k < 2147483648 by omega), zlet_eq, zi_s1]
    obtain ⟨m', a, b, b2, e⟩ := ih kf (k + 1) (wI m 79 0 (f + k) (m.1 66 0 k)) (by omega) (by omega)
    refine ⟨m', a, fun j j1 j2 => ?_, fun i hi => ?_, fr_trans (fr_wI (fr_refl _ _ _) rfl) e⟩
    · by_cases q : j = k
      · subst q; rw [b2 (f + j) (by omega)]; simp [wI_1]
      · rw [b j (by omega) j2]; simp [wI_1]
    · rw [b2 i (by omega), wI_1, if_neg (by omega)]
theorem carJ66 {f : Nat} (hf : f ≤ 40) (m : zMem) : ∃ m', s_X7_carries_66_79 10 (zi f) 0 m = some (zi (f + 10 : Nat), m') ∧ (∀ j, j < 10 → m'.1 79 0 (f + j) = m.1 66 0 j) ∧ (∀ i, (i < f ∨ f + 10 ≤ i) → m'.1 79 0 i = m.1 79 0 i) ∧ fr (fun c _ _ => Nat.beq c 79) e0 m m' := by
  unfold s_X7_carries_66_79
  obtain ⟨m', a, b, b2, e⟩ := carJ66_loop hf 10 zF 0 m (by omega) (by unfold zF; omega)
  exact ⟨m', a, fun j hj => b j (Nat.zero_le _) hj, fun i hi => b2 i (by omega), e⟩
theorem carJ67_loop {f : Nat} (hf : f ≤ 40) : ∀ (d kf k : Nat) (m : zMem), k + d = 10 → d < kf → ∃ m', s_X7_carries_67_79_L3 kf 10 (zi f) 0 (zi k) m = some (zi (f + 10 : Nat), m') ∧ (∀ j, k ≤ j → j < 10 → m'.1 79 0 (f + j) = m.1 67 0 j) ∧ (∀ i, (i < f + k ∨ f + 10 ≤ i) → m'.1 79 0 i = m.1 79 0 i) ∧ fr (fun c _ _ => Nat.beq c 79) e0 m m' := by
  intro d
  induction d with
  | zero =>
    intro kf k m hk hkf
    obtain ⟨kf, rfl⟩ : ∃ z, kf = z + 1 := ⟨kf - 1, by omega⟩
    unfold s_X7_carries_67_79_L3
    rw [show (10 : Int32) = zi (10 : Nat) from rfl, if_pos (by rw [zi_len (by omega) (by omega)]; omega), zi_addn]
    exact ⟨m, rfl, fun j a b => by omega, fun i _ => rfl, fr_refl _ _ _⟩
  | succ d ih =>
    intro kf k m hk hkf
    obtain ⟨kf, rfl⟩ : ∃ z, kf = z + 1 := ⟨kf - 1, by omega⟩
    have hlt : ¬ (10 : Int32) ≤ zi k := fun w => by rw [show (10 : Int32) = zi (10 : Nat) from rfl, zi_len (by omega) (by omega)] at w; omega
    unfold s_X7_carries_67_79_L3 s_X7_carries_67_79_L39
    rw [if_neg hlt, ite_00, chk_zn (show k < 10 by omega) (by decide), zi_addn, chk_zn (show f + k < 60 by omega) (by decide), ix_zn (show f + k < 2147483648 by omega), ix_zn (show k < 2147483648 by omega), zlet_eq, zi_s1]
    obtain ⟨m', a, b, b2, e⟩ := ih kf (k + 1) (wI m 79 0 (f + k) (m.1 67 0 k)) (by omega) (by omega)
    refine ⟨m', a, fun j j1 j2 => ?_, fun i hi => ?_, fr_trans (fr_wI (fr_refl _ _ _) rfl) e⟩
    · by_cases q : j = k
      · subst q; rw [b2 (f + j) (by omega)]; simp [wI_1]
      · rw [b j (by omega) j2]; simp [wI_1]
    · rw [b2 i (by omega), wI_1, if_neg (by omega)]
theorem carJ67 {f : Nat} (hf : f ≤ 40) (m : zMem) : ∃ m', s_X7_carries_67_79 10 (zi f) 0 m = some (zi (f + 10 : Nat), m') ∧ (∀ j, j < 10 → m'.1 79 0 (f + j) = m.1 67 0 j) ∧ (∀ i, (i < f ∨ f + 10 ≤ i) → m'.1 79 0 i = m.1 79 0 i) ∧ fr (fun c _ _ => Nat.beq c 79) e0 m m' := by
  unfold s_X7_carries_67_79
  obtain ⟨m', a, b, b2, e⟩ := carJ67_loop hf 10 zF 0 m (by omega) (by unfold zF; omega)
  exact ⟨m', a, fun j hj => b j (Nat.zero_le _) hj, fun i hi => b2 i (by omega), e⟩
theorem carJ68_loop {f : Nat} (hf : f ≤ 40) : ∀ (d kf k : Nat) (m : zMem), k + d = 10 → d < kf → ∃ m', s_X7_carries_68_79_L3 kf 10 (zi f) 0 (zi k) m = some (zi (f + 10 : Nat), m') ∧ (∀ j, k ≤ j → j < 10 → m'.1 79 0 (f + j) = m.1 68 0 j) ∧ (∀ i, (i < f + k ∨ f + 10 ≤ i) → m'.1 79 0 i = m.1 79 0 i) ∧ fr (fun c _ _ => Nat.beq c 79) e0 m m' := by
  intro d
  induction d with
  | zero =>
    intro kf k m hk hkf
    obtain ⟨kf, rfl⟩ : ∃ z, kf = z + 1 := ⟨kf - 1, by omega⟩
    unfold s_X7_carries_68_79_L3
    rw [show (10 : Int32) = zi (10 : Nat) from rfl, if_pos (by rw [zi_len (by omega) (by omega)]; omega), zi_addn]
    exact ⟨m, rfl, fun j a b => by omega, fun i _ => rfl, fr_refl _ _ _⟩
  | succ d ih =>
    intro kf k m hk hkf
    obtain ⟨kf, rfl⟩ : ∃ z, kf = z + 1 := ⟨kf - 1, by omega⟩
    have hlt : ¬ (10 : Int32) ≤ zi k := fun w => by rw [show (10 : Int32) = zi (10 : Nat) from rfl, zi_len (by omega) (by omega)] at w; omega
    unfold s_X7_carries_68_79_L3 s_X7_carries_68_79_L39
    rw [if_neg hlt, ite_00, chk_zn (show k < 10 by omega) (by decide), zi_addn, chk_zn (show f + k < 60 by omega) (by decide), ix_zn (show f + k < 2147483648 by omega), ix_zn (show k < 2147483648 by omega), zlet_eq, zi_s1]
    obtain ⟨m', a, b, b2, e⟩ := ih kf (k + 1) (wI m 79 0 (f + k) (m.1 68 0 k)) (by omega) (by omega)
    refine ⟨m', a, fun j j1 j2 => ?_, fun i hi => ?_, fr_trans (fr_wI (fr_refl _ _ _) rfl) e⟩
    · by_cases q : j = k
      · subst q; rw [b2 (f + j) (by omega)]; simp [wI_1]
      · rw [b j (by omega) j2]; simp [wI_1]
    · rw [b2 i (by omega), wI_1, if_neg (by omega)]
theorem carJ68 {f : Nat} (hf : f ≤ 40) (m : zMem) : ∃ m', s_X7_carries_68_79 10 (zi f) 0 m = some (zi (f + 10 : Nat), m') ∧ (∀ j, j < 10 → m'.1 79 0 (f + j) = m.1 68 0 j) ∧ (∀ i, (i < f ∨ f + 10 ≤ i) → m'.1 79 0 i = m.1 79 0 i) ∧ fr (fun c _ _ => Nat.beq c 79) e0 m m' := by
  unfold s_X7_carries_68_79
  obtain ⟨m', a, b, b2, e⟩ := carJ68_loop hf 10 zF 0 m (by omega) (by unfold zF; omega)
  exact ⟨m', a, fun j hj => b j (Nat.zero_le _) hj, fun i hi => b2 i (by omega), e⟩
theorem carJ69_loop {f : Nat} (hf : f ≤ 40) : ∀ (d kf k : Nat) (m : zMem), k + d = 10 → d < kf → ∃ m', s_X7_carries_69_79_L3 kf 10 (zi f) 0 (zi k) m = some (zi (f + 10 : Nat), m') ∧ (∀ j, k ≤ j → j < 10 → m'.1 79 0 (f + j) = m.1 69 0 j) ∧ (∀ i, (i < f + k ∨ f + 10 ≤ i) → m'.1 79 0 i = m.1 79 0 i) ∧ fr (fun c _ _ => Nat.beq c 79) e0 m m' := by
  intro d
  induction d with
  | zero =>
    intro kf k m hk hkf
    obtain ⟨kf, rfl⟩ : ∃ z, kf = z + 1 := ⟨kf - 1, by omega⟩
    unfold s_X7_carries_69_79_L3
    rw [show (10 : Int32) = zi (10 : Nat) from rfl, if_pos (by rw [zi_len (by omega) (by omega)]; omega), zi_addn]
    exact ⟨m, rfl, fun j a b => by omega, fun i _ => rfl, fr_refl _ _ _⟩
  | succ d ih =>
    intro kf k m hk hkf
    obtain ⟨kf, rfl⟩ : ∃ z, kf = z + 1 := ⟨kf - 1, by omega⟩
    have hlt : ¬ (10 : Int32) ≤ zi k := fun w => by rw [show (10 : Int32) = zi (10 : Nat) from rfl, zi_len (by omega) (by omega)] at w; omega
    unfold s_X7_carries_69_79_L3 s_X7_carries_69_79_L39
    rw [if_neg hlt, ite_00, chk_zn (show k < 10 by omega) (by decide), zi_addn, chk_zn (show f + k < 60 by omega) (by decide), ix_zn (show f + k < 2147483648 by omega), ix_zn (show k < 2147483648 by omega), zlet_eq, zi_s1]
    obtain ⟨m', a, b, b2, e⟩ := ih kf (k + 1) (wI m 79 0 (f + k) (m.1 69 0 k)) (by omega) (by omega)
    refine ⟨m', a, fun j j1 j2 => ?_, fun i hi => ?_, fr_trans (fr_wI (fr_refl _ _ _) rfl) e⟩
    · by_cases q : j = k
      · subst q; rw [b2 (f + j) (by omega)]; simp [wI_1]
      · rw [b j (by omega) j2]; simp [wI_1]
    · rw [b2 i (by omega), wI_1, if_neg (by omega)]
theorem carJ69 {f : Nat} (hf : f ≤ 40) (m : zMem) : ∃ m', s_X7_carries_69_79 10 (zi f) 0 m = some (zi (f + 10 : Nat), m') ∧ (∀ j, j < 10 → m'.1 79 0 (f + j) = m.1 69 0 j) ∧ (∀ i, (i < f ∨ f + 10 ≤ i) → m'.1 79 0 i = m.1 79 0 i) ∧ fr (fun c _ _ => Nat.beq c 79) e0 m m' := by
  unfold s_X7_carries_69_79
  obtain ⟨m', a, b, b2, e⟩ := carJ69_loop hf 10 zF 0 m (by omega) (by unfold zF; omega)
  exact ⟨m', a, fun j hj => b j (Nat.zero_le _) hj, fun i hi => b2 i (by omega), e⟩
theorem carJ70_loop {f : Nat} (hf : f ≤ 40) : ∀ (d kf k : Nat) (m : zMem), k + d = 10 → d < kf → ∃ m', s_X7_carries_70_79_L3 kf 10 (zi f) 0 (zi k) m = some (zi (f + 10 : Nat), m') ∧ (∀ j, k ≤ j → j < 10 → m'.1 79 0 (f + j) = m.1 70 0 j) ∧ (∀ i, (i < f + k ∨ f + 10 ≤ i) → m'.1 79 0 i = m.1 79 0 i) ∧ fr (fun c _ _ => Nat.beq c 79) e0 m m' := by
  intro d
  induction d with
  | zero =>
    intro kf k m hk hkf
    obtain ⟨kf, rfl⟩ : ∃ z, kf = z + 1 := ⟨kf - 1, by omega⟩
    unfold s_X7_carries_70_79_L3
    rw [show (10 : Int32) = zi (10 : Nat) from rfl, if_pos (by rw [zi_len (by omega) (by omega)]; omega), zi_addn]
    exact ⟨m, rfl, fun j a b => by omega, fun i _ => rfl, fr_refl _ _ _⟩
  | succ d ih =>
    intro kf k m hk hkf
    obtain ⟨kf, rfl⟩ : ∃ z, kf = z + 1 := ⟨kf - 1, by omega⟩
    have hlt : ¬ (10 : Int32) ≤ zi k := fun w => by rw [show (10 : Int32) = zi (10 : Nat) from rfl, zi_len (by omega) (by omega)] at w; omega
    unfold s_X7_carries_70_79_L3 s_X7_carries_70_79_L39
    rw [if_neg hlt, ite_00, chk_zn (show k < 10 by omega) (by decide), zi_addn, chk_zn (show f + k < 60 by omega) (by decide), ix_zn (show f + k < 2147483648 by omega), ix_zn (show k < 2147483648 by omega), zlet_eq, zi_s1]
    obtain ⟨m', a, b, b2, e⟩ := ih kf (k + 1) (wI m 79 0 (f + k) (m.1 70 0 k)) (by omega) (by omega)
    refine ⟨m', a, fun j j1 j2 => ?_, fun i hi => ?_, fr_trans (fr_wI (fr_refl _ _ _) rfl) e⟩
    · by_cases q : j = k
      · subst q; rw [b2 (f + j) (by omega)]; simp [wI_1]
      · rw [b j (by omega) j2]; simp [wI_1]
    · rw [b2 i (by omega), wI_1, if_neg (by omega)]
theorem carJ70 {f : Nat} (hf : f ≤ 40) (m : zMem) : ∃ m', s_X7_carries_70_79 10 (zi f) 0 m = some (zi (f + 10 : Nat), m') ∧ (∀ j, j < 10 → m'.1 79 0 (f + j) = m.1 70 0 j) ∧ (∀ i, (i < f ∨ f + 10 ≤ i) → m'.1 79 0 i = m.1 79 0 i) ∧ fr (fun c _ _ => Nat.beq c 79) e0 m m' := by
  unfold s_X7_carries_70_79
  obtain ⟨m', a, b, b2, e⟩ := carJ70_loop hf 10 zF 0 m (by omega) (by unfold zF; omega)
  exact ⟨m', a, fun j hj => b j (Nat.zero_le _) hj, fun i hi => b2 i (by omega), e⟩

section ZE6
variable {T : zTab} {c r m : zMem}
def f79 : zEx := fun c _ _ => Nat.beq c 79
theorem all79_R (hT : tR T m) (hn : tn T ≤ 10) : ∃ m', s_X7_all_79 0 m = some m' ∧ tKp T (m'.1 79 0) ∧ m'.1 79 0 53 = m.1 64 0 3 ∧ m'.1 79 0 54 = m.1 64 0 4 ∧ m'.1 79 0 55 = m.1 64 0 5 ∧ fr f79 e0 m m' := by
  obtain ⟨m1, a1, a2, a3, a4⟩ := carJ66 (show 0 ≤ 40 by omega) m
  obtain ⟨m2, b1, b2, b3, b4⟩ := carJ67 (show 10 ≤ 40 by omega) m1
  obtain ⟨m3, c1, c2, c3, c4⟩ := carJ68 (show 20 ≤ 40 by omega) m2
  obtain ⟨m4, d1, d2, d3, d4⟩ := carJ69 (show 30 ≤ 40 by omega) m3
  obtain ⟨m5, e1, e2, e3, e4⟩ := carJ70 (show 40 ≤ 40 by omega) m4
  have f5 : fr f79 e0 m m5 := fr_trans a4 (fr_trans b4 (fr_trans c4 (fr_trans d4 e4)))
  obtain ⟨t1, t2, t3, t4⟩ := hT
  unfold s_X7_all_79
  rw [show s_X7_carries_66_79 10 0 0 m = _ from a1, zb_some, b1, zb_some, c1, zb_some, d1, zb_some, e1, zb_some, if_pos rfl]
  have k : ∀ j : Nat, j ≤ 5 → ix (zi (40 + 10 + j : Nat)) = 50 + j := fun j hj => by rw [ix_zn (by omega)]
  have h50 : zi (40 + 10 : Nat) = zi (50 : Nat) := rfl
  rw [h50]
  simp only [show zi (50 : Nat) + (1 : Int32) = zi (51 : Nat) from rfl, show zi (50 : Nat) + (2 : Int32) = zi (52 : Nat) from rfl, show zi (50 : Nat) + (3 : Int32) = zi (53 : Nat) from rfl, show zi (50 : Nat) + (4 : Int32) = zi (54 : Nat) from rfl, show zi (50 : Nat) + (5 : Int32) = zi (55 : Nat) from rfl, chk_zn (show 50 < 60 by decide) (show (60 : Nat) < 2147483648 by decide), chk_zn (show 51 < 60 by decide) (show (60 : Nat) < 2147483648 by decide), chk_zn (show 52 < 60 by decide) (show (60 : Nat) < 2147483648 by decide), chk_zn (show 53 < 60 by decide) (show (60 : Nat) < 2147483648 by decide), chk_zn (show 54 < 60 by decide) (show (60 : Nat) < 2147483648 by decide), chk_zn (show 55 < 60 by decide) (show (60 : Nat) < 2147483648 by decide), ix_zn (show 50 < 2147483648 by decide), ix_zn (show 51 < 2147483648 by decide), ix_zn (show 52 < 2147483648 by decide), ix_zn (show 53 < 2147483648 by decide), ix_zn (show 54 < 2147483648 by decide), ix_zn (show 55 < 2147483648 by decide), zlet_eq]
  have x : ∀ j, m5.1 64 0 j = m.1 64 0 j := fun j => f5.1 64 0 j rfl
  refine ⟨_, rfl, ⟨?_, ?_, ?_, fun g hg => ?_⟩, ?_, ?_, ?_, fr_wI (fr_wI (fr_wI (fr_wI (fr_wI (fr_wI f5 rfl) rfl) rfl) rfl) rfl) rfl⟩
  · simp [wI_1, x, t1]
  · simp [wI_1, x, t2]
  · simp [wI_1, x, t3]
  · obtain ⟨g1, g2, g3, g4, g5⟩ := t4 g hg
    have n : ∀ i, i < 50 → ∀ v0 v1 v2 v3 v4 v5, (wI (wI (wI (wI (wI (wI m5 79 0 50 v0) 79 0 51 v1) 79 0 52 v2) 79 0 53 v3) 79 0 54 v4) 79 0 55 v5).1 79 0 i = m5.1 79 0 i := fun i hi v0 v1 v2 v3 v4 v5 => by
      rw [wI_1, if_neg (by omega), wI_1, if_neg (by omega), wI_1, if_neg (by omega), wI_1, if_neg (by omega), wI_1, if_neg (by omega), wI_1, if_neg (by omega)]
    refine ⟨?_, ?_, ?_, ?_, ?_⟩
    · rw [n g (by omega), e3 g (by omega), d3 g (by omega), c3 g (by omega), b3 g (by omega)]
      have := a2 g (by omega); rw [Nat.zero_add] at this; rw [this, g1]
    · rw [n (20 + g) (by omega), e3 _ (by omega), d3 _ (by omega), c2 g (by omega), b4.1 68 0 g rfl, a4.1 68 0 g rfl, g2]
    · rw [n (10 + g) (by omega), e3 _ (by omega), d3 _ (by omega), c3 _ (by omega), b2 g (by omega), a4.1 67 0 g rfl, g3]
    · rw [n (30 + g) (by omega), e3 _ (by omega), d2 g (by omega), c4.1 69 0 g rfl, b4.1 69 0 g rfl, a4.1 69 0 g rfl, g4]
    · rw [n (40 + g) (by omega), e2 g (by omega), d4.1 70 0 g rfl, c4.1 70 0 g rfl, b4.1 70 0 g rfl, a4.1 70 0 g rfl, g5]
  · simp [wI_1, x]
  · simp [wI_1, x]
  · simp [wI_1, x]
end ZE6

section ZE9
variable {T : zTab} {m : zMem}
theorem all79_back (hT : tKp T (m.1 79 0)) (hn : tn T ≤ 10) : ∃ m', s_X7_all_79 1 m = some m' ∧ tR T m' ∧ m'.1 64 0 3 = m.1 79 0 53 ∧ m'.1 64 0 4 = m.1 79 0 54 ∧ m'.1 64 0 5 = m.1 79 0 55 ∧ fr fB6 e0 m m' := by
  obtain ⟨m1, a1, a2, a4⟩ := carO66_79 (show 0 ≤ 40 by omega) m
  obtain ⟨m2, b1, b2, b4⟩ := carO67_79 (show 10 ≤ 40 by omega) m1
  obtain ⟨m3, c1, c2, c4⟩ := carO68_79 (show 20 ≤ 40 by omega) m2
  obtain ⟨m4, d1, d2, d4⟩ := carO69_79 (show 30 ≤ 40 by omega) m3
  obtain ⟨m5, e1, e2, e4⟩ := carO70_79 (show 40 ≤ 40 by omega) m4
  have f5 : fr fB6 e0 m m5 := fr_trans (fr_B6 (by omega) a4) (fr_trans (fr_B6 (by omega) b4) (fr_trans (fr_B6 (by omega) c4) (fr_trans (fr_B6 (by omega) d4) (fr_B6 (by omega) e4))))
  obtain ⟨t1, t2, t3, t4⟩ := hT
  unfold s_X7_all_79
  rw [show s_X7_carries_66_79 10 0 1 m = _ from a1, zb_some, b1, zb_some, c1, zb_some, d1, zb_some, e1, zb_some, if_neg n10]
  have h50 : zi (40 + 10 : Nat) = zi (50 : Nat) := rfl
  rw [h50]
  simp only [show zi (50 : Nat) + (1 : Int32) = zi (51 : Nat) from rfl, show zi (50 : Nat) + (2 : Int32) = zi (52 : Nat) from rfl, show zi (50 : Nat) + (3 : Int32) = zi (53 : Nat) from rfl, show zi (50 : Nat) + (4 : Int32) = zi (54 : Nat) from rfl, show zi (50 : Nat) + (5 : Int32) = zi (55 : Nat) from rfl, chk_zn (show 50 < 60 by decide) (show (60 : Nat) < 2147483648 by decide), chk_zn (show 51 < 60 by decide) (show (60 : Nat) < 2147483648 by decide), chk_zn (show 52 < 60 by decide) (show (60 : Nat) < 2147483648 by decide), chk_zn (show 53 < 60 by decide) (show (60 : Nat) < 2147483648 by decide), chk_zn (show 54 < 60 by decide) (show (60 : Nat) < 2147483648 by decide), chk_zn (show 55 < 60 by decide) (show (60 : Nat) < 2147483648 by decide), ix_zn (show 50 < 2147483648 by decide), ix_zn (show 51 < 2147483648 by decide), ix_zn (show 52 < 2147483648 by decide), ix_zn (show 53 < 2147483648 by decide), ix_zn (show 54 < 2147483648 by decide), ix_zn (show 55 < 2147483648 by decide), zlet_eq]
  have x : ∀ j, m5.1 79 0 j = m.1 79 0 j := fun j => f5.1 79 0 j rfl
  refine ⟨_, rfl, ⟨?_, ?_, ?_, fun g hg => ?_⟩, ?_, ?_, ?_, fr_wI (fr_wI (fr_wI (fr_wI (fr_wI (fr_wI f5 rfl) rfl) rfl) rfl) rfl) rfl⟩
  · simp [wI_1, x, t1]
  · simp [wI_1, x, t2]
  · simp [wI_1, x, t3]
  · obtain ⟨g1, g2, g3, g4, g5⟩ := t4 g hg
    have a2' := a2 g (by omega)
    rw [Nat.zero_add] at a2'
    refine ⟨?_, ?_, ?_, ?_, ?_⟩
    · simp [wI_1]; rw [e4.1 66 0 g rfl, d4.1 66 0 g rfl, c4.1 66 0 g rfl, b4.1 66 0 g rfl, a2', g1]
    · simp [wI_1]; rw [e4.1 68 0 g rfl, d4.1 68 0 g rfl, c2 g (by omega), b4.1 79 0 _ rfl, a4.1 79 0 _ rfl, g2]
    · simp [wI_1]; rw [e4.1 67 0 g rfl, d4.1 67 0 g rfl, c4.1 67 0 g rfl, b2 g (by omega), a4.1 79 0 _ rfl, g3]
    · simp [wI_1]; rw [e4.1 69 0 g rfl, d2 g (by omega), c4.1 79 0 _ rfl, b4.1 79 0 _ rfl, a4.1 79 0 _ rfl, g4]
    · simp [wI_1]; rw [e2 g (by omega), d4.1 79 0 _ rfl, c4.1 79 0 _ rfl, b4.1 79 0 _ rfl, a4.1 79 0 _ rfl, g5]
  · simp [wI_1, x]
  · simp [wI_1, x]
  · simp [wI_1, x]
end ZE9
