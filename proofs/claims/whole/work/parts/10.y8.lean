/-! the table carried back -/
theorem carO66_80_loop {f : Nat} (hf : f ≤ 40) : ∀ (d kf k : Nat) (m : zMem), k + d = 10 → d < kf → ∃ m', s_X7_carries_66_80_L3 kf 10 (zi f) 1 (zi k) m = some (zi (f + 10 : Nat), m') ∧ (∀ j, k ≤ j → j < 10 → m'.1 66 0 j = m.1 80 0 (f + j)) ∧ (∀ i, i < k → m'.1 66 0 i = m.1 66 0 i) ∧ fr (fun c _ _ => Nat.beq c 66) e0 m m' := by
  intro d
  induction d with
  | zero =>
    intro kf k m hk hkf
    obtain ⟨kf, rfl⟩ : ∃ z, kf = z + 1 := ⟨kf - 1, by omega⟩
    unfold s_X7_carries_66_80_L3
    rw [show (10 : Int32) = zi (10 : Nat) from rfl, if_pos (by rw [zi_len (by omega) (by omega)]; omega), zi_addn]
    exact ⟨m, rfl, fun j a b => by omega, fun i _ => rfl, fr_refl _ _ _⟩
  | succ d ih =>
    intro kf k m hk hkf
    obtain ⟨kf, rfl⟩ : ∃ z, kf = z + 1 := ⟨kf - 1, by omega⟩
    have hlt : ¬ (10 : Int32) ≤ zi k := fun w => by rw [show (10 : Int32) = zi (10 : Nat) from rfl, zi_len (by omega) (by omega)] at w; omega
    unfold s_X7_carries_66_80_L3 s_X7_carries_66_80_L39
    rw [if_neg hlt, ite_10, zi_addn, chk_zn (show f + k < 60 by omega) (by decide), chk_zn (show k < 10 by omega) (by decide), ix_zn (show f + k < 2147483648 by omega), ix_zn (show k < 2147483648 by omega), zlet_eq, zi_s1]
    obtain ⟨m', a, b, b2, e⟩ := ih kf (k + 1) (wI m 66 0 k (m.1 80 0 (f + k))) (by omega) (by omega)
    refine ⟨m', a, fun j j1 j2 => ?_, fun i hi => ?_, fr_trans (fr_wI (fr_refl _ _ _) rfl) e⟩
    · by_cases q : j = k
      · subst q; rw [b2 j (by omega)]; simp [wI_1]
      · rw [b j (by omega) j2]; simp [wI_1]
    · rw [b2 i (by omega), wI_1, if_neg (by omega)]
theorem carO66_80 {f : Nat} (hf : f ≤ 40) (m : zMem) : ∃ m', s_X7_carries_66_80 10 (zi f) 1 m = some (zi (f + 10 : Nat), m') ∧ (∀ j, j < 10 → m'.1 66 0 j = m.1 80 0 (f + j)) ∧ fr (fun c _ _ => Nat.beq c 66) e0 m m' := by
  unfold s_X7_carries_66_80
  obtain ⟨m', a, b, -, e⟩ := carO66_80_loop hf 10 zF 0 m (by omega) (by unfold zF; omega)
  exact ⟨m', a, fun j hj => b j (Nat.zero_le _) hj, e⟩
theorem carO67_80_loop {f : Nat} (hf : f ≤ 40) : ∀ (d kf k : Nat) (m : zMem), k + d = 10 → d < kf → ∃ m', s_X7_carries_67_80_L3 kf 10 (zi f) 1 (zi k) m = some (zi (f + 10 : Nat), m') ∧ (∀ j, k ≤ j → j < 10 → m'.1 67 0 j = m.1 80 0 (f + j)) ∧ (∀ i, i < k → m'.1 67 0 i = m.1 67 0 i) ∧ fr (fun c _ _ => Nat.beq c 67) e0 m m' := by
  intro d
  induction d with
  | zero =>
    intro kf k m hk hkf
    obtain ⟨kf, rfl⟩ : ∃ z, kf = z + 1 := ⟨kf - 1, by omega⟩
    unfold s_X7_carries_67_80_L3
    rw [show (10 : Int32) = zi (10 : Nat) from rfl, if_pos (by rw [zi_len (by omega) (by omega)]; omega), zi_addn]
    exact ⟨m, rfl, fun j a b => by omega, fun i _ => rfl, fr_refl _ _ _⟩
  | succ d ih =>
    intro kf k m hk hkf
    obtain ⟨kf, rfl⟩ : ∃ z, kf = z + 1 := ⟨kf - 1, by omega⟩
    have hlt : ¬ (10 : Int32) ≤ zi k := fun w => by rw [show (10 : Int32) = zi (10 : Nat) from rfl, zi_len (by omega) (by omega)] at w; omega
    unfold s_X7_carries_67_80_L3 s_X7_carries_67_80_L39
    rw [if_neg hlt, ite_10, zi_addn, chk_zn (show f + k < 60 by omega) (by decide), chk_zn (show k < 10 by omega) (by decide), ix_zn (show f + k < 2147483648 by omega), ix_zn (show k < 2147483648 by omega), zlet_eq, zi_s1]
    obtain ⟨m', a, b, b2, e⟩ := ih kf (k + 1) (wI m 67 0 k (m.1 80 0 (f + k))) (by omega) (by omega)
    refine ⟨m', a, fun j j1 j2 => ?_, fun i hi => ?_, fr_trans (fr_wI (fr_refl _ _ _) rfl) e⟩
    · by_cases q : j = k
      · subst q; rw [b2 j (by omega)]; simp [wI_1]
      · rw [b j (by omega) j2]; simp [wI_1]
    · rw [b2 i (by omega), wI_1, if_neg (by omega)]
theorem carO67_80 {f : Nat} (hf : f ≤ 40) (m : zMem) : ∃ m', s_X7_carries_67_80 10 (zi f) 1 m = some (zi (f + 10 : Nat), m') ∧ (∀ j, j < 10 → m'.1 67 0 j = m.1 80 0 (f + j)) ∧ fr (fun c _ _ => Nat.beq c 67) e0 m m' := by
  unfold s_X7_carries_67_80
  obtain ⟨m', a, b, -, e⟩ := carO67_80_loop hf 10 zF 0 m (by omega) (by unfold zF; omega)
  exact ⟨m', a, fun j hj => b j (Nat.zero_le _) hj, e⟩
theorem carO68_80_loop {f : Nat} (hf : f ≤ 40) : ∀ (d kf k : Nat) (m : zMem), k + d = 10 → d < kf → ∃ m', s_X7_carries_68_80_L3 kf 10 (zi f) 1 (zi k) m = some (zi (f + 10 : Nat), m') ∧ (∀ j, k ≤ j → j < 10 → m'.1 68 0 j = m.1 80 0 (f + j)) ∧ (∀ i, i < k → m'.1 68 0 i = m.1 68 0 i) ∧ fr (fun c _ _ => Nat.beq c 68) e0 m m' := by
  intro d
  induction d with
  | zero =>
    intro kf k m hk hkf
    obtain ⟨kf, rfl⟩ : ∃ z, kf = z + 1 := ⟨kf - 1, by omega⟩
    unfold s_X7_carries_68_80_L3
    rw [show (10 : Int32) = zi (10 : Nat) from rfl, if_pos (by rw [zi_len (by omega) (by omega)]; omega), zi_addn]
    exact ⟨m, rfl, fun j a b => by omega, fun i _ => rfl, fr_refl _ _ _⟩
  | succ d ih =>
    intro kf k m hk hkf
    obtain ⟨kf, rfl⟩ : ∃ z, kf = z + 1 := ⟨kf - 1, by omega⟩
    have hlt : ¬ (10 : Int32) ≤ zi k := fun w => by rw [show (10 : Int32) = zi (10 : Nat) from rfl, zi_len (by omega) (by omega)] at w; omega
    unfold s_X7_carries_68_80_L3 s_X7_carries_68_80_L39
    rw [if_neg hlt, ite_10, zi_addn, chk_zn (show f + k < 60 by omega) (by decide), chk_zn (show k < 10 by omega) (by decide), ix_zn (show f + k < 2147483648 by omega), ix_zn (show k < 2147483648 by omega), zlet_eq, zi_s1]
    obtain ⟨m', a, b, b2, e⟩ := ih kf (k + 1) (wI m 68 0 k (m.1 80 0 (f + k))) (by omega) (by omega)
    refine ⟨m', a, fun j j1 j2 => ?_, fun i hi => ?_, fr_trans (fr_wI (fr_refl _ _ _) rfl) e⟩
    · by_cases q : j = k
      · subst q; rw [b2 j (by omega)]; simp [wI_1]
      · rw [b j (by omega) j2]; simp [wI_1]
    · rw [b2 i (by omega), wI_1, if_neg (by omega)]
theorem carO68_80 {f : Nat} (hf : f ≤ 40) (m : zMem) : ∃ m', s_X7_carries_68_80 10 (zi f) 1 m = some (zi (f + 10 : Nat), m') ∧ (∀ j, j < 10 → m'.1 68 0 j = m.1 80 0 (f + j)) ∧ fr (fun c _ _ => Nat.beq c 68) e0 m m' := by
  unfold s_X7_carries_68_80
  obtain ⟨m', a, b, -, e⟩ := carO68_80_loop hf 10 zF 0 m (by omega) (by unfold zF; omega)
  exact ⟨m', a, fun j hj => b j (Nat.zero_le _) hj, e⟩
theorem carO69_80_loop {f : Nat} (hf : f ≤ 40) : ∀ (d kf k : Nat) (m : zMem), k + d = 10 → d < kf → ∃ m', s_X7_carries_69_80_L3 kf 10 (zi f) 1 (zi k) m = some (zi (f + 10 : Nat), m') ∧ (∀ j, k ≤ j → j < 10 → m'.1 69 0 j = m.1 80 0 (f + j)) ∧ (∀ i, i < k → m'.1 69 0 i = m.1 69 0 i) ∧ fr (fun c _ _ => Nat.beq c 69) e0 m m' := by
  intro d
  induction d with
  | zero =>
    intro kf k m hk hkf
    obtain ⟨kf, rfl⟩ : ∃ z, kf = z + 1 := ⟨kf - 1, by omega⟩
    unfold s_X7_carries_69_80_L3
    rw [show (10 : Int32) = zi (10 : Nat) from rfl, if_pos (by rw [zi_len (by omega) (by omega)]; omega), zi_addn]
    exact ⟨m, rfl, fun j a b => by omega, fun i _ => rfl, fr_refl _ _ _⟩
  | succ d ih =>
    intro kf k m hk hkf
    obtain ⟨kf, rfl⟩ : ∃ z, kf = z + 1 := ⟨kf - 1, by omega⟩
    have hlt : ¬ (10 : Int32) ≤ zi k := fun w => by rw [show (10 : Int32) = zi (10 : Nat) from rfl, zi_len (by omega) (by omega)] at w; omega
    unfold s_X7_carries_69_80_L3 s_X7_carries_69_80_L39
    rw [if_neg hlt, ite_10, zi_addn, chk_zn (show f + k < 60 by omega) (by decide), chk_zn (show k < 10 by omega) (by decide), ix_zn (show f + k < 2147483648 by omega), ix_zn (show k < 2147483648 by omega), zlet_eq, zi_s1]
    obtain ⟨m', a, b, b2, e⟩ := ih kf (k + 1) (wI m 69 0 k (m.1 80 0 (f + k))) (by omega) (by omega)
    refine ⟨m', a, fun j j1 j2 => ?_, fun i hi => ?_, fr_trans (fr_wI (fr_refl _ _ _) rfl) e⟩
    · by_cases q : j = k
      · subst q; rw [b2 j (by omega)]; simp [wI_1]
      · rw [b j (by omega) j2]; simp [wI_1]
    · rw [b2 i (by omega), wI_1, if_neg (by omega)]
theorem carO69_80 {f : Nat} (hf : f ≤ 40) (m : zMem) : ∃ m', s_X7_carries_69_80 10 (zi f) 1 m = some (zi (f + 10 : Nat), m') ∧ (∀ j, j < 10 → m'.1 69 0 j = m.1 80 0 (f + j)) ∧ fr (fun c _ _ => Nat.beq c 69) e0 m m' := by
  unfold s_X7_carries_69_80
  obtain ⟨m', a, b, -, e⟩ := carO69_80_loop hf 10 zF 0 m (by omega) (by unfold zF; omega)
  exact ⟨m', a, fun j hj => b j (Nat.zero_le _) hj, e⟩
theorem carO70_80_loop {f : Nat} (hf : f ≤ 40) : ∀ (d kf k : Nat) (m : zMem), k + d = 10 → d < kf → ∃ m', s_X7_carries_70_80_L3 kf 10 (zi f) 1 (zi k) m = some (zi (f + 10 : Nat), m') ∧ (∀ j, k ≤ j → j < 10 → m'.1 70 0 j = m.1 80 0 (f + j)) ∧ (∀ i, i < k → m'.1 70 0 i = m.1 70 0 i) ∧ fr (fun c _ _ => Nat.beq c 70) e0 m m' := by
  intro d
  induction d with
  | zero =>
    intro kf k m hk hkf
    obtain ⟨kf, rfl⟩ : ∃ z, kf = z + 1 := ⟨kf - 1, by omega⟩
    unfold s_X7_carries_70_80_L3
    rw [show (10 : Int32) = zi (10 : Nat) from rfl, if_pos (by rw [zi_len (by omega) (by omega)]; omega), zi_addn]
    exact ⟨m, rfl, fun j a b => by omega, fun i _ => rfl, fr_refl _ _ _⟩
  | succ d ih =>
    intro kf k m hk hkf
    obtain ⟨kf, rfl⟩ : ∃ z, kf = z + 1 := ⟨kf - 1, by omega⟩
    have hlt : ¬ (10 : Int32) ≤ zi k := fun w => by rw [show (10 : Int32) = zi (10 : Nat) from rfl, zi_len (by omega) (by omega)] at w; omega
    unfold s_X7_carries_70_80_L3 s_X7_carries_70_80_L39
    rw [if_neg hlt, ite_10, zi_addn, chk_zn (show f + k < 60 by omega) (by decide), chk_zn (show k < 10 by omega) (by decide), ix_zn (show f + k < 2147483648 by omega), ix_zn (show k < 2147483648 by omega), zlet_eq, zi_s1]
    obtain ⟨m', a, b, b2, e⟩ := ih kf (k + 1) (wI m 70 0 k (m.1 80 0 (f + k))) (by omega) (by omega)
    refine ⟨m', a, fun j j1 j2 => ?_, fun i hi => ?_, fr_trans (fr_wI (fr_refl _ _ _) rfl) e⟩
    · by_cases q : j = k
      · subst q; rw [b2 j (by omega)]; simp [wI_1]
      · rw [b j (by omega) j2]; simp [wI_1]
    · rw [b2 i (by omega), wI_1, if_neg (by omega)]
theorem carO70_80 {f : Nat} (hf : f ≤ 40) (m : zMem) : ∃ m', s_X7_carries_70_80 10 (zi f) 1 m = some (zi (f + 10 : Nat), m') ∧ (∀ j, j < 10 → m'.1 70 0 j = m.1 80 0 (f + j)) ∧ fr (fun c _ _ => Nat.beq c 70) e0 m m' := by
  unfold s_X7_carries_70_80
  obtain ⟨m', a, b, -, e⟩ := carO70_80_loop hf 10 zF 0 m (by omega) (by unfold zF; omega)
  exact ⟨m', a, fun j hj => b j (Nat.zero_le _) hj, e⟩
theorem carO66_79_loop {f : Nat} (hf : f ≤ 40) : ∀ (d kf k : Nat) (m : zMem), k + d = 10 → d < kf → ∃ m', s_X7_carries_66_79_L3 kf 10 (zi f) 1 (zi k) m = some (zi (f + 10 : Nat), m') ∧ (∀ j, k ≤ j → j < 10 → m'.1 66 0 j = m.1 79 0 (f + j)) ∧ (∀ i, i < k → m'.1 66 0 i = m.1 66 0 i) ∧ fr (fun c _ _ => Nat.beq c 66) e0 m m' := by
  intro d
  induction d with
  | zero =>
    intro kf k m hk hkf
    obtain ⟨kf, rfl⟩ : ∃ z, kf = z + 1 := ⟨kf - 1, by omega⟩
    unfold s_X7_carries_66_79_L3
    rw [show (10 : Int32) = zi (10 : Nat) from rfl, if_pos (by rw [zi_len (by omega) (by omega)]; omega), zi_addn]
    exact ⟨m, rfl, fun j a b => by omega, fun i _ => rfl, fr_refl _ _ _⟩
  | succ d ih =>
    intro kf k m hk hkf
    obtain ⟨kf, rfl⟩ : ∃ z, kf = z + 1 := ⟨kf - 1, by omega⟩
    have hlt : ¬ (10 : Int32) ≤ zi k := fun w => by rw [show (10 : Int32) = zi (10 : Nat) from rfl, zi_len (by omega) (by omega)] at w; omega
    unfold s_X7_carries_66_79_L3 s_X7_carries_66_79_L39
    rw [if_neg hlt, ite_10, zi_addn, chk_zn (show f + k < 60 by omega) (by decide), chk_zn (show k < 10 by omega) (by decide), ix_zn (show f + k < 2147483648 by omega), ix_zn (show k < 2147483648 by omega), zlet_eq, zi_s1]
    obtain ⟨m', a, b, b2, e⟩ := ih kf (k + 1) (wI m 66 0 k (m.1 79 0 (f + k))) (by omega) (by omega)
    refine ⟨m', a, fun j j1 j2 => ?_, fun i hi => ?_, fr_trans (fr_wI (fr_refl _ _ _) rfl) e⟩
    · by_cases q : j = k
      · subst q; rw [b2 j (by omega)]; simp [wI_1]
      · rw [b j (by omega) j2]; simp [wI_1]
    · rw [b2 i (by omega), wI_1, if_neg (by omega)]
theorem carO66_79 {f : Nat} (hf : f ≤ 40) (m : zMem) : ∃ m', s_X7_carries_66_79 10 (zi f) 1 m = some (zi (f + 10 : Nat), m') ∧ (∀ j, j < 10 → m'.1 66 0 j = m.1 79 0 (f + j)) ∧ fr (fun c _ _ => Nat.beq c 66) e0 m m' := by
  unfold s_X7_carries_66_79
  obtain ⟨m', a, b, -, e⟩ := carO66_79_loop hf 10 zF 0 m (by omega) (by unfold zF; omega)
  exact ⟨m', a, fun j hj => b j (Nat.zero_le _) hj, e⟩
theorem carO67_79_loop {f : Nat} (hf : f ≤ 40) : ∀ (d kf k : Nat) (m : zMem), k + d = 10 → d < kf → ∃ m', s_X7_carries_67_79_L3 kf 10 (zi f) 1 (zi k) m = some (zi (f + 10 : Nat), m') ∧ (∀ j, k ≤ j → j < 10 → m'.1 67 0 j = m.1 79 0 (f + j)) ∧ (∀ i, i < k → m'.1 67 0 i = m.1 67 0 i) ∧ fr (fun c _ _ => Nat.beq c 67) e0 m m' := by
  intro d
  induction d with
  | zero =>
    intro kf k m hk hkf
    obtain ⟨kf, rfl⟩ : ∃ z, kf = z + 1 := ⟨kf - 1, by omega⟩
    unfold s_X7_carries_67_79_L3
    rw [show (10 : Int32) = zi (10 : Nat) from rfl, if_pos (by rw [zi_len (by omega) (by omega)]; omega), zi_addn]
    exact ⟨m, rfl, fun j a b => by omega, fun i _ => rfl, fr_refl _ _ _⟩
  | succ d ih =>
    intro kf k m hk hkf
    obtain ⟨kf, rfl⟩ : ∃ z, kf = z + 1 := ⟨kf - 1, by omega⟩
    have hlt : ¬ (10 : Int32) ≤ zi k := fun w => by rw [show (10 : Int32) = zi (10 : Nat) from rfl, zi_len (by omega) (by omega)] at w; omega
    unfold s_X7_carries_67_79_L3 s_X7_carries_67_79_L39
    rw [if_neg hlt, ite_10, zi_addn, chk_zn (show f + k < 60 by omega) (by decide), chk_zn (show k < 10 by omega) (by decide), ix_zn (show f + k < 2147483648 by omega), ix_zn (show k < 2147483648 by omega), zlet_eq, zi_s1]
    obtain ⟨m', a, b, b2, e⟩ := ih kf (k + 1) (wI m 67 0 k (m.1 79 0 (f + k))) (by omega) (by omega)
    refine ⟨m', a, fun j j1 j2 => ?_, fun i hi => ?_, fr_trans (fr_wI (fr_refl _ _ _) rfl) e⟩
    · by_cases q : j = k
      · subst q; rw [b2 j (by omega)]; simp [wI_1]
      · rw [b j (by omega) j2]; simp [wI_1]
    · rw [b2 i (by omega), wI_1, if_neg (by omega)]
theorem carO67_79 {f : Nat} (hf : f ≤ 40) (m : zMem) : ∃ m', s_X7_carries_67_79 10 (zi f) 1 m = some (zi (f + 10 : Nat), m') ∧ (∀ j, j < 10 → m'.1 67 0 j = m.1 79 0 (f + j)) ∧ fr (fun c _ _ => Nat.beq c 67) e0 m m' := by
  unfold s_X7_carries_67_79
  obtain ⟨m', a, b, -, e⟩ := carO67_79_loop hf 10 zF 0 m (by omega) (by unfold zF; omega)
  exact ⟨m', a, fun j hj => b j (Nat.zero_le _) hj, e⟩
theorem carO68_79_loop {f : Nat} (hf : f ≤ 40) : ∀ (d kf k : Nat) (m : zMem), k + d = 10 → d < kf → ∃ m', s_X7_carries_68_79_L3 kf 10 (zi f) 1 (zi k) m = some (zi (f + 10 : Nat), m') ∧ (∀ j, k ≤ j → j < 10 → m'.1 68 0 j = m.1 79 0 (f + j)) ∧ (∀ i, i < k → m'.1 68 0 i = m.1 68 0 i) ∧ fr (fun c _ _ => Nat.beq c 68) e0 m m' := by
  intro d
  induction d with
  | zero =>
    intro kf k m hk hkf
    obtain ⟨kf, rfl⟩ : ∃ z, kf = z + 1 := ⟨kf - 1, by omega⟩
    unfold s_X7_carries_68_79_L3
    rw [show (10 : Int32) = zi (10 : Nat) from rfl, if_pos (by rw [zi_len (by omega) (by omega)]; omega), zi_addn]
    exact ⟨m, rfl, fun j a b => by omega, fun i _ => rfl, fr_refl _ _ _⟩
  | succ d ih =>
    intro kf k m hk hkf
    obtain ⟨kf, rfl⟩ : ∃ z, kf = z + 1 := ⟨kf - 1, by omega⟩
    have hlt : ¬ (10 : Int32) ≤ zi k := fun w => by rw [show (10 : Int32) = zi (10 : Nat) from rfl, zi_len (by omega) (by omega)] at w; omega
    unfold s_X7_carries_68_79_L3 s_X7_carries_68_79_L39
    rw [if_neg hlt, ite_10, zi_addn, chk_zn (show f + k < 60 by omega) (by decide), chk_zn (show k < 10 by omega) (by decide), ix_zn (show f + k < 2147483648 by omega), ix_zn (show k < 2147483648 by omega), zlet_eq, zi_s1]
    obtain ⟨m', a, b, b2, e⟩ := ih kf (k + 1) (wI m 68 0 k (m.1 79 0 (f + k))) (by omega) (by omega)
    refine ⟨m', a, fun j j1 j2 => ?_, fun i hi => ?_, fr_trans (fr_wI (fr_refl _ _ _) rfl) e⟩
    · by_cases q : j = k
      · subst q; rw [b2 j (by omega)]; simp [wI_1]
      · rw [b j (by omega) j2]; simp [wI_1]
    · rw [b2 i (by omega), wI_1, if_neg (by omega)]
theorem carO68_79 {f : Nat} (hf : f ≤ 40) (m : zMem) : ∃ m', s_X7_carries_68_79 10 (zi f) 1 m = some (zi (f + 10 : Nat), m') ∧ (∀ j, j < 10 → m'.1 68 0 j = m.1 79 0 (f + j)) ∧ fr (fun c _ _ => Nat.beq c 68) e0 m m' := by
  unfold s_X7_carries_68_79
  obtain ⟨m', a, b, -, e⟩ := carO68_79_loop hf 10 zF 0 m (by omega) (by unfold zF; omega)
  exact ⟨m', a, fun j hj => b j (Nat.zero_le _) hj, e⟩
theorem carO69_79_loop {f : Nat} (hf : f ≤ 40) : ∀ (d kf k : Nat) (m : zMem), k + d = 10 → d < kf → ∃ m', s_X7_carries_69_79_L3 kf 10 (zi f) 1 (zi k) m = some (zi (f + 10 : Nat), m') ∧ (∀ j, k ≤ j → j < 10 → m'.1 69 0 j = m.1 79 0 (f + j)) ∧ (∀ i, i < k → m'.1 69 0 i = m.1 69 0 i) ∧ fr (fun c _ _ => Nat.beq c 69) e0 m m' := by
  intro d
  induction d with
  | zero =>
    intro kf k m hk hkf
    obtain ⟨kf, rfl⟩ : ∃ z, kf = z + 1 := ⟨kf - 1, by omega⟩
    unfold s_X7_carries_69_79_L3
    rw [show (10 : Int32) = zi (10 : Nat) from rfl, if_pos (by rw [zi_len (by omega) (by omega)]; omega), zi_addn]
    exact ⟨m, rfl, fun j a b => by omega, fun i _ => rfl, fr_refl _ _ _⟩
  | succ d ih =>
    intro kf k m hk hkf
    obtain ⟨kf, rfl⟩ : ∃ z, kf = z + 1 := ⟨kf - 1, by omega⟩
    have hlt : ¬ (10 : Int32) ≤ zi k := fun w => by rw [show (10 : Int32) = zi (10 : Nat) from rfl, zi_len (by omega) (by omega)] at w; omega
    unfold s_X7_carries_69_79_L3 s_X7_carries_69_79_L39
    rw [if_neg hlt, ite_10, zi_addn, chk_zn (show f + k < 60 by omega) (by decide), chk_zn (show k < 10 by omega) (by decide), ix_zn (show f + k < 2147483648 by omega), ix_zn (show k < 2147483648 by omega), zlet_eq, zi_s1]
    obtain ⟨m', a, b, b2, e⟩ := ih kf (k + 1) (wI m 69 0 k (m.1 79 0 (f + k))) (by omega) (by omega)
    refine ⟨m', a, fun j j1 j2 => ?_, fun i hi => ?_, fr_trans (fr_wI (fr_refl _ _ _) rfl) e⟩
    · by_cases q : j = k
      · subst q; rw [b2 j (by omega)]; simp [wI_1]
      · rw [b j (by omega) j2]; simp [wI_1]
    · rw [b2 i (by omega), wI_1, if_neg (by omega)]
theorem carO69_79 {f : Nat} (hf : f ≤ 40) (m : zMem) : ∃ m', s_X7_carries_69_79 10 (zi f) 1 m = some (zi (f + 10 : Nat), m') ∧ (∀ j, j < 10 → m'.1 69 0 j = m.1 79 0 (f + j)) ∧ fr (fun c _ _ => Nat.beq c 69) e0 m m' := by
  unfold s_X7_carries_69_79
  obtain ⟨m', a, b, -, e⟩ := carO69_79_loop hf 10 zF 0 m (by omega) (by unfold zF; omega)
  exact ⟨m', a, fun j hj => b j (Nat.zero_le _) hj, e⟩
theorem carO70_79_loop {f : Nat} (hf : f ≤ 40) : ∀ (d kf k : Nat) (m : zMem), k + d = 10 → d < kf → ∃ m', s_X7_carries_70_79_L3 kf 10 (zi f) 1 (zi k) m = some (zi (f + 10 : Nat), m') ∧ (∀ j, k ≤ j → j < 10 → m'.1 70 0 j = m.1 79 0 (f + j)) ∧ (∀ i, i < k → m'.1 70 0 i = m.1 70 0 i) ∧ fr (fun c _ _ => Nat.beq c 70) e0 m m' := by
  intro d
  induction d with
  | zero =>
    intro kf k m hk hkf
    obtain ⟨kf, rfl⟩ : ∃ z, kf = z + 1 := ⟨kf - 1, by omega⟩
    unfold s_X7_carries_70_79_L3
    rw [show (10 : Int32) = zi (10 : Nat) from rfl, if_pos (by rw [zi_len (by omega) (by omega)]; omega), zi_addn]
    exact ⟨m, rfl, fun j a b => by omega, fun i _ => rfl, fr_refl _ _ _⟩
  | succ d ih =>
    intro kf k m hk hkf
    obtain ⟨kf, rfl⟩ : ∃ z, kf = z + 1 := ⟨kf - 1, by omega⟩
    have hlt : ¬ (10 : Int32) ≤ zi k := fun w => by rw [show (10 : Int32) = zi (10 : Nat) from rfl, zi_len (by omega) (by omega)] at w; omega
    unfold s_X7_carries_70_79_L3 s_X7_carries_70_79_L39
    rw [if_neg hlt, ite_10, zi_addn, chk_zn (show f + k < 60 by omega) (by decide), chk_zn (show k < 10 by omega) (by decide), ix_zn (show f + k < 2147483648 by omega), ix_zn (show k < 2147483648 by omega), zlet_eq, zi_s1]
    obtain ⟨m', a, b, b2, e⟩ := ih kf (k + 1) (wI m 70 0 k (m.1 79 0 (f + k))) (by omega) (by omega)
    refine ⟨m', a, fun j j1 j2 => ?_, fun i hi => ?_, fr_trans (fr_wI (fr_refl _ _ _) rfl) e⟩
    · by_cases q : j = k
      · subst q; rw [b2 j (by omega)]; simp [wI_1]
      · rw [b j (by omega) j2]; simp [wI_1]
    · rw [b2 i (by omega), wI_1, if_neg (by omega)]
theorem carO70_79 {f : Nat} (hf : f ≤ 40) (m : zMem) : ∃ m', s_X7_carries_70_79 10 (zi f) 1 m = some (zi (f + 10 : Nat), m') ∧ (∀ j, j < 10 → m'.1 70 0 j = m.1 79 0 (f + j)) ∧ fr (fun c _ _ => Nat.beq c 70) e0 m m' := by
  unfold s_X7_carries_70_79
  obtain ⟨m', a, b, -, e⟩ := carO70_79_loop hf 10 zF 0 m (by omega) (by unfold zF; omega)
  exact ⟨m', a, fun j hj => b j (Nat.zero_le _) hj, e⟩
