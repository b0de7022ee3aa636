/-! OPS: feast -/
section X9
variable {T : zTab} {c r : zMem}
theorem zi_div {k n : Nat} (hk : k < 65536) (hn : n ≤ 10) (hn1 : 1 ≤ n) : (zi k : Int32) / zi n = zi (k / n : Nat) := by
  have h1 : k / n ≤ k := Nat.div_le_self k n
  have e : (k : Int).tdiv (n : Int) = ((k / n : Nat) : Int) := (Int.ofNat_tdiv k n).symm
  generalize k / n = q at h1 e
  apply Int32.toInt_inj.mp
  rw [Int32.toInt_div, zi_toInt (by omega) (by omega), zi_toInt (by omega) (by omega), zi_toInt (by omega) (by omega), e]
  exact Int.bmod_eq_of_le (by omega) (by omega)
theorem ushr16 (s : Int32) : ∃ k, k < 65536 ∧ jushr s 16 = zi (k : Nat) := by
  refine ⟨s.toBitVec.toNat >>> 16, ?_, ?_⟩
  · have := s.toBitVec.isLt
    rw [Nat.shiftRight_eq_div_pow]; omega
  · apply Int32.toBitVec_inj.mp
    have hk : s.toBitVec.toNat >>> 16 < 2147483648 := by
      have := s.toBitVec.isLt
      rw [Nat.shiftRight_eq_div_pow]; omega
    rw [zi_toBV _ hk]
    unfold jushr
    show (s.toUInt32 >>> ((16 : Int32).toUInt32 &&& Int32.toUInt32 31)).toBitVec = _
    rw [UInt32.toBitVec_shiftRight]
    apply BitVec.eq_of_toNat_eq
    show (s.toBitVec >>> (((16 : Int32).toUInt32 &&& Int32.toUInt32 31).toBitVec % 32).toNat).toNat = _
    rw [show (((16 : Int32).toUInt32 &&& Int32.toUInt32 31).toBitVec % 32).toNat = 16 from by decide, BitVec.toNat_ushiftRight, BitVec.toNat_ofNat, Nat.mod_eq_of_lt (by omega)]
theorem drawn (s : Int32) {n : Nat} (h1 : 1 ≤ n) (h10 : n ≤ 10) : ∃ g, g < n ∧ jrem (jushr s 16) (zi n) = zi (g : Nat) := by
  obtain ⟨k, hk, e⟩ := ushr16 s
  refine ⟨k % n, Nat.mod_lt _ (by omega), ?_⟩
  have hd : k / n * n ≤ k := Nat.div_mul_le_self k n
  unfold jrem
  rw [e, zi_div hk h10 h1, zi_muln, zi_subn hd]
  refine congrArg (fun q : Nat => zi q) ?_
  have := Nat.div_add_mod k n
  rw [Nat.mul_comm] at this
  omega
/-- one number drawn, on both sides -/
theorem draw_2 (h : Rel T c r) (h1 : 1 ≤ tn T) : ∃ g c' r', g < tn T ∧ s_X5_drawBelow 0 (zi (tn T)) c = some (zi (g : Nat), c') ∧ s_X7_draw (zi (tn T)) r = some (zi (g : Nat), r') ∧ Rel T c' r' ∧ c'.1 1 0 8 = c.1 1 0 8 := by
  have h10 := h.1.1
  obtain ⟨q1, q2, q3⟩ := h.2.2.2.1
  obtain ⟨g, g1, g2⟩ := drawn (c.1 1 0 10 * 1103515245 + 12345) h1 h10
  have hnz : ¬ zi (tn T) ≤ (0 : Int32) := fun w => by
    have := (zi_len (b := 0) (by omega) (by omega)).mp w; omega
  have hz : ∀ {α : Type} (k : Option α), znz (zi (tn T)) k = k := fun k => by
    unfold znz
    rw [if_neg]
    intro w
    have := (zi_eqn (b := 0) (by omega) (by omega)).mp w; omega
  refine ⟨g, wI c 1 0 10 (c.1 1 0 10 * 1103515245 + 12345), wI r 64 0 5 (r.1 64 0 5 * 1103515245 + 12345), g1, ?_, ?_, ?_, by simp [wI_1]⟩
  · unfold s_X5_drawBelow
    rw [zlet_eq, if_neg hnz, hz, wI_1, if_pos ⟨rfl, rfl, rfl⟩, g2]
  · unfold s_X7_draw
    rw [zlet_eq, hz, wI_1, if_pos ⟨rfl, rfl, rfl⟩, ← q3, g2]
  · have hs := op_seed h (c.1 1 0 10 * 1103515245 + 12345)
    have f1 : fr mI sL c (wI c 1 0 10 (c.1 1 0 10 * 1103515245 + 12345)) := fr_wI (fr_refl _ _ _) rfl
    have f2 : fr mR rL r (wI r 64 0 5 (r.1 64 0 5 * 1103515245 + 12345)) := fr_wI (fr_refl _ _ _) rfl
    refine Rel_tab f1 f2 h h.1 ?_ ?_ ?_ (Nat.le_refl _)
    · obtain ⟨a1, a2, a3, a4⟩ := h.2.1
      refine ⟨by simp [wI_1, a1], by simp [wI_1, a2], by simp [wI_1, a3], fun g hg => ?_⟩
      simp [wI_1, a4 g hg]
    · obtain ⟨a1, a2, a3, a4⟩ := h.2.2.1
      refine ⟨by simp [wI_1, a1], by simp [wI_1, a2], by simp [wI_1, a3], fun g hg => ?_⟩
      simp [wI_1, a4 g hg]
    · exact ⟨by simp [wI_1, q1], by simp [wI_1, q2], by simp [wI_1, q3]⟩
theorem swap2 (h : Rel T c r) {p q : Nat} (p1 : p < tn T) (q1 : q < tn T) : ∃ c' r', s_X5_swap 0 (zi p) (zi q) c = some c' ∧ s_X7_changes (zi p) (zi q) r = some r' ∧ Rel (tSwp T p q) c' r' := by
  obtain ⟨c', x1, x2, x3⟩ := swp_C h.2.1 h.1 p1 q1
  obtain ⟨r', y1, y2, y3⟩ := swp_R h.2.2.1 h.1 p1 q1
  exact ⟨c', r', x1, y1, Rel_tab (fr_mI (t := 0) (by omega) x3) (fr_mR (by omega) y3) h (swp_ok h.1 p1 q1) x2 y2 (cntQ_fr x3 y3 (fun _ _ => rfl) ⟨rfl, rfl, rfl⟩ h.2.2.2.1) (Nat.le_refl _)⟩
theorem feast_loop {n : Nat} (hn : n ≤ 60) {w : Int32} : ∀ (d kf k : Nat) (T : zTab) (c r : zMem), k + d = n → d < kf → Rel T c r → 1 ≤ tn T → OK2 (s_X6_feast_L45 kf (zi n) w (zi k) c) (s_X7_feast_L39 kf (zi n) w (zi k) r) := by
  intro d
  induction d with
  | zero =>
    intro kf k T c r hk hkf h h1
    obtain ⟨kf, rfl⟩ : ∃ z, kf = z + 1 := ⟨kf - 1, by omega⟩
    unfold s_X6_feast_L45 s_X7_feast_L39
    rw [if_pos (by rw [zi_len (by omega) (by omega)]; omega), if_pos (by rw [zi_len (by omega) (by omega)]; omega), h.2.2.2.1.1]
    exact ok2_same h rfl
  | succ d ih =>
    intro kf k T c r hk hkf h h1
    obtain ⟨kf, rfl⟩ : ∃ z, kf = z + 1 := ⟨kf - 1, by omega⟩
    obtain ⟨g, c1, r1, g1, a1, a2, a3, -⟩ := draw_2 h h1
    obtain ⟨q, c2, r2, q1, b1, b2, b3, -⟩ := draw_2 a3 h1
    unfold s_X6_feast_L45 s_X7_feast_L39 s_X6_feastOnce s_X7_feast_L101
    rw [if_neg (by rw [zi_len (by omega) (by omega)]; omega), if_neg (by rw [zi_len (by omega) (by omega)]; omega), h.2.1.1, h.2.2.1.1, a1, a2, zb_some, zb_some, a3.2.1.1, a3.2.2.1.1, b1, b2, zb_some, zb_some, wnt_R b3.2.2.1 b3.1 g1 q1, zr_some, zif0, zi_s1]
    by_cases e : g = q
    · have hw : wntT T g q = false := by unfold wntT; rw [decide_eq_false (fun z => z e)]; rfl
      rw [if_pos (by rw [e]), hw, cond_false, if_pos (by rw [e]), zr_some]
      exact ih kf (k + 1) T c2 r2 (by omega) (by omega) b3 h1
    · have hne : ¬ zi (g : Nat) = zi (q : Nat) := fun z => e ((cmpI (by have := h.1.1; omega) (by have := h.1.1; omega)).mp z)
      rw [if_neg hne, wnt_C b3.2.1 b3.1 g1 q1, zr_some, zif0]
      cases hw : wntT T g q with
      | false =>
        obtain ⟨c3, r3, x1, x2, x3⟩ := swap2 b3 g1 q1
        rw [cond_false, cond_false, if_neg hne, x1, x2, zr_some, zr_some, zr_some]
        exact ih kf (k + 1) _ c3 r3 (by omega) (by omega) x3 h1
      | true =>
        obtain ⟨c3, r3, x1, x2, x3, -⟩ := clink2 b3 g1 q1 hw
        rw [cond_true, cond_true, x1, x2, zr_some, zr_some, zr_some]
        exact ih kf (k + 1) _ c3 r3 (by omega) (by omega) x3 h1
theorem op_feast (h : Rel T c r) (a : Int32) : OK2 (s_X6_feast a c) (s_X7_feast a r) := by
  have hn := h.1.1
  have R5 := ok2_ref h 5 (by omega) (by omega) (show (-5 : Int32) = zi (-((5 : Nat) : Int)) from rfl)
  have R6 := ok2_ref h 6 (by omega) (by omega) (show (-6 : Int32) = zi (-((6 : Nat) : Int)) from rfl)
  unfold s_X6_feast s_X7_feast s_X6_feast_L28 s_X7_feast_L25
  have e : zi (tn T) = (0 : Int32) ↔ tn T = 0 := zi_eqn (b := 0) (by omega) (by omega)
  rw [h.2.1.1, h.2.2.1.1, h.2.2.2.1.1]
  by_cases w : tn T = 0
  · rw [if_pos (e.mpr w), if_pos (e.mpr w)]; exact R5
  rw [if_neg (fun z => w (e.mp z)), if_neg (fun z => w (e.mp z))]
  obtain ⟨x, rfl, x1, x2⟩ := zi_of a
  have l1 : zi x < 1 ↔ x < 1 := zi_lt (b := 1) x1 x2 (by omega) (by omega)
  have l60 : zi x ≤ 60 ↔ x ≤ 60 := zi_le (b := 60) x1 x2 (by omega) (by omega)
  by_cases h1 : x < 1
  · rw [if_pos (l1.mpr h1), if_pos (l1.mpr h1)]; exact R6
  rw [if_neg (fun w => h1 (l1.mp w)), if_neg (fun w => h1 (l1.mp w))]
  by_cases h2 : x ≤ 60
  · obtain ⟨n, rfl⟩ : ∃ n : Nat, x = n := ⟨x.toNat, by omega⟩
    rw [if_pos (l60.mpr h2), if_pos (l60.mpr h2)]
    exact feast_loop (n := n) (by omega) n zF 0 T c r (by omega) (by unfold zF; omega) h (by omega)
  · rw [if_neg (fun w => h2 (l60.mp w)), if_neg (fun w => h2 (l60.mp w))]; exact R6
end X9
