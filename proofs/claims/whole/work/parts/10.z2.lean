/-! OPS: copy -/
section Z2
variable {T : zTab} {c r : zMem}
theorem has_part {s l : Nat} {x z : Int} (h8 : c.1 8 s 2 = zi (l : Nat)) (hl : l ≤ 160) (x1 : -2147483648 ≤ x) (x2 : x < 2147483648) (z1 : 0 ≤ z) (z2 : z < 2147483648) : s_X4_hasPart s (zi x) (zi z) c = some (if 0 ≤ x ∧ x + z ≤ l then 1 else 0) := by
  unfold s_X4_hasPart
  rw [h8]
  by_cases h1 : x < 0
  · rw [if_pos ((lt0 x1 x2).mpr h1), if_neg (by omega)]
  rw [if_neg (fun w => h1 ((lt0 x1 x2).mp w)), if_neg (fun w => by have := (lt0 (by omega) z2).mp w; omega)]
  by_cases h2 : (l : Int) < x
  · rw [if_pos ((zi_lt (by omega) (by omega) x1 x2).mpr h2), if_neg (by omega)]
  rw [if_neg (fun w => h2 ((zi_lt (by omega) (by omega) x1 x2).mp w)), zi_sub]
  by_cases h3 : (l : Int) - x < z
  · rw [if_pos ((zi_lt (by omega) (by omega) (by omega) z2).mpr h3), if_neg (by omega)]
  · rw [if_neg (fun w => h3 ((zi_lt (by omega) (by omega) (by omega) z2).mp w)), if_pos (by omega)]
def g76 : zEx := fun c _ _ => Nat.beq c 76
theorem cpA_loop {p i n : Nat} (hp : p < 8) (hi : i + n ≤ 160) {q j : Int32} : ∀ (d kf k : Nat) (m : zMem), k + d = n → d < kf → ∃ m', s_X7_copy_L167 kf (zi p) q (zi i) j (zi n) (zi k) m = s_X7_copy_L205 zF q j (zi n) 0 m' ∧ (∀ t, k ≤ t → t < n → m'.2 76 0 t = m.2 75 0 (160 * p + i + t)) ∧ (∀ t, t < k → m'.2 76 0 t = m.2 76 0 t) ∧ fr e0 g76 m m' := by
  intro d
  induction d with
  | zero =>
    intro kf k m hk hkf
    obtain ⟨kf, rfl⟩ : ∃ z, kf = z + 1 := ⟨kf - 1, by omega⟩
    unfold s_X7_copy_L167
    rw [if_pos ((zi_len (by omega) (by omega)).mpr (by omega))]
    exact ⟨m, rfl, fun t a b => by omega, fun t _ => rfl, fr_refl _ _ _⟩
  | succ d ih =>
    intro kf k m hk hkf
    obtain ⟨kf, rfl⟩ : ∃ z, kf = z + 1 := ⟨kf - 1, by omega⟩
    unfold s_X7_copy_L167
    rw [if_neg (fun w => by rw [zi_len (by omega) (by omega)] at w; omega), show (160 : Int32) = zi (160 : Nat) from rfl, zi_muln, zi_addn, zi_addn, chk_zn (show 160 * p + i + k < 1280 by omega) (by decide), chk_zn (show k < 160 by omega) (by decide), zlet_eq, ix_zn (show k < 2147483648 by omega), ix_zn (show 160 * p + i + k < 2147483648 by omega), zi_s1]
    obtain ⟨m', a, b, b2, e⟩ := ih kf (k + 1) (wL m 76 0 k (m.2 75 0 (160 * p + i + k))) (by omega) (by omega)
    refine ⟨m', a, fun t j1 j2 => ?_, fun t ht => ?_, fr_trans (fr_wL (fr_refl _ _ _) rfl) e⟩
    · by_cases w : t = k
      · subst w; rw [b2 t (by omega)]; simp [wL_2]
      · rw [b t (by omega) j2]; simp [wL_2]
    · rw [b2 t (by omega), wL_2, if_neg (by omega)]
theorem cpB_loop {q j n : Nat} (hq : q < 8) (hj : j + n ≤ 160) : ∀ (d kf k : Nat) (m : zMem), k + d = n → d < kf → ∃ m', s_X7_copy_L205 kf (zi q) (zi j) (zi n) (zi k) m = some (1, m') ∧ (∀ t, k ≤ t → t < n → m'.2 75 0 (160 * q + j + t) = m.2 76 0 t) ∧ (∀ x, (x < 160 * q + j + k ∨ 160 * q + j + n ≤ x) → m'.2 75 0 x = m.2 75 0 x) ∧ fr e0 (gS' q) m m' := by
  intro d
  induction d with
  | zero =>
    intro kf k m hk hkf
    obtain ⟨kf, rfl⟩ : ∃ z, kf = z + 1 := ⟨kf - 1, by omega⟩
    unfold s_X7_copy_L205
    rw [if_pos ((zi_len (by omega) (by omega)).mpr (by omega))]
    exact ⟨m, rfl, fun t a b => by omega, fun t _ => rfl, fr_refl _ _ _⟩
  | succ d ih =>
    intro kf k m hk hkf
    obtain ⟨kf, rfl⟩ : ∃ z, kf = z + 1 := ⟨kf - 1, by omega⟩
    unfold s_X7_copy_L205
    rw [if_neg (fun w => by rw [zi_len (by omega) (by omega)] at w; omega), show (160 : Int32) = zi (160 : Nat) from rfl, zi_muln, zi_addn, zi_addn, chk_zn (show k < 160 by omega) (by decide), chk_zn (show 160 * q + j + k < 1280 by omega) (by decide), zlet_eq, ix_zn (show k < 2147483648 by omega), ix_zn (show 160 * q + j + k < 2147483648 by omega), zi_s1]
    obtain ⟨m', a, b, b2, e⟩ := ih kf (k + 1) (wL m 75 0 (160 * q + j + k) (m.2 76 0 k)) (by omega) (by omega)
    have hg : gS' q 75 0 (160 * q + j + k) = true := by
      unfold gS'
      rw [Nat.ble_eq.mpr (show 160 * q ≤ 160 * q + j + k by omega), Nat.blt_eq.mpr (show 160 * q + j + k < 160 * q + 160 by omega)]; rfl
    refine ⟨m', a, fun t j1 j2 => ?_, fun x hx => ?_, fr_trans (fr_wL (fr_refl _ _ _) hg) e⟩
    · by_cases w : t = k
      · subst w; rw [b2 _ (by omega)]; simp [wL_2]
      · rw [b t (by omega) j2]; simp [wL_2]
    · rw [b2 x (by omega), wL_2, if_neg (by omega)]
theorem op_copy (h : Rel T c r) (a b d e f : Int32) : OK2 (s_X6_copy a b d e f c) (s_X7_copy a b d e f r) := by
  have hn := h.1.1
  have R1 := ok2_ref h 1 (by omega) (by omega) (show (-1 : Int32) = zi (-((1 : Nat) : Int)) from rfl)
  have R2 := ok2_ref h 2 (by omega) (by omega) (show (-2 : Int32) = zi (-((2 : Nat) : Int)) from rfl)
  have R3 := ok2_ref h 3 (by omega) (by omega) (show (-3 : Int32) = zi (-((3 : Nat) : Int)) from rfl)
  have R4 := ok2_ref h 4 (by omega) (by omega) (show (-4 : Int32) = zi (-((4 : Nat) : Int)) from rfl)
  have R5 := ok2_ref h 5 (by omega) (by omega) (show (-5 : Int32) = zi (-((5 : Nat) : Int)) from rfl)
  have hs := h.2.2.2.2.2.1
  unfold s_X6_copy s_X7_copy s_X6_copy_L14 s_X7_copy_L16 s_X6_copy_L52 s_X7_copy_L77 s_X6_copy_L75 s_X6_copy_L137
  rcases (shelf2 a).symm with ⟨s3, s4⟩ | ⟨p, p1, p2, s3, s4⟩
  · rw [s3, s4]; exact R1
  subst p2
  rw [s3, s4, zr_some, zr_some, ite_10, ite_10]
  rcases (shelf2 b).symm with ⟨u3, u4⟩ | ⟨q, q1, q2, u3, u4⟩
  · rw [u3, u4]; exact R1
  subst q2
  rw [u3, u4, zr_some, zr_some, ite_10, ite_10]
  simp only [chk_zn p1 (show (8 : Nat) < 2147483648 by decide), chk_zn q1 (show (8 : Nat) < 2147483648 by decide), ix_zn (show p < 2147483648 by omega), ix_zn (show q < 2147483648 by omega)]
  have e_E : ∀ s, shE s c r → s_X4_isEmpty s c = some 1 := fun s w => by unfold s_X4_isEmpty; rw [w.1]; rfl
  have e_R : ∀ s o l, shR s o l c r → s_X4_isEmpty s c = some 0 := fun s o l w => by
    have w1 := w.1
    unfold s_X4_isEmpty; rw [w.2.2.1, if_neg (fun w => by rw [li_m1, zi_eq (by omega) (by omega) (by omega) (by omega)] at w; omega)]
  rcases hs p p1 with P | ⟨g, P⟩ | ⟨o, l, P⟩
  · -- p empty
    rw [hg_E P, zr_some, ite_00, P.2.2, if_neg n02, if_neg n01]
    rcases hs q q1 with Q | ⟨g', Q⟩ | ⟨o', l', Q⟩
    · rw [hg_E Q, zr_some, ite_00, e_E p P, zr_some, ite_10, Q.2.2, if_neg n02]
      unfold s_X7_copy_L84 s_X7_copy_L102
      rw [chk_zn p1 (by decide), ix_zn (by omega), P.2.2, if_pos y00]
      exact R3
    · rw [hg_G hn Q, zr_some, ite_10, Q.2.2.2.1, if_pos y22]
      exact R2
    · rw [hg_R Q, zr_some, ite_00, e_E p P, zr_some, ite_10, Q.2.2.2.2.1, if_neg n12]
      unfold s_X7_copy_L84 s_X7_copy_L102
      rw [chk_zn p1 (by decide), ix_zn (by omega), P.2.2, if_pos y00]
      exact R3
  · rw [hg_G hn P, zr_some, ite_10, P.2.2.2.1, if_pos y22]
    exact R2
  · rw [hg_R P, zr_some, ite_00, P.2.2.2.2.1, if_neg n12, if_pos y11]
    rcases hs q q1 with Q | ⟨g', Q⟩ | ⟨o', l', Q⟩
    · rw [hg_E Q, zr_some, ite_00, e_R p o l P, zr_some, ite_00, e_E q Q, zr_some, ite_10, Q.2.2, if_neg n02, if_neg n01]
      unfold s_X7_copy_L84 s_X7_copy_L102
      rw [chk_zn p1 (by decide), ix_zn (by omega), P.2.2.2.2.1, if_neg n1z, chk_zn q1 (by decide), ix_zn (by omega), Q.2.2, if_pos y00]
      exact R3
    · rw [hg_G hn Q, zr_some, ite_10, Q.2.2.2.1, if_pos y22]
      exact R2
    · have o3 := P.1
      have o3' := Q.1
      have l1 := P.2.1
      have l1' := Q.2.1
      rw [hg_R Q, zr_some, ite_00, e_R p o l P, zr_some, ite_00, e_R q o' l' Q, zr_some, ite_00, Q.2.2.2.2.1, if_neg n12, if_pos y11, P.2.2.1, Q.2.2.1, P.2.2.2.2.2.1, Q.2.2.2.2.2.1]
      by_cases ho : ¬ (o = o')
      · rw [if_neg (fun w => ho (by rw [zi_eqn (by omega) (by omega)] at w; omega)), if_neg (fun w => ho (by rw [zi_eqn (by omega) (by omega)] at w; omega))]
        exact R2
      have ho : o = o' := Decidable.not_not.mp ho
      subst ho
      rw [if_pos rfl, if_pos rfl]
      unfold s_X7_copy_L84 s_X7_copy_L102 s_X7_copy_L157
      rw [chk_zn p1 (by decide), ix_zn (by omega), P.2.2.2.2.1, if_neg n1z, chk_zn q1 (by decide), ix_zn (by omega), Q.2.2.2.2.1, if_neg n1z, P.2.2.2.2.2.2.1, Q.2.2.2.2.2.2.1]
      obtain ⟨x, rfl, x1, x2⟩ := zi_of d
      obtain ⟨y, rfl, y1, y2⟩ := zi_of e
      obtain ⟨z, rfl, z1, z2⟩ := zi_of f
      have lz : 0 ≤ zi z ↔ 0 ≤ z := zi_le (a := 0) (by omega) (by omega) z1 z2
      by_cases h0 : ¬ (0 ≤ z)
      · rw [if_neg (fun w => h0 (lz.mp w)), if_neg (fun w => h0 (lz.mp w))]; exact R4
      have h0 : 0 ≤ z := Decidable.not_not.mp h0
      rw [if_pos (lz.mpr h0), if_pos (lz.mpr h0), has_part P.2.2.2.1 l1 x1 x2 h0 z2, has_part Q.2.2.2.1 l1' y1 y2 h0 z2, zr_some, zr_some, zi_sub, zi_sub]
      by_cases hx : ¬ (0 ≤ x ∧ x + z ≤ l)
      · rw [if_neg hx, if_pos rfl]
        by_cases k1 : x < 0
        · rw [if_pos ((lt0 x1 x2).mpr k1)]; exact R5
        rw [if_neg (fun w => k1 ((lt0 x1 x2).mp w))]
        by_cases k2 : y < 0
        · rw [if_pos ((lt0 y1 y2).mpr k2)]; exact R5
        rw [if_neg (fun w => k2 ((lt0 y1 y2).mp w)), if_pos ((zi_lt (by omega) (by omega) x1 x2).mpr (by omega))]
        exact R5
      have hx : 0 ≤ x ∧ x + z ≤ l := Decidable.not_not.mp hx
      have hx0 : ¬ zi x < 0 := fun w => by have := (lt0 x1 x2).mp w; omega
      have hxl : ¬ zi ((l : Int) - z) < zi x := fun w => by rw [zi_lt (by omega) (by omega) x1 x2] at w; omega
      rw [if_pos hx, if_neg n10, if_neg hx0]
      by_cases hy : ¬ (0 ≤ y ∧ y + z ≤ l')
      · rw [if_neg hy, if_pos rfl]
        by_cases k2 : y < 0
        · rw [if_pos ((lt0 y1 y2).mpr k2)]; exact R5
        have hyl : ¬ zi y ≤ zi ((l' : Int) - z) := fun w => by rw [zi_le y1 y2 (by omega) (by omega)] at w; omega
        rw [if_neg (fun w => k2 ((lt0 y1 y2).mp w)), if_neg hxl, if_neg hyl]
        exact R5
      have hy : 0 ≤ y ∧ y + z ≤ l' := Decidable.not_not.mp hy
      have hy0 : ¬ zi y < 0 := fun w => by have := (lt0 y1 y2).mp w; omega
      rw [if_pos hy, if_neg n10, if_neg hy0, if_neg hxl, if_pos ((zi_le y1 y2 (by omega) (by omega)).mpr (by omega))]
      obtain ⟨i, rfl⟩ : ∃ i : Nat, x = i := ⟨x.toNat, by omega⟩
      obtain ⟨j, rfl⟩ : ∃ i : Nat, y = i := ⟨y.toNat, by omega⟩
      obtain ⟨n, rfl⟩ : ∃ i : Nat, z = i := ⟨z.toNat, by omega⟩
      have hz0 : ¬ zi (n : Nat) < 0 := fun w => by have := (lt0 z1 z2).mp w; omega
      have hac : ∀ {β : Type} (k : Option β), zac (zi (i : Nat)) (zi (j : Nat)) (zi (n : Nat)) 160 160 k = k := fun k => by
        unfold zac
        rw [ix_zn (by omega), ix_zn (by omega), ix_zn (by omega), decide_eq_true hz0, decide_eq_true hy0, decide_eq_true hx0, if_pos ⟨rfl, Nat.ble_eq.mpr (by omega), Nat.ble_eq.mpr (by omega)⟩]
      rw [hac, zlet_eq, ix_zn (show i < 2147483648 by omega), ix_zn (show j < 2147483648 by omega), ix_zn (show n < 2147483648 by omega)]
      obtain ⟨r1, a1, a2, -, a3⟩ := cpA_loop p1 (show i + n ≤ 160 by omega) (q := zi (q : Nat)) (j := zi (j : Nat)) n zF 0 r (by omega) (by unfold zF; omega)
      obtain ⟨r2, b1, b2, b3, b4⟩ := cpB_loop q1 (show j + n ≤ 160 by omega) n zF 0 r1 (by omega) (by unfold zF; omega)
      rw [show (0 : Int32) = zi (0 : Nat) from rfl, a1, show (0 : Int32) = zi (0 : Nat) from rfl, b1]
      have h1 : Rel T c r1 := Rel_fr (fr_refl _ _ _) (fr_mono a3 (fun _ _ _ _ => rfl) (fun _ _ _ w => w)) h
      have fc : fr (fS q) (gS q) c (wLs c 9 q (va_cpy (c.2 9 p) (c.2 9 q) i j n)) := ⟨fun _ _ _ _ => rfl, fun x y k w => by
        rw [wLs_2]
        split
        · rename_i e
          obtain ⟨rfl, rfl⟩ := e
          unfold gS at w
          simp at w
        · rfl⟩
      have f2 : fr (fS' q) (gS' q) r1 r2 := fr_mono b4 (fun _ _ _ _ => rfl) (fun _ _ _ w => w)
      refine ⟨_, _, _, T, rfl, rfl, Rel_sh (s := q) fc f2 h1 (Or.inr (Or.inr ⟨o, l', o3, l1', Q.2.2.1, Q.2.2.2.1, ?_, ?_, ?_, fun t ht => ?_⟩))⟩
      · rw [b4.1 71 0 q rfl, a3.1 71 0 q rfl]; exact Q.2.2.2.2.1
      · rw [b4.1 72 0 q rfl, a3.1 72 0 q rfl]; exact Q.2.2.2.2.2.1
      · rw [b4.1 73 0 q rfl, a3.1 73 0 q rfl]; exact Q.2.2.2.2.2.2.1
      · rw [wLs_2, if_pos ⟨rfl, rfl⟩]
        unfold va_cpy
        by_cases k1 : j ≤ t ∧ t < j + n
        · rw [if_pos k1, show 160 * q + t = 160 * q + j + (t - j) by omega, b2 (t - j) (Nat.zero_le _) (by omega), a2 (t - j) (Nat.zero_le _) (by omega), P.2.2.2.2.2.2.2 (i + (t - j)) (by omega), show 160 * p + (i + (t - j)) = 160 * p + i + (t - j) by omega]
        · rw [if_neg k1, b3 (160 * q + t) (by omega), a3.2 75 0 _ rfl]
          exact Q.2.2.2.2.2.2.2 t ht
end Z2
