/-! OPS: show; shelves changed -/
def fS (s : Nat) : zEx := fun c j _ => Nat.beq c 8 && Nat.beq j s
def gS (s : Nat) : zEx := fun c j _ => Nat.beq c 9 && Nat.beq j s
def fS' (s : Nat) : zEx := fun c _ k => (Nat.ble 71 c && Nat.ble c 74) && Nat.beq k s
def gS' (s : Nat) : zEx := fun c _ k => Nat.beq c 75 && (Nat.ble (160 * s) k && Nat.blt k (160 * s + 160))
section X7
variable {T : zTab} {c r c' r' : zMem}
/-- one SHELF has changed -/
theorem Rel_sh {s : Nat} (f1 : fr (fS s) (gS s) c c') (f2 : fr (fS' s) (gS' s) r r') (h : Rel T c r) (hs : shE s c' r' ∨ (∃ g, shG (tn T) s g c' r') ∨ ∃ o l, shR s o l c' r') : Rel T c' r' := by
  obtain ⟨q1, q2, q3, q4, q5, q6, q7, q8, q9, q10⟩ := h
  refine ⟨q1, tC_fr f1 (fun _ => ⟨rfl, rfl, rfl, rfl, rfl, rfl⟩) q2, tR_fr f2 rfl rfl rfl (fun _ => ⟨rfl, rfl, rfl, rfl, rfl⟩) q3, cntQ_fr f1 f2 (fun _ _ => rfl) ⟨rfl, rfl, rfl⟩ q4, picQ_fr f1 f2 rfl (fun _ => ⟨rfl, rfl, rfl, rfl, rfl, rfl⟩) rfl (fun _ => rfl) q5, ?_, rfsQ_fr f1 f2 (fun _ => rfl) (fun _ => rfl) q7, ftQ_fr f1 f2 rfl rfl q8, acQ_fr f1 f2 rfl (fun _ => rfl) rfl (fun _ => rfl) q9, wdQ_fr f2 (fun _ => rfl) q10⟩
  intro t ht
  by_cases e : t = s
  · subst e; exact hs
  · have a : fS s 8 t 1 = false ∧ fS s 8 t 2 = false := by unfold fS; rw [beqf e]; exact ⟨rfl, rfl⟩
    have b : ∀ x, fS' s x 0 t = false := fun x => by unfold fS'; rw [beqf e, Bool.and_false]
    rcases q6 t ht with q | ⟨x, q⟩ | ⟨o, l, q⟩
    · exact Or.inl (shE_fr f1 f2 a (b _) q)
    · exact Or.inr (Or.inl ⟨x, shG_fr f1 f2 a ⟨b _, b _⟩ q⟩)
    · refine Or.inr (Or.inr ⟨o, l, shR_fr f1 f2 a (fun i _ => by unfold gS; rw [beqf e, Bool.and_false]) ⟨b _, b _, b _⟩ (fun i hi => ?_) q⟩)
      have hl := q.2.1
      unfold gS'
      cases h1 : Nat.ble (160 * s) (160 * t + i) with
      | false => rfl
      | true =>
        cases h2 : Nat.blt (160 * t + i) (160 * s + 160) with
        | false => rfl
        | true =>
          rw [Nat.ble_eq] at h1
          rw [Nat.blt_eq] at h2
          omega
theorem op_show (h : Rel T c r) (a b : Int32) : OK2 (s_X6_show a b c) (s_X7_show a b r) := by
  have hn := h.1.1
  have hR := ok2_ref h 1 (by omega) (by omega) (show (-1 : Int32) = zi (-((1 : Nat) : Int)) from rfl)
  unfold s_X6_show s_X7_show s_X7_show_L21 s_X7_show_L27 s_X7_show_L42 s_X4_hold
  rcases (shelf2 a).symm with ⟨s3, s4⟩ | ⟨s, s1, s2, s3, s4⟩
  · rw [s3, s4]; exact hR
  · subst s2
    rw [s3, s4, zr_some, zr_some, ite_10, ite_10]
    by_cases e : b = -1
    · subst e
      rw [if_pos rfl, if_pos rfl, if_pos rfl]
      simp only [zlet_eq, chk_zn s1 (show (8 : Nat) < 2147483648 by decide), ix_zn (show s < 2147483648 by omega), zr_some]
      rw [if_pos trivial]
      refine ⟨_, _, _, T, rfl, rfl, Rel_sh (s := s) (fr_wI (fr_wI (fr_refl _ _ _) (by simp [fS])) (by simp [fS])) (fr_wI (fr_wI (fr_refl _ _ _) (by simp [fS'])) (by simp [fS'])) h (Or.inl ⟨?_, ?_, ?_⟩)⟩
      · simp [wI_1]; rfl
      · simp [wI_1]; rfl
      · simp [wI_1]; rfl
    · rw [if_neg e, if_neg e, if_neg e]
      rcases (guest2 h b).symm with ⟨p3, p4⟩ | ⟨g, g1, g2, p3, p4⟩
      · rw [p3, p4]; exact hR
      · subst g2
        rw [p3, p4, zr_some, zr_some, ite_10, ite_10]
        simp only [zlet_eq, chk_zn s1 (show (8 : Nat) < 2147483648 by decide), ix_zn (show s < 2147483648 by omega), zr_some]
        rw [if_neg e]
        refine ⟨_, _, _, T, rfl, rfl, Rel_sh (s := s) (fr_wI (fr_wI (fr_refl _ _ _) (by simp [fS])) (by simp [fS])) (fr_wI (fr_wI (fr_refl _ _ _) (by simp [fS'])) (by simp [fS'])) h (Or.inr (Or.inl ⟨g, g1, ?_, ?_, ?_, ?_⟩))⟩
        · simp [wI_1]
        · simp [wI_1]; rfl
        · simp [wI_1]; rfl
        · simp [wI_1]
theorem become_loop {s l : Nat} (hl : l ≤ 160) : ∀ (d kf i : Nat) (m : zMem), i + d = l → d < kf → m.1 8 s 2 = zi l → ∃ m', s_X4_become_L25 kf s (zi i) m = some m' ∧ (∀ j, i ≤ j → j < l → m'.2 9 s j = 0) ∧ (∀ j, j < i → m'.2 9 s j = m.2 9 s j) ∧ fr e0 (gS s) m m' := by
  intro d
  induction d with
  | zero =>
    intro kf i m hi hkf h2
    obtain ⟨kf, rfl⟩ : ∃ z, kf = z + 1 := ⟨kf - 1, by omega⟩
    unfold s_X4_become_L25
    rw [h2, if_pos (by rw [zi_len (by omega) (by omega)]; omega)]
    exact ⟨m, rfl, fun j a b => by omega, fun j _ => rfl, fr_refl _ _ _⟩
  | succ d ih =>
    intro kf i m hi hkf h2
    obtain ⟨kf, rfl⟩ : ∃ z, kf = z + 1 := ⟨kf - 1, by omega⟩
    unfold s_X4_become_L25
    rw [h2, if_neg (by rw [zi_len (by omega) (by omega)]; omega), chk_zn (show i < 160 by omega) (by decide), zlet_eq, ix_zn (show i < 2147483648 by omega), zi_s1]
    obtain ⟨m', a, b, b2, e⟩ := ih kf (i + 1) (wL m 9 s i 0) (by omega) (by omega) h2
    refine ⟨m', a, fun j j1 j2 => ?_, fun j hj => ?_, fr_trans (fr_wL (fr_refl _ _ _) (by simp [gS])) e⟩
    · by_cases q : j = i
      · subst q; rw [b2 j (by omega)]; simp [wL_2]
      · exact b j (by omega) j2
    · rw [b2 j (by omega)]; simp [wL_2, show j ≠ i by omega]
theorem row_loop {s : Nat} (hs : s < 8) : ∀ (d kf i : Nat) (m : zMem), i + d = 160 → d < kf → ∃ m', s_X7_row_L79 kf (zi s) (zi i) m = some (1, m') ∧ (∀ j, i ≤ j → j < 160 → m'.2 75 0 (160 * s + j) = 0) ∧ (∀ j, j < i → m'.2 75 0 (160 * s + j) = m.2 75 0 (160 * s + j)) ∧ fr e0 (gS' s) m m' := by
  intro d
  induction d with
  | zero =>
    intro kf i m hi hkf
    obtain ⟨kf, rfl⟩ : ∃ z, kf = z + 1 := ⟨kf - 1, by omega⟩
    unfold s_X7_row_L79
    rw [if_pos (by rw [show (160 : Int32) = zi (160 : Nat) from rfl, zi_len (by omega) (by omega)]; omega)]
    exact ⟨m, rfl, fun j a b => by omega, fun j _ => rfl, fr_refl _ _ _⟩
  | succ d ih =>
    intro kf i m hi hkf
    obtain ⟨kf, rfl⟩ : ∃ z, kf = z + 1 := ⟨kf - 1, by omega⟩
    unfold s_X7_row_L79
    rw [if_neg (by rw [show (160 : Int32) = zi (160 : Nat) from rfl, zi_len (by omega) (by omega)]; omega), show (160 : Int32) = zi (160 : Nat) from rfl, zi_muln, zi_addn, chk_zn (show 160 * s + i < 1280 by omega) (by decide), zlet_eq, ix_zn (show 160 * s + i < 2147483648 by omega), zi_s1]
    obtain ⟨m', a, b, b2, e⟩ := ih kf (i + 1) (wL m 75 0 (160 * s + i) 0) (by omega) (by omega)
    have hg : gS' s 75 0 (160 * s + i) = true := by
      unfold gS'
      rw [Nat.ble_eq.mpr (show 160 * s ≤ 160 * s + i by omega), Nat.blt_eq.mpr (show 160 * s + i < 160 * s + 160 by omega)]; rfl
    refine ⟨m', a, fun j j1 j2 => ?_, fun j hj => ?_, fr_trans (fr_wL (fr_refl _ _ _) hg) e⟩
    · by_cases q : j = i
      · subst q; rw [b2 j (by omega)]; simp [wL_2]
      · exact b j (by omega) j2
    · rw [b2 j (by omega)]; simp [wL_2, show j ≠ i by omega]
theorem op_row (h : Rel T c r) (a o n : Int32) : OK2 (s_X6_row a o n c) (s_X7_row a o n r) := by
  have R1 := ok2_ref h 1 (by omega) (by omega) (show (-1 : Int32) = zi (-((1 : Nat) : Int)) from rfl)
  have R4 := ok2_ref h 4 (by omega) (by omega) (show (-4 : Int32) = zi (-((4 : Nat) : Int)) from rfl)
  have R6 := ok2_ref h 6 (by omega) (by omega) (show (-6 : Int32) = zi (-((6 : Nat) : Int)) from rfl)
  have R7 := ok2_ref h 7 (by omega) (by omega) (show (-7 : Int32) = zi (-((7 : Nat) : Int)) from rfl)
  unfold s_X6_row s_X7_row s_X6_row_L33 s_X7_row_L34 s_X4_become
  rcases (shelf2 a).symm with ⟨s3, s4⟩ | ⟨s, s1, s2, s3, s4⟩
  · rw [s3, s4]; exact R1
  subst s2
  rw [s3, s4, zr_some, zr_some, ite_10, ite_10]
  obtain ⟨y, rfl, y1, y2⟩ := zi_of n
  obtain ⟨x, rfl, x1, x2⟩ := zi_of o
  have ly0 : 0 ≤ zi y ↔ 0 ≤ y := zi_le (a := 0) (by omega) (by omega) y1 y2
  have ly : zi y ≤ 160 ↔ y ≤ 160 := zi_le (b := 160) y1 y2 (by omega) (by omega)
  have lx3 : zi x ≤ 3 ↔ x ≤ 3 := zi_le (b := 3) x1 x2 (by omega) (by omega)
  by_cases h1 : 0 ≤ y
  · rw [if_pos (ly0.mpr h1), if_pos (ly0.mpr h1)]
    by_cases h2 : x < 0
    · rw [if_pos ((lt0 x1 x2).mpr h2), if_pos ((lt0 x1 x2).mpr h2)]; exact R6
    rw [if_neg (fun w => h2 ((lt0 x1 x2).mp w)), if_neg (fun w => h2 ((lt0 x1 x2).mp w))]
    by_cases h3 : x ≤ 3
    · rw [if_pos (lx3.mpr h3), if_pos (lx3.mpr h3)]
      by_cases h4 : y ≤ 160
      · obtain ⟨l, rfl⟩ : ∃ l : Nat, y = l := ⟨y.toNat, by omega⟩
        obtain ⟨q, rfl⟩ : ∃ q : Nat, x = q := ⟨x.toNat, by omega⟩
        rw [if_pos (ly.mpr h4), if_pos (ly.mpr h4), show (160 : Int32) = zi (160 : Nat) from rfl, show (0 : Int32) = zi (0 : Nat) from rfl, show (100 : Int32) = zi (100 : Nat) from rfl, jmin_zi (by omega) (by omega), jmax_zi (by omega) (by omega), show max 0 (min l 160) = l by omega, zi_addn]
        simp only [zlet_eq, chk_zn s1 (show (8 : Nat) < 2147483648 by decide), ix_zn (show s < 2147483648 by omega)]
        obtain ⟨c1, a1, a2, -, a3⟩ := become_loop (s := s) (l := l) (by omega) l zF 0 (wI (wI c 8 s 1 (zi (100 + q : Nat))) 8 s 2 (zi l)) (by omega) (by unfold zF; omega) (by simp [wI_1])
        obtain ⟨r1, b1, b2, -, b3⟩ := row_loop s1 160 zF 0 (wI (wI (wI r 71 0 s 1) 72 0 s (zi q)) 73 0 s (zi l)) (by omega) (by unfold zF; omega)
        rw [a1, zr_some, b1]
        have f1 : fr (fS s) (gS s) c c1 := fr_trans (fr_wI (fr_wI (fr_refl _ _ _) (by simp [fS])) (by simp [fS])) (fr_mono a3 (fun _ _ _ _ => rfl) (fun _ _ _ w => w))
        have f2 : fr (fS' s) (gS' s) r r1 := fr_trans (fr_wI (fr_wI (fr_wI (fr_refl _ _ _) (by simp [fS'])) (by simp [fS'])) (by simp [fS'])) (fr_mono b3 (fun _ _ _ _ => rfl) (fun _ _ _ w => w))
        refine ⟨_, _, _, T, rfl, rfl, Rel_sh (s := s) f1 f2 h (Or.inr (Or.inr ⟨q, l, by omega, by omega, ?_, ?_, ?_, ?_, ?_, fun i hi => ?_⟩))⟩
        · rw [a3.1 8 s 1 rfl]; simp [wI_1]
        · rw [a3.1 8 s 2 rfl]; simp [wI_1]
        · rw [b3.1 71 0 s rfl]; simp [wI_1]; rfl
        · rw [b3.1 72 0 s rfl]; simp [wI_1]
        · rw [b3.1 73 0 s rfl]; simp [wI_1]
        · rw [a2 i (Nat.zero_le _) hi, b2 i (Nat.zero_le _) (by omega)]
      · rw [if_neg (fun w => h4 (ly.mp w)), if_neg (fun w => h4 (ly.mp w))]; exact R7
    · rw [if_neg (fun w => h3 (lx3.mp w)), if_neg (fun w => h3 (lx3.mp w))]; exact R6
  · rw [if_neg (fun w => h1 (ly0.mp w)), if_neg (fun w => h1 (ly0.mp w))]; exact R4
end X7
