/-! OPS: restore, leaves: the shelves of the gone -/
section Z1
variable {T : zTab} {c r : zMem}
def shA (n s : Nat) (c r : zMem) : Prop := shE s c r ∨ (∃ g, shG n s g c r) ∨ ∃ o l, shR s o l c r
def f8 : zEx := fun c _ _ => Nat.beq c 8
def f71 : zEx := fun c _ _ => Nat.beq c 71
theorem hg_E {s : Nat} (q : shE s c r) : s_X4_holdsGuest s c = some 0 := by
  unfold s_X4_holdsGuest
  rw [q.1]; rfl
theorem hg_G {n s g : Nat} (hn : n ≤ 10) (q : shG n s g c r) : s_X4_holdsGuest s c = some 1 := by
  have h1 := q.1
  unfold s_X4_holdsGuest
  rw [q.2.1, if_neg (fun w => by have := (lt0 (by omega) (by omega)).mp w; omega), if_neg (fun w => by rw [show (100 : Int32) = zi (100 : Nat) from rfl, zi_len (by omega) (by omega)] at w; omega)]
theorem hg_R {s o l : Nat} (q : shR s o l c r) : s_X4_holdsGuest s c = some 0 := by
  obtain ⟨o3, l1, a1, -⟩ := q
  unfold s_X4_holdsGuest
  rw [a1, if_neg (fun w => by have := (lt0 (by omega) (by omega)).mp w; omega), if_pos (by rw [show (100 : Int32) = zi (100 : Nat) from rfl, zi_len (by omega) (by omega)]; omega)]
theorem shA_fr {n s : Nat} {c' r' : zMem} {f f' g g' : zEx} (h : fr f g c c') (h' : fr f' g' r r') (a : f 8 s 1 = false ∧ f 8 s 2 = false) (a2 : ∀ i, g 9 s i = false) (b : f' 71 0 s = false ∧ f' 72 0 s = false ∧ f' 73 0 s = false ∧ f' 74 0 s = false) (b2 : ∀ i, g' 75 0 i = false) (q : shA n s c r) : shA n s c' r' := by
  obtain ⟨b3, b4, b5, b6⟩ := b
  rcases q with q | ⟨x, q⟩ | ⟨o, l, q⟩
  · exact Or.inl (shE_fr h h' a b3 q)
  · exact Or.inr (Or.inl ⟨x, shG_fr h h' a ⟨b3, b6⟩ q⟩)
  · exact Or.inr (Or.inr ⟨o, l, shR_fr h h' a (fun i _ => a2 i) ⟨b3, b4, b5⟩ (fun i _ => b2 _) q⟩)
theorem gone_loop {n n' : Nat} (hn : n ≤ 10) (hn' : n' ≤ 10) : ∀ (d kf s : Nat) (c r : zMem), s + d = 8 → d < kf → (∀ t, t < s → shA n' t c r) → (∀ t, s ≤ t → t < 8 → shA n t c r) → c.1 1 0 6 = zi n' → r.1 64 0 0 = zi n' → ∃ c' r', s_X6_emptyShelvesOfGone_L2 kf (zi s) c = some c' ∧ s_X7_shelvesFall_L2 kf (zi s) r = some r' ∧ shlQ n' c' r' ∧ fr f8 e0 c c' ∧ fr f71 e0 r r' := by
  intro d
  induction d with
  | zero =>
    intro kf s c r hs hkf h1 h2 h3 h4
    obtain ⟨kf, rfl⟩ : ∃ z, kf = z + 1 := ⟨kf - 1, by omega⟩
    obtain rfl : s = 8 := by omega
    refine ⟨c, r, rfl, rfl, fun t ht => h1 t ht, fr_refl _ _ _, fr_refl _ _ _⟩
  | succ d ih =>
    intro kf s c r hs hkf h1 h2 h3 h4
    obtain ⟨kf, rfl⟩ : ∃ z, kf = z + 1 := ⟨kf - 1, by omega⟩
    have hlt : ¬ (8 : Int32) ≤ zi s := fun w => by rw [show (8 : Int32) = zi (8 : Nat) from rfl, zi_len (by omega) (by omega)] at w; omega
    unfold s_X6_emptyShelvesOfGone_L2 s_X7_shelvesFall_L2 s_X6_emptyShelvesOfGone_L49 s_X7_shelvesFall_L38
    rw [if_neg hlt, if_neg hlt, chk_zn (show s < 8 by omega) (by decide), chk_zn (show s < 8 by omega) (by decide), ix_zn (show s < 2147483648 by omega), zi_s1]
    have go : ∀ (c1 r1 : zMem), fr f8 e0 c c1 → fr f71 e0 r r1 → (∀ t, t < s + 1 → shA n' t c1 r1) → (∀ t, s + 1 ≤ t → t < 8 → shA n t c1 r1) → ∃ c' r', s_X6_emptyShelvesOfGone_L2 kf (zi (s + 1 : Nat)) c1 = some c' ∧ s_X7_shelvesFall_L2 kf (zi (s + 1 : Nat)) r1 = some r' ∧ shlQ n' c' r' ∧ fr f8 e0 c c' ∧ fr f71 e0 r r' := fun c1 r1 g1 g2 g3 g4 => by
      obtain ⟨c', r', a1, a2, a3, a4, a5⟩ := ih kf (s + 1) c1 r1 (by omega) (by omega) g3 g4 ((g1.1 1 0 6 rfl).trans h3) ((g2.1 64 0 0 rfl).trans h4)
      exact ⟨c', r', a1, a2, a3, fr_trans g1 a4, fr_trans g2 a5⟩
    have same : shA n' s c r → ∃ c' r', s_X6_emptyShelvesOfGone_L2 kf (zi (s + 1 : Nat)) c = some c' ∧ s_X7_shelvesFall_L2 kf (zi (s + 1 : Nat)) r = some r' ∧ shlQ n' c' r' ∧ fr f8 e0 c c' ∧ fr f71 e0 r r' := fun w =>
      go c r (fr_refl _ _ _) (fr_refl _ _ _) (fun t ht => by
        by_cases e : t = s
        · subst e; exact w
        · exact h1 t (by omega)) (fun t a b => h2 t (by omega) b)
    rcases h2 s (Nat.le_refl _) (by omega) with q | ⟨g, q⟩ | ⟨o, l, q⟩
    · rw [hg_E q, zr_some, ite_00, q.2.2, if_neg n02]
      exact same (Or.inl q)
    · rw [hg_G hn q, zr_some, ite_10, q.2.2.2.1, if_pos y22, q.2.1, q.2.2.2.2, h4]
      have hg := q.1
      by_cases e : g < n'
      · rw [if_pos ((zi_ltn (by omega) (by omega)).mpr e)]
        have e1 : s_X5_exists 0 (zi (g : Nat)) c = some 1 := by
          unfold s_X5_exists
          rw [h3, if_neg (fun w => by have := (lt0 (by omega) (by omega)).mp w; omega), if_neg (fun w => by rw [zi_len (by omega) (by omega)] at w; omega)]
        rw [e1, zr_some, ite_10]
        exact same (Or.inr (Or.inl ⟨g, e, q.2⟩))
      · rw [if_neg (fun w => e ((zi_ltn (by omega) (by omega)).mp w))]
        have e1 : s_X5_exists 0 (zi (g : Nat)) c = some 0 := by
          unfold s_X5_exists
          rw [h3, if_neg (fun w => by have := (lt0 (by omega) (by omega)).mp w; omega), if_pos (by rw [zi_len (by omega) (by omega)]; omega)]
        rw [e1, zr_some, ite_00]
        unfold s_X4_hold
        simp only [zlet_eq, zr_some]
        have fc : fr (fun x j _ => Nat.beq x 8 && Nat.beq j s) e0 c (wI (wI c 8 s 1 (-1)) 8 s 2 0) := fr_wI (fr_wI (fr_refl _ _ _) (by simp)) (by simp)
        have fr' : fr (fun x _ k => Nat.beq x 71 && Nat.beq k s) e0 r (wI r 71 0 s 0) := fr_wI (fr_refl _ _ _) (by simp)
        have oth : ∀ m t, t ≠ s → shA m t c r → shA m t (wI (wI c 8 s 1 (-1)) 8 s 2 0) (wI r 71 0 s 0) := fun m t ht w =>
          shA_fr fc fr' ⟨by simp [beqf ht], by simp [beqf ht]⟩ (fun _ => rfl) ⟨by simp [beqf ht], rfl, rfl, rfl⟩ (fun _ => rfl) w
        refine go _ _ (fr_wI (fr_wI (fr_refl _ _ _) rfl) rfl) (fr_wI (fr_refl _ _ _) rfl) (fun t ht => ?_) (fun t a b => oth _ _ (by omega) (h2 t (by omega) b))
        by_cases e2 : t = s
        · subst e2
          refine Or.inl ⟨by simp [wI_1]; rfl, by simp [wI_1]; rfl, by simp [wI_1]; rfl⟩
        · exact oth _ _ e2 (h1 t (by omega))
    · rw [hg_R q, zr_some, ite_00, q.2.2.2.2.1, if_neg n12]
      exact same (Or.inr (Or.inr ⟨o, l, q⟩))
theorem gone2 {n n' : Nat} (hn : n ≤ 10) (hn' : n' ≤ 10) {c r : zMem} (h : shlQ n c r) (h3 : c.1 1 0 6 = zi n') (h4 : r.1 64 0 0 = zi n') : ∃ c' r', s_X6_emptyShelvesOfGone c = some c' ∧ s_X7_shelvesFall r = some r' ∧ shlQ n' c' r' ∧ fr f8 e0 c c' ∧ fr f71 e0 r r' := by
  unfold s_X6_emptyShelvesOfGone s_X7_shelvesFall
  exact gone_loop hn hn' 8 zF 0 c r rfl (by unfold zF; omega) (fun t ht => by omega) (fun t _ ht => h t ht) h3 h4
def fL8 : zEx := fun c j _ => ((Nat.ble 1 c && Nat.ble c 6) && Nat.beq j 0) || Nat.beq c 8
def fL71 : zEx := fun c _ k => (Nat.beq c 64 && Nat.ble k 5) || (Nat.ble 66 c && Nat.ble c 71)
/-- another table, and shelves anew -/
theorem Rel_any {T' : zTab} {c' r' : zMem} (h : fr fL8 e0 c c') (h' : fr fL71 e0 r r') (q : Rel T c r) (o : tOK T') (a : tC 0 T' c') (b : tR T' r') (d : cntQ c' r') (e : shlQ (tn T') c' r') : Rel T' c' r' := by
  obtain ⟨q1, q2, q3, q4, q5, q6, q7, q8, q9, q10⟩ := q
  exact ⟨o, a, b, d, picQ_fr h h' rfl (fun _ => ⟨rfl, rfl, rfl, rfl, rfl, rfl⟩) rfl (fun _ => rfl) q5, e, rfsQ_fr h h' (fun _ => rfl) (fun _ => rfl) q7, ftQ_fr h h' rfl rfl q8, acQ_fr h h' rfl (fun _ => rfl) rfl (fun _ => rfl) q9, wdQ_fr h' (fun _ => rfl) q10⟩
theorem fr_L8a {a b : zMem} (q : fr (fT 0) e0 a b) : fr fL8 e0 a b := fr_mono q (fun _ _ _ w => (Bool.or_eq_false_iff.mp w).1) (fun _ _ _ _ => rfl)
theorem fr_L8b {a b : zMem} (q : fr f8 e0 a b) : fr fL8 e0 a b := fr_mono q (fun _ _ _ w => (Bool.or_eq_false_iff.mp w).2) (fun _ _ _ _ => rfl)
theorem fr_L71a {a b : zMem} (q : fr fB6 e0 a b) : fr fL71 e0 a b := fr_mono q (fun y j k w => by
  unfold fL71 at w
  obtain ⟨w1, w2⟩ := Bool.or_eq_false_iff.mp w
  unfold fB6
  rw [w1, Bool.false_or]
  cases h : Nat.ble 66 y with
  | false => rfl
  | true =>
    rw [h, Bool.true_and] at w2
    cases h2 : Nat.ble y 70 with
    | false => rfl
    | true =>
      rw [Nat.ble_eq] at h2
      rw [Nat.ble_eq.mpr (show y ≤ 71 by omega)] at w2
      cases w2) (fun _ _ _ _ => rfl)
theorem fr_L71b {a b : zMem} (q : fr f71 e0 a b) : fr fL71 e0 a b := fr_mono q (fun y j k w => by
  by_cases e : y = 71
  · subst e; exact absurd w (by simp [fL71])
  · exact beqf e) (fun _ _ _ _ => rfl)
theorem op_restore (h : Rel T c r) : OK2 (s_X6_restore c) (s_X7_restore r) := by
  have R6 := ok2_ref h 6 (by omega) (by omega) (show (-6 : Int32) = zi (-((6 : Nat) : Int)) from rfl)
  have hh := h
  obtain ⟨q1, q2, q3, q4, q5, q6, q7, q8, q9, q10⟩ := h
  unfold s_X6_restore s_X7_restore
  rcases q5 with ⟨p1, p2⟩ | ⟨p1, p2, P, p3, p4, p5, p6, p7, p8⟩
  · rw [if_pos p1, if_pos p2]; exact R6
  · rw [if_neg (fun w => n10 (p1.symm.trans w)), if_neg (fun w => n10 (p2.symm.trans w))]
    obtain ⟨c1, a1, a2, a3, a4, a5, a6⟩ := takeOver_C (t := 0) p4 p3.1 (by decide)
    obtain ⟨r1, b1, b2, b3, b4, b5, b6⟩ := all80_back p5 p3.1
    have s1 : shlQ (tn T) c1 r1 := shlQ_fr a3 b6 (fun _ => ⟨rfl, rfl⟩) (fun _ _ => rfl) (fun _ => ⟨rfl, rfl, rfl, rfl⟩) (fun _ => rfl) q6
    obtain ⟨c2, r2, d1, d2, d3, d4, d5⟩ := gone2 q1.1 p3.1 s1 a2.1 b2.1
    rw [a1, b1, zr_some, zr_some, d1, d2, zr_some, zr_some]
    have t1 : tC 0 P c2 := tC_fr d4 (fun _ => ⟨rfl, rfl, rfl, rfl, rfl, rfl⟩) a2
    have t2 : tR P r2 := tR_fr d5 rfl rfl rfl (fun _ => ⟨rfl, rfl, rfl, rfl, rfl⟩) b2
    rw [t1.1, t2.1]
    refine ⟨_, _, _, P, rfl, rfl, Rel_any (fr_trans (fr_L8a a3) (fr_L8b d4)) (fr_trans (fr_L71a b6) (fr_L71b d5)) hh p3 t1 t2 ⟨?_, ?_, ?_⟩ d3⟩
    · rw [d4.1 1 0 8 rfl, d5.1 64 0 3 rfl, a4, b3, p6]
    · rw [d4.1 1 0 9 rfl, d5.1 64 0 4 rfl, a5, b4, p7]
    · rw [d4.1 1 0 10 rfl, d5.1 64 0 5 rfl, a6, b5, p8]
/-- the last GUEST gone -/
def tDrp (T : zTab) : zTab := (tn T - 1, tz T, te T, tK T, tS T, tA T, fun g => tB T g % 2 ^ (tn T - 1), fun g => tH T g % 2 ^ (tn T - 1))
theorem drp_ok (o : tOK T) (h : tn T ≠ 0) : tOK (tDrp T) := by
  obtain ⟨h1, h2, h3, h4, h5, h6, h7, h8⟩ := o
  have e : tn (tDrp T) = tn T - 1 := rfl
  refine ⟨show tn T - 1 ≤ 10 by omega, h2, h3, h4, fun g hg => ?_, fun g k hg hk => ?_, fun g hg => ?_, fun g k hg hk q => h8 g k (by omega) (by omega) q⟩
  · obtain ⟨k1, k2, k3, k4, k5⟩ := h5 g (by omega)
    exact ⟨k1, k2, k3, Nat.mod_lt _ (Nat.two_pow_pos _), Nat.mod_lt _ (Nat.two_pow_pos _)⟩
  · obtain ⟨k1, k2⟩ := h6 g k (by omega) (by omega)
    rw [e] at hg hk
    show (tB T g % 2 ^ (tn T - 1)).testBit k = (tB T k % 2 ^ (tn T - 1)).testBit g ∧ (tH T g % 2 ^ (tn T - 1)).testBit k = (tH T k % 2 ^ (tn T - 1)).testBit g
    rw [Nat.testBit_mod_two_pow, Nat.testBit_mod_two_pow, Nat.testBit_mod_two_pow, Nat.testBit_mod_two_pow, decide_eq_true hg, decide_eq_true hk, k1, k2]
    exact ⟨rfl, rfl⟩
  · obtain ⟨k1, k2⟩ := h7 g (by omega)
    show (tB T g % 2 ^ (tn T - 1)).testBit g = false ∧ (tH T g % 2 ^ (tn T - 1)).testBit g = false
    rw [Nat.testBit_mod_two_pow, Nat.testBit_mod_two_pow, k1, k2, Bool.and_false]
    exact ⟨rfl, rfl⟩
theorem msk_C {a k : Nat} (ha : a < 1024) (hk : k < 10) : zi (a : Nat) &&& (zi (2 ^ k : Nat) - 1) = zi (a % 2 ^ k : Nat) := by
  have h1 : 1 ≤ 2 ^ k := Nat.two_pow_pos _
  have h2 := p10 hk
  rw [show (1 : Int32) = zi (1 : Nat) from rfl, zi_subn h1, zi_and (by omega) (by omega), Nat.and_two_pow_sub_one_eq_mod]
theorem msk_R {a k : Nat} (ha : a < 2 ^ (k + 1)) (hk : k < 10) : zi (a : Nat) &&& (jshl 1 (zi (k : Nat)) ^^^ (-1)) = zi (a % 2 ^ k : Nat) := by
  have h1 : 2 ^ (k + 1) ≤ 2 ^ 10 := Nat.pow_le_pow_right (by omega) (by omega)
  have h2 := p10 hk
  rw [zi_shl1 (by omega), zi_andn (by omega) (by omega)]
  refine congrArg (fun q : Nat => zi q) (Nat.eq_of_testBit_eq fun i => ?_)
  rw [andn_test, Nat.testBit_two_pow, Nat.testBit_mod_two_pow]
  by_cases e : i < k
  · rw [decide_eq_true e, decide_eq_false (show ¬ k = i by omega)]; simp
  · rw [decide_eq_false e]
    by_cases e2 : k = i
    · rw [decide_eq_true e2]; simp
    · rw [Nat.testBit_lt_two_pow (Nat.lt_of_lt_of_le ha (Nat.pow_le_pow_right (by omega) (show k + 1 ≤ i by omega)))]; rfl
theorem drpC_loop {t k : Nat} (hk : k < 10) {m0 : zMem} (hB : ∀ j, j < k → ∃ a b, a < 1024 ∧ b < 1024 ∧ m0.1 5 t j = zi (a : Nat) ∧ m0.1 6 t j = zi (b : Nat)) : ∀ (d kf i : Nat) (m : zMem), i + d = k → d < kf → m.1 1 t 6 = zi k → fr (fun c j x => (Nat.beq c 5 || Nat.beq c 6) && (Nat.beq j t && Nat.blt x i)) e0 m0 m → (∀ j a, j < i → (m0.1 5 t j = zi (a : Nat) → a < 1024 → m.1 5 t j = zi (a % 2 ^ k : Nat)) ∧ (m0.1 6 t j = zi (a : Nat) → a < 1024 → m.1 6 t j = zi (a % 2 ^ k : Nat))) → ∃ m', s_X5_removeLast_L20 kf t (zi i) m = some m' ∧ fr (fun c j x => (Nat.beq c 5 || Nat.beq c 6) && (Nat.beq j t && Nat.blt x k)) e0 m0 m' ∧ (∀ j a, j < k → (m0.1 5 t j = zi (a : Nat) → a < 1024 → m'.1 5 t j = zi (a % 2 ^ k : Nat)) ∧ (m0.1 6 t j = zi (a : Nat) → a < 1024 → m'.1 6 t j = zi (a % 2 ^ k : Nat))) := by
  intro d
  induction d with
  | zero =>
    intro kf i m hi hkf h6 hf hv
    obtain ⟨kf, rfl⟩ : ∃ z, kf = z + 1 := ⟨kf - 1, by omega⟩
    obtain rfl : i = k := by omega
    unfold s_X5_removeLast_L20
    rw [h6, if_pos (by rw [zi_len (by omega) (by omega)]; omega)]
    exact ⟨m, rfl, hf, hv⟩
  | succ d ih =>
    intro kf i m hi hkf h6 hf hv
    obtain ⟨kf, rfl⟩ : ∃ z, kf = z + 1 := ⟨kf - 1, by omega⟩
    obtain ⟨a, b, ha, hb, ea, eb⟩ := hB i (by omega)
    have hbi : Nat.blt i i = false := by
      cases h : Nat.blt i i with
      | false => rfl
      | true => rw [Nat.blt_eq] at h; omega
    have xa : m.1 5 t i = zi (a : Nat) := (hf.1 5 t i (by simp [hbi])).trans ea
    have xb : m.1 6 t i = zi (b : Nat) := (hf.1 6 t i (by simp [hbi])).trans eb
    have gb : ∀ mm : zMem, mm.1 1 t 6 = zi k → s_X5_guestBits t mm = some (zi (2 ^ k : Nat) - 1) := fun mm hm => by
      unfold s_X5_guestBits
      rw [hm, bit_C (by omega), zr_some]
    unfold s_X5_removeLast_L20
    rw [h6, if_neg (fun w => by rw [zi_len (by omega) (by omega)] at w; omega), chk_zn (show i < 10 by omega) (by decide), gb m h6, zr_some, zlet_eq, ix_zn (show i < 2147483648 by omega), xa, msk_C ha hk, gb _ (by simp [wI_1, h6]), zr_some, zlet_eq, show (wI m 5 t i (zi (a % 2 ^ k : Nat))).1 6 t i = zi (b : Nat) from by simp [wI_1, xb], msk_C hb hk, zi_s1]
    have hm : ∀ c j x : Nat, ((Nat.beq c 5 || Nat.beq c 6) && (Nat.beq j t && Nat.blt x (i + 1))) = false → ((Nat.beq c 5 || Nat.beq c 6) && (Nat.beq j t && Nat.blt x i)) = false := fun c j x w => by
      cases h1 : (Nat.beq c 5 || Nat.beq c 6) with
      | false => rfl
      | true =>
        cases h2 : Nat.beq j t with
        | false => rfl
        | true =>
          rw [h1, h2] at w
          cases h3 : Nat.blt x i with
          | false => rfl
          | true =>
            rw [Nat.blt_eq] at h3
            rw [Nat.blt_eq.mpr (show x < i + 1 by omega)] at w
            cases w
    have hi1 : Nat.blt i (i + 1) = true := Nat.blt_eq.mpr (by omega)
    refine ih kf (i + 1) _ (by omega) (by omega) (by simp [wI_1, h6]) (fr_wI (fr_wI (fr_mono hf hm (fun _ _ _ _ => rfl)) (by simp)) (by simp)) (fun j v hj => ?_)
    by_cases e : j = i
    · subst e
      refine ⟨fun e1 e2 => ?_, fun e1 e2 => ?_⟩
      · rw [ea, zi_eqn (by omega) (by omega)] at e1
        subst e1; simp [wI_1]
      · rw [eb, zi_eqn (by omega) (by omega)] at e1
        subst e1; simp [wI_1]
    · obtain ⟨v1, v2⟩ := hv j v (by omega)
      refine ⟨fun e1 e2 => ?_, fun e1 e2 => ?_⟩
      · simp [wI_1, e, v1 e1 e2]
      · simp [wI_1, e, v2 e1 e2]
theorem drpR_loop {k : Nat} (hk : k < 10) {m0 : zMem} (hB : ∀ j, j < k → ∃ a b, a < 2 ^ (k + 1) ∧ b < 2 ^ (k + 1) ∧ m0.1 69 0 j = zi (a : Nat) ∧ m0.1 70 0 j = zi (b : Nat)) : ∀ (d kf i : Nat) (m : zMem), i + d = k → d < kf → m.1 64 0 0 = zi k → fr (fun c _ x => (Nat.beq c 69 || Nat.beq c 70) && Nat.blt x i) e0 m0 m → (∀ j a, j < i → (m0.1 69 0 j = zi (a : Nat) → a < 1024 → m.1 69 0 j = zi (a % 2 ^ k : Nat)) ∧ (m0.1 70 0 j = zi (a : Nat) → a < 1024 → m.1 70 0 j = zi (a % 2 ^ k : Nat))) → ∃ m', s_X7_leaves_L26 kf (zi i) m = zr (s_X7_shelvesFall m') (fun m9 => some (m9.1 64 0 0, m9)) ∧ fr (fun c _ x => (Nat.beq c 69 || Nat.beq c 70) && Nat.blt x k) e0 m0 m' ∧ (∀ j a, j < k → (m0.1 69 0 j = zi (a : Nat) → a < 1024 → m'.1 69 0 j = zi (a % 2 ^ k : Nat)) ∧ (m0.1 70 0 j = zi (a : Nat) → a < 1024 → m'.1 70 0 j = zi (a % 2 ^ k : Nat))) := by
  intro d
  have hk10 : 2 ^ (k + 1) ≤ 2 ^ 10 := Nat.pow_le_pow_right (by omega) (by omega)
  induction d with
  | zero =>
    intro kf i m hi hkf h6 hf hv
    obtain ⟨kf, rfl⟩ : ∃ z, kf = z + 1 := ⟨kf - 1, by omega⟩
    obtain rfl : i = k := by omega
    unfold s_X7_leaves_L26
    rw [h6, if_pos (by rw [zi_len (by omega) (by omega)]; omega)]
    exact ⟨m, rfl, hf, hv⟩
  | succ d ih =>
    intro kf i m hi hkf h6 hf hv
    obtain ⟨kf, rfl⟩ : ∃ z, kf = z + 1 := ⟨kf - 1, by omega⟩
    obtain ⟨a, b, ha, hb, ea, eb⟩ := hB i (by omega)
    have hbi : Nat.blt i i = false := by
      cases h : Nat.blt i i with
      | false => rfl
      | true => rw [Nat.blt_eq] at h; omega
    have xa : m.1 69 0 i = zi (a : Nat) := (hf.1 69 0 i (by simp [hbi])).trans ea
    have xb : m.1 70 0 i = zi (b : Nat) := (hf.1 70 0 i (by simp [hbi])).trans eb
    unfold s_X7_leaves_L26
    rw [h6, if_neg (fun w => by rw [zi_len (by omega) (by omega)] at w; omega), chk_zn (show i < 10 by omega) (by decide), zlet_eq, ix_zn (show i < 2147483648 by omega), xa, msk_R ha hk, zlet_eq, show (wI m 69 0 i (zi (a % 2 ^ k : Nat))).1 70 0 i = zi (b : Nat) from by simp [wI_1, xb], show (wI m 69 0 i (zi (a % 2 ^ k : Nat))).1 64 0 0 = zi (k : Nat) from by simp [wI_1, h6], msk_R hb hk, zi_s1]
    have hm : ∀ c j x : Nat, ((Nat.beq c 69 || Nat.beq c 70) && Nat.blt x (i + 1)) = false → ((Nat.beq c 69 || Nat.beq c 70) && Nat.blt x i) = false := fun c j x w => by
      cases h1 : (Nat.beq c 69 || Nat.beq c 70) with
      | false => rfl
      | true =>
        rw [h1] at w
        cases h3 : Nat.blt x i with
        | false => rfl
        | true =>
          rw [Nat.blt_eq] at h3
          rw [Nat.blt_eq.mpr (show x < i + 1 by omega)] at w
          cases w
    have hi1 : Nat.blt i (i + 1) = true := Nat.blt_eq.mpr (by omega)
    refine ih kf (i + 1) _ (by omega) (by omega) (by simp [wI_1, h6]) (fr_wI (fr_wI (fr_mono hf hm (fun _ _ _ _ => rfl)) (by simp)) (by simp)) (fun j v hj => ?_)
    by_cases e : j = i
    · subst e
      refine ⟨fun e1 e2 => ?_, fun e1 e2 => ?_⟩
      · rw [ea, zi_eqn (by omega) (by omega)] at e1
        subst e1; simp [wI_1]
      · rw [eb, zi_eqn (by omega) (by omega)] at e1
        subst e1; simp [wI_1]
    · obtain ⟨v1, v2⟩ := hv j v (by omega)
      refine ⟨fun e1 e2 => ?_, fun e1 e2 => ?_⟩
      · simp [wI_1, e, v1 e1 e2]
      · simp [wI_1, e, v2 e1 e2]
theorem op_leaves (h : Rel T c r) : OK2 (s_X6_leaves c) (s_X7_leaves r) := by
  have R6 := ok2_ref h 6 (by omega) (by omega) (show (-6 : Int32) = zi (-((6 : Nat) : Int)) from rfl)
  have hh := h
  obtain ⟨q1, q2, q3, q4, q5, q6, q7, q8, q9, q10⟩ := h
  have hn := q1.1
  unfold s_X6_leaves s_X7_leaves s_X5_removeLast
  rw [q2.1, q3.1]
  by_cases e : tn T = 0
  · rw [e, if_pos y00, if_pos y00]; exact R6
  have ez : ¬ zi (tn T : Nat) = 0 := fun w => e ((zi_eqn (b := 0) (by omega) (by omega)).mp w)
  rw [if_neg ez, if_neg ez, if_neg ez, zlet_eq, zlet_eq, show (1 : Int32) = zi (1 : Nat) from rfl, zi_subn (by omega)]
  have hk : tn T - 1 < 10 := by omega
  have e1 : tn T - 1 + 1 = tn T := by omega
  obtain ⟨c1, a1, a2, a3⟩ := drpC_loop (t := 0) hk (m0 := wI c 1 0 6 (zi (tn T - 1 : Nat))) (fun j hj => by
    obtain ⟨k1, k2, k3, k4, k5, -⟩ := q1.g (show j < tn T by omega)
    obtain ⟨-, -, -, d4, d5⟩ := q2.2.2.2 j (by omega)
    exact ⟨tB T j, tH T j, k4, k5, by simp [wI_1, d4], by simp [wI_1, d5]⟩) (tn T - 1) zF 0 _ (by omega) (by unfold zF; omega) (by simp [wI_1]) (fr_refl _ _ _) (fun j a hj => by omega)
  obtain ⟨r1, b1, b2, b3⟩ := drpR_loop hk (m0 := wI r 64 0 0 (zi (tn T - 1 : Nat))) (fun j hj => by
    obtain ⟨-, -, -, k4, k5⟩ := q1.2.2.2.2.1 j (show j < tn T by omega)
    obtain ⟨-, -, -, d4, d5⟩ := q3.2.2.2 j (by omega)
    exact ⟨tB T j, tH T j, by rw [e1]; exact k4, by rw [e1]; exact k5, by simp [wI_1, d4], by simp [wI_1, d5]⟩) (tn T - 1) zF 0 _ (by omega) (by unfold zF; omega) (by simp [wI_1]) (fr_refl _ _ _) (fun j a hj => by omega)
  rw [show (0 : Int32) = zi (0 : Nat) from rfl, a1, b1, zr_some]
  have t1 : tC 0 (tDrp T) c1 := by
    refine ⟨(a2.1 1 0 6 rfl).trans (by simp [wI_1]; rfl), (a2.1 1 0 5 rfl).trans (by simp [wI_1, q2.2.1]; rfl), (a2.1 1 0 7 rfl).trans (by simp [wI_1, q2.2.2.1]; rfl), fun g hg => ?_⟩
    have hg' : g < tn T - 1 := hg
    obtain ⟨d1, d2, d3, d4, d5⟩ := q2.2.2.2 g (by omega)
    obtain ⟨k1, k2, k3, k4, k5, -⟩ := q1.g (show g < tn T by omega)
    refine ⟨(a2.1 2 0 g rfl).trans (by simp [wI_1, d1]; rfl), (a2.1 3 0 g rfl).trans (by simp [wI_1, d2]; rfl), (a2.1 4 0 g rfl).trans (by simp [wI_1, d3]; rfl), (a3 g (tB T g) hg').1 (by simp [wI_1, d4]) k4, (a3 g (tH T g) hg').2 (by simp [wI_1, d5]) k5⟩
  have t2 : tR (tDrp T) r1 := by
    refine ⟨(b2.1 64 0 0 rfl).trans (by simp [wI_1]; rfl), (b2.1 64 0 1 rfl).trans (by simp [wI_1, q3.2.1]; rfl), (b2.1 64 0 2 rfl).trans (by simp [wI_1, q3.2.2.1]; rfl), fun g hg => ?_⟩
    have hg' : g < tn T - 1 := hg
    obtain ⟨d1, d2, d3, d4, d5⟩ := q3.2.2.2 g (by omega)
    obtain ⟨k1, k2, k3, k4, k5, -⟩ := q1.g (show g < tn T by omega)
    refine ⟨(b2.1 66 0 g rfl).trans (by simp [wI_1, d1]; rfl), (b2.1 68 0 g rfl).trans (by simp [wI_1, d2]; rfl), (b2.1 67 0 g rfl).trans (by simp [wI_1, d3]; rfl), (b3 g (tB T g) hg').1 (by simp [wI_1, d4]) k4, (b3 g (tH T g) hg').2 (by simp [wI_1, d5]) k5⟩
  have f1 : fr (fT 0) e0 c c1 := fr_trans (fr_wI (fr_refl _ _ _) rfl) (fr_mono a2 (fun y j k w => by
    by_cases x5 : y = 5
    · subst x5
      have : Nat.beq j 0 = false := w
      rw [this]; rfl
    · by_cases x6 : y = 6
      · subst x6
        have : Nat.beq j 0 = false := w
        rw [this]; rfl
      · rw [beqf x5, beqf x6]; rfl) (fun _ _ _ _ => rfl))
  have f2 : fr fB6 e0 r r1 := fr_trans (fr_wI (fr_refl _ _ _) rfl) (fr_mono b2 (fun y j k w => by
    by_cases x5 : y = 69
    · subst x5; exact absurd w (by simp [fB6])
    · by_cases x6 : y = 70
      · subst x6; exact absurd w (by simp [fB6])
      · rw [beqf x5, beqf x6]; rfl) (fun _ _ _ _ => rfl))
  have s1 : shlQ (tn T) c1 r1 := shlQ_fr f1 f2 (fun _ => ⟨rfl, rfl⟩) (fun _ _ => rfl) (fun _ => ⟨rfl, rfl, rfl, rfl⟩) (fun _ => rfl) q6
  obtain ⟨c2, r2, d1, d2, d3, d4, d5⟩ := gone2 hn (show tn (tDrp T) ≤ 10 from Nat.le_of_lt hk) s1 t1.1 t2.1
  rw [d1, d2, zr_some, zr_some]
  have u1 : tC 0 (tDrp T) c2 := tC_fr d4 (fun _ => ⟨rfl, rfl, rfl, rfl, rfl, rfl⟩) t1
  have u2 : tR (tDrp T) r2 := tR_fr d5 rfl rfl rfl (fun _ => ⟨rfl, rfl, rfl, rfl, rfl⟩) t2
  rw [u1.1, u2.1]
  refine ⟨_, _, _, tDrp T, rfl, rfl, Rel_any (fr_trans (fr_L8a f1) (fr_L8b d4)) (fr_trans (fr_L71a f2) (fr_L71b d5)) hh (drp_ok q1 e) u1 u2 ⟨?_, ?_, ?_⟩ d3⟩
  · rw [d4.1 1 0 8 rfl, d5.1 64 0 3 rfl, a2.1 1 0 8 rfl, b2.1 64 0 3 rfl]; simp [wI_1, q4.1]
  · rw [d4.1 1 0 9 rfl, d5.1 64 0 4 rfl, a2.1 1 0 9 rfl, b2.1 64 0 4 rfl]; simp [wI_1, q4.2.1]
  · rw [d4.1 1 0 10 rfl, d5.1 64 0 5 rfl, a2.1 1 0 10 rfl, b2.1 64 0 5 rfl]; simp [wI_1, q4.2.2]
end Z1
