/-! OPS: table -/
section ZK
variable {T : zTab} {c r : zMem} {s l : Nat} {V : Nat → Int32}
def zF1 : List Int32 := [115, 103, 98, 104, 101, 109]
theorem ml_first {w a : Nat} (hw : w < 6) (h : chA V l a ≠ zF1.getD w 0) : ml V l (zSB.getD w []) a = 0 := by
  have c6 : w = 0 ∨ w = 1 ∨ w = 2 ∨ w = 3 ∨ w = 4 ∨ w = 5 := by omega
  rcases c6 with rfl | rfl | rfl | rfl | rfl | rfl
  · exact ml_no (W := [101, 97, 116, 115]) (by decide) h
  · exact ml_no (W := [117, 101, 115, 116]) (by decide) h
  · exact ml_no (W := [97, 114]) (by decide) h
  · exact ml_no (W := [97, 100]) (by decide) h
  · exact ml_no (W := [121, 101, 115]) (by decide) h
  · exact ml_no (W := [111, 118, 101]) (by decide) h
theorem zF1_ne : ∀ w, w < 6 → ∀ w0, w0 < 6 → w ≠ w0 → zF1.getD w0 0 ≠ zF1.getD w 0 := by decide
theorem comb {a w0 : Nat} (hC : RCq s l V c) (hR : RRq s l V r) (ha : a < 1000) (hat : c.1 19 0 0 = zi (a : Nat)) (hrat : r.1 64 0 22 = zi (a : Nat)) (hO : tOK T) (hT : tC 1 T c) (hT' : tR T r) (hw0 : w0 < 6) (hch : chA V l a = zF1.getD w0 0) {K : zMem → Option (Int32 × zMem)} (hno : ∀ b c', RCq s l V c' → b < 1010 → c'.1 19 0 0 = zi (b : Nat) → tC 1 T c' → chA V l b ≠ 32 → K c' = some (0, c')) (hyes : ∀ b c' r', KP s l V T b c' r' → letsA (tn T) w0 = true → ITq l T b c' r' (K c') (s_X7_item_L79 zF (zi w0) (zi (cntW w0)) (zi (0 : Nat)) r')) : ITq l T a c r (zb (wordW (tn T) s w0 c) (fun (r5 : Int32) (m6 : zMem) => if r5 = 0 then some (0, m6) else zb (K m6) (fun (r9 : Int32) (m10 : zMem) => if r9 = 0 then some (0, m10) else some (1, m10)))) (s_X7_item r) := by
  have hl := hC.1
  rcases ws (n := tn T) hC hR ha hat hrat hO.1 hT'.1 hw0 (fun w h1 h2 => ml_first h1 (by rw [hch]; exact zF1_ne w h1 w0 hw0 h2)) with ⟨f, c1, r1, e1, e2, e3, e4, e5, e6⟩ | ⟨b, c1, r1, b1, b2, e1, e2, e3, e4, e5, e6⟩ | ⟨b, c1, r1, b1, b2, b3, b4, e1, e2, e3, e4, e5, e6⟩
  · exact Or.inl ⟨f, c1, r1, by rw [e1, zb_some, if_pos rfl], e2, e3, e4, fr_I19 e5, fr_JN e6⟩
  · exact Or.inl ⟨b, c1, r1, by rw [e1, zb_some, if_neg n10, hno b c1 (RC_19 hC e5) b1 e3 (tC_I e5 hT) b2, zb_some, if_pos rfl], e2, e3, e4, fr_I19 e5, fr_JN e6⟩
  · rw [e1, zb_some, if_neg n10, e2]
    rcases hyes b c1 r1 ⟨RC_19 hC e5, by omega, e3, hO, tC_I e5 hT, RR_Nt hR e6, tR_Nt hT' e6, b3, e4⟩ b4 with ⟨f, c', r', x1, x2, x3, x4, x5, x6⟩ | ⟨T', q, c', r', x1, x2, x3, x4, x5, x6, x7, x8, x9, x10, x11, x12, x13⟩
    · exact Or.inl ⟨f, c', r', by rw [x1, zb_some, if_pos rfl], x2, x3, x4, fr_trans (fr_I19 e5) x5, fr_trans (fr_JN e6) x6⟩
    · exact Or.inr ⟨T', q, c', r', by rw [x1, zb_some, if_neg n10], x2, x3, x4, x5, x6, x7, by omega, x9, x10, fr_trans (fr_I19 e5) x11, fr_trans (fr_JN e6) x12, c8_tr (c8_fr e5 ⟨rfl, rfl, rfl⟩) x13⟩
theorem item2 {a : Nat} (hC : RCq s l V c) (hR : RRq s l V r) (ha : a < 1000) (hat : c.1 19 0 0 = zi (a : Nat)) (hrat : r.1 64 0 22 = zi (a : Nat)) (hO : tOK T) (hT : tC 1 T c) (hT' : tR T r) : ITq l T a c r (s_X3_readItem s 1 c) (s_X7_item r) := by
  have hl := hC.1
  have hn := hO.1
  have w1 : ∀ w m, ¬ w ≤ 1 → s_X3_readWord s w m = wordW (tn T) s w m := fun w m h => by unfold wordW; rw [if_neg h]
  have w0 : wordW (tn T) s 0 c = (if c.1 1 1 6 = 0 then s_X3_readWordIf 1 s 0 c else s_X3_readWordIf 0 s 0 c) := by
    rw [show wordW (tn T) s 0 c = s_X3_readWordIf (zo (decide (tn T = 0))) s 0 c from rfl, hT.1]
    by_cases e : tn T = 0
    · rw [if_pos (show zi (tn T : Nat) = 0 from by rw [e]; rfl), decide_eq_true e]; rfl
    · have e0 : ¬ zi (tn T : Nat) = 0 := fun q => e ((zi_eqn (b := 0) (by omega) (by omega)).mp q)
      rw [if_neg e0, decide_eq_false e]; rfl
  have w2 : ∃ q, s_X5_isFull 1 c = some q ∧ wordW (tn T) s 1 c = (if q = 0 then s_X3_readWordIf 1 s 1 c else s_X3_readWordIf 0 s 1 c) := by
    unfold s_X5_isFull
    rw [show wordW (tn T) s 1 c = s_X3_readWordIf (zo (decide (tn T < 10))) s 1 c from rfl, hT.1, show (10 : Int32) = zi (10 : Nat) from rfl]
    by_cases e : tn T < 10
    · exact ⟨0, by rw [if_pos ((zi_ltn (by omega) (by omega)).mpr e)], by rw [if_pos rfl, decide_eq_true e]; rfl⟩
    · exact ⟨1, by rw [if_neg (fun q => e ((zi_ltn (by omega) (by omega)).mp q))], by rw [if_neg n10, decide_eq_false e]; rfl⟩
  unfold s_X3_readItem s_X3_readItem_L109 s_X3_readItem_L146
  rw [hat, num_ch hC (by omega), zr_some]
  by_cases h2 : chA V l a = 98
  · rw [if_pos h2, w1 2 c (by decide)]
    exact comb hC hR ha hat hrat hO hT hT' (w0 := 2) (by decide) h2 (K := s_X3_readPair_5 s 1 1) (fun b c' a1 a2 a3 a4 a5 => K2_no a1 a2 a3 a4 hO a5) (fun b c' r' k1 _ => K2_C k1 hl 1996)
  rw [if_neg h2]
  by_cases h4 : chA V l a = 101
  · rw [if_pos h4, w1 4 c (by decide)]
    exact comb hC hR ha hat hrat hO hT hT' (w0 := 4) (by decide) h4 (K := s_X3_readEyes s 1) (fun b c' a1 a2 a3 a4 a5 => K4_no a1 a2 a3 a5) (fun b c' r' k1 _ => K4_C k1 1996)
  rw [if_neg h4]
  by_cases h1 : chA V l a = 103
  · obtain ⟨q, q1, q2⟩ := w2
    have key := comb hC hR ha hat hrat hO hT hT' (w0 := 1) (by decide) h1 (K := s_X3_readGuest s 1) (fun b c' a1 a2 a3 a4 a5 => K1_no a1 a2 a3 a5) (fun b c' r' k1 k2 => K1_C k1 (of_decide_eq_true k2) hl 1996)
    rw [if_pos h1, q1, zr_some]
    rw [q2] at key
    by_cases e : q = 0
    · rw [if_pos e] at key ⊢; exact key
    · rw [if_neg e] at key ⊢; exact key
  rw [if_neg h1]
  by_cases h3 : chA V l a = 104
  · rw [if_pos h3, w1 3 c (by decide)]
    exact comb hC hR ha hat hrat hO hT hT' (w0 := 3) (by decide) h3 (K := s_X3_readPair_6 s 1 1) (fun b c' a1 a2 a3 a4 a5 => K3_no a1 a2 a3 a4 hO a5) (fun b c' r' k1 _ => K3_C k1 hl 1996)
  rw [if_neg h3]
  by_cases h5 : chA V l a = 109
  · rw [if_pos h5, w1 5 c (by decide)]
    exact comb hC hR ha hat hrat hO hT hT' (w0 := 5) (by decide) h5 (K := s_X3_readMove s 1) (fun b c' a1 a2 a3 a4 a5 => K5_no a1 a2 a3 a4 hO a5) (fun b c' r' k1 _ => K5_C k1 hl 1996)
  rw [if_neg h5]
  by_cases h0 : chA V l a = 115
  · have key := comb hC hR ha hat hrat hO hT hT' (w0 := 0) (by decide) h0 (K := s_X3_readSeats s 1) (fun b c' a1 a2 a3 a4 a5 => K0_no a1 a2 a3 a5) (fun b c' r' k1 k2 => K0_C k1 (of_decide_eq_true k2) 1996)
    rw [if_pos h0]
    rw [w0] at key
    by_cases e : c.1 1 1 6 = 0
    · rw [if_pos e] at key ⊢; exact key
    · rw [if_neg e] at key ⊢; exact key
  rw [if_neg h0]
  -- no word begins so
  have hne : ∀ w, w < 6 → ml V l (zSB.getD w []) a = 0 := fun w hw => ml_first hw (by
    have c6 : w = 0 ∨ w = 1 ∨ w = 2 ∨ w = 3 ∨ w = 4 ∨ w = 5 := by omega
    rcases c6 with rfl | rfl | rfl | rfl | rfl | rfl
    · exact h0
    · exact h1
    · exact h2
    · exact h3
    · exact h4
    · exact h5)
  refine Or.inl ⟨a, c, wI r 64 0 25 (zi (a : Nat)), rfl, ?_, hat, by simp [wI_1], fr_refl _ _ _, fr_wI (fr_refl _ _ _) rfl⟩
  have hF : ∀ w, w < 6 → w ≠ 2 → ml V l (zWf w) a = 0 := fun w h1 _ => by
    rw [mlF, hne w h1, if_neg]
    have c6 : w = 0 ∨ w = 1 ∨ w = 2 ∨ w = 3 ∨ w = 4 ∨ w = 5 := by omega
    rcases c6 with rfl | rfl | rfl | rfl | rfl | rfl <;> decide
  have hF2 : ml V l (zWf 2) a = 0 := by rw [mlF, hne 2 (by decide), if_neg (by decide)]
  rw [item_pre hR ha hrat hn hT'.1 (w0 := 2) (by decide) (fun w h1 _ => hne w h1), hne 2 (by decide), if_neg (fun q => absurd q.1 (by decide))]
  unfold s_X7_item_L41
  rw [word_R hR (by omega) hrat (w0 := 2) (by decide) hF, hF2, if_neg (by decide), zb_some, if_pos rfl]
  rfl
def RBq (l : Nat) (T : zTab) (c r : zMem) (X Y : Option (Int32 × zMem)) : Prop := (∃ f n' c' r', X = some (-1, c') ∧ Y = s_X7_table_L133 n' 0 r' ∧ c'.1 19 0 0 = zi (f : Nat) ∧ r'.1 64 0 25 = zi (f : Nat) ∧ fr fI e0 c c' ∧ fr fJ e0 r r') ∨ ∃ T' n c' r', X = some (zi (n : Nat), c') ∧ Y = some (zi (n : Nat), r') ∧ n < 1000 ∧ tOK T' ∧ tC 1 T' c' ∧ tR T' r' ∧ tn T ≤ tn T' ∧ fr fI e0 c c' ∧ fr fJ e0 r r' ∧ c8Q c c'
theorem L62_0 (k : Nat) (n : Int32) (m : zMem) : s_X7_table_L62 (k + 1) n 0 m = s_X7_table_L133 n 0 m := by
  unfold s_X7_table_L62
  rw [if_pos rfl]
theorem read_loop : ∀ (d kf kf' it a : Nat) (T : zTab) (c r : zMem), l + 1 ≤ a + d → a ≤ l → d < kf → d + 1 < kf' → 2 * it ≤ a + 2 → RCq s l V c → RRq s l V r → c.1 19 0 0 = zi (a : Nat) → r.1 64 0 22 = zi (a : Nat) → tOK T → tC 1 T c → tR T r → RBq l T c r (s_X3_read_L7 kf s 1 (zi it) c) (zb (s_X7_item r) (fun (r13 : Int32) (m14 : zMem) => s_X7_table_L62 kf' (zi it) r13 m14)) := by
  intro d
  induction d with
  | zero => intro kf kf' it a T c r h1 h2; omega
  | succ d ih =>
    intro kf kf' it a T c r hd hal hkf hkf' hit hC hR hat hrat hO hT hT'
    have hl := hC.1
    have hs := hR.1
    obtain ⟨kf, rfl⟩ : ∃ z, kf = z + 1 := ⟨kf - 1, by omega⟩
    obtain ⟨kf', rfl⟩ : ∃ z, kf' = z + 1 + 1 := ⟨kf' - 2, by omega⟩
    unfold s_X3_read_L7
    have hit' : ¬ (160 : Int32) < zi (it : Nat) := fun q => by
      rw [show (160 : Int32) = zi (160 : Nat) from rfl, zi_ltn (by omega) (by omega)] at q
      omega
    rw [if_neg hit']
    rcases item2 hC hR (show a < 1000 by omega) hat hrat hO hT hT' with ⟨f, c', r', x1, x2, x3, x4, x5, x6⟩ | ⟨T', q, c', r', x1, x2, x3, x4, x5, x6, x7, x8, x9, x10, x11, x12, x13⟩
    · exact Or.inl ⟨f, zi it, c', r', by rw [x1, zb_some, if_pos rfl], by rw [x2, zb_some, L62_0], x3, x4, x5, x6⟩
    · have hC' := RC_I hC x11
      have hR' := RR_J hR x12
      rw [x1, x2, zb_some, zb_some, if_neg n10, x6, hC'.2.1]
      unfold s_X7_table_L62
      rw [if_neg n10, hR'.2.2.2.1, x7]
      by_cases e : q < l
      · have hlq : ¬ zi (l : Nat) ≤ zi (q : Nat) := fun w => by rw [zi_len (by omega) (by omega)] at w; omega
        rw [if_pos ((zi_ltn (by omega) (by omega)).mpr e), num_ch hC' (by omega), zr_some, if_neg hlq, hR'.2.2.1, zi_addn, chk_zn (show 160 * s + q < 1280 by omega) (by decide), ix_zn (by omega), hR'.2.2.2.2.1 q e, show chA V l q = V q from if_pos e]
        by_cases e2 : V q = 59
        · rw [if_pos e2, if_pos e2, zlet_eq, zlet_eq, zi_s1 it, zi_s1 q]
          have f1 : fr fI e0 c' (wI c' 19 0 0 (zi (q + 1 : Nat))) := fr_wI (fr_refl _ _ _) rfl
          have f2 : fr fJ e0 r' (wI r' 64 0 22 (zi (q + 1 : Nat))) := fr_wI (fr_refl _ _ _) rfl
          have g1 : fr f19 e0 c' (wI c' 19 0 0 (zi (q + 1 : Nat))) := fr_wI (fr_refl _ _ _) rfl
          have g2 : fr fNt e0 r' (wI r' 64 0 22 (zi (q + 1 : Nat))) := fr_wI (fr_refl _ _ _) rfl
          rcases ih kf (kf' + 1) (it + 1) (q + 1) T' _ _ (by omega) (by omega) (by omega) (by omega) (by omega) (RC_I hC' f1) (RR_J hR' f2) (by simp [wI_1]) (by simp [wI_1]) x3 (tC_I g1 x4) (tR_Nt x5 g2) with ⟨f, n', c'', r'', y1, y2, y3, y4, y5, y6⟩ | ⟨T'', n, c'', r'', y1, y2, y3, y4, y5, y6, y7, y8, y9, y10⟩
          · exact Or.inl ⟨f, n', c'', r'', y1, y2, y3, y4, fr_trans x11 (fr_trans f1 y5), fr_trans x12 (fr_trans f2 y6)⟩
          · exact Or.inr ⟨T'', n, c'', r'', y1, y2, y3, y4, y5, y6, by omega, fr_trans x11 (fr_trans f1 y8), fr_trans x12 (fr_trans f2 y9), c8_tr x13 (c8_tr (c8_fr g1 ⟨rfl, rfl, rfl⟩) y10)⟩
        · rw [if_neg e2, if_neg e2]
          refine Or.inl ⟨q, zi it, c', wI r' 64 0 25 (zi (q : Nat)), rfl, ?_, x6, by simp [wI_1], x11, fr_wI x12 rfl⟩
          unfold s_X7_wrong
          rw [zlet_eq, zb_some, L62_0]
      · rw [if_neg (fun w => e ((zi_ltn (by omega) (by omega)).mp w)), if_pos ((zi_len (by omega) (by omega)).mpr (by omega))]
        unfold s_X7_table_L133
        rw [if_neg n10]
        exact Or.inr ⟨T', it, c', r', rfl, rfl, by omega, x3, x4, x5, x10, x11, x12, x13⟩
def mI2 : zEx := fun c j k => mI c j k || (Nat.beq c 0 && Nat.beq k 10)
def mR2 : zEx := fun c j k => mR c j k || (Nat.beq c 64 && Nat.beq k 6)
theorem fr_i2 {a b : zMem} (h : fr mI sL a b) : fr mI2 sL a b := fr_mono h (fun _ _ _ w => (Bool.or_eq_false_iff.mp w).1) (fun _ _ _ w => w)
theorem fr_r2 {a b : zMem} (h : fr mR rL a b) : fr mR2 rL a b := fr_mono h (fun _ _ _ w => (Bool.or_eq_false_iff.mp w).1) (fun _ _ _ w => w)
theorem Rel_tab2 {T' : zTab} {c' r' : zMem} (h : fr mI2 sL c c') (h' : fr mR2 rL r r') (q : Rel T c r) (o : tOK T') (a : tC 0 T' c') (b : tR T' r') (d : cntQ c' r') (f : ftQ c' r') (e : tn T ≤ tn T') : Rel T' c' r' := by
  obtain ⟨q1, q2, q3, q4, q5, q6, q7, q8, q9, q10⟩ := q
  exact ⟨o, a, b, d, picQ_fr h h' rfl (fun _ => ⟨rfl, rfl, rfl, rfl, rfl, rfl⟩) rfl (fun _ => rfl) q5, shlQ_more e (shlQ_fr h h' (fun _ => ⟨rfl, rfl⟩) (fun _ _ => rfl) (fun _ => ⟨rfl, rfl, rfl, rfl⟩) (fun _ => rfl) q6), rfsQ_fr h h' (fun _ => rfl) (fun _ => rfl) q7, f, acQ_fr h h' rfl (fun _ => rfl) rfl (fun _ => rfl) q9, wdQ_fr h' (fun _ => rfl) q10⟩
theorem fr_Is {a b : zMem} (h : fr fI e0 a b) : fr sI sL a b := fr_mono h (fun x j k w => by
  by_cases e : x = 19
  · subst e; exact absurd w (by simp [sI])
  · unfold fI
    rw [beqf e, Bool.false_or]
    unfold sI at w
    rw [Bool.or_eq_false_iff, Bool.or_eq_false_iff] at w
    rw [Bool.and_assoc]
    exact w.2.1) (fun _ _ _ _ => rfl)
theorem fr_Jm {a b : zMem} (h : fr fJ e0 a b) : fr mR rL a b := fr_mono h (fun x j k w => by
  have h78 : ¬ x = 78 := fun e => by subst e; exact absurd w (by simp [mR, rI'])
  by_cases e : x = 64
  · subst e
    have h22 : ¬ k = 22 := fun q => by subst q; exact absurd w (by simp [mR, rI'])
    have h24 : ¬ k = 24 := fun q => by subst q; exact absurd w (by simp [mR, rI'])
    have h25 : ¬ k = 25 := fun q => by subst q; exact absurd w (by simp [mR, rI'])
    have h2 : Nat.ble k 2 = false := by
      cases q : Nat.ble k 2 with
      | false => rfl
      | true =>
        rw [Nat.ble_eq] at q
        unfold mR at w
        rw [Bool.or_eq_false_iff, Bool.or_eq_false_iff, Nat.ble_eq.mpr (show k ≤ 5 by omega)] at w
        exact absurd w.2.1 (by decide)
    unfold fJ fNt
    rw [beqf h22, beqf h24, beqf h25, h2]; rfl
  · unfold fJ fNt
    rw [beqf e, beqf h78]
    unfold mR at w
    rw [Bool.or_eq_false_iff, Bool.or_eq_false_iff] at w
    rw [w.2.2]; rfl) (fun _ _ _ _ => rfl)
theorem fr_Bm {a b : zMem} (h : fr fB6 e0 a b) : fr mR rL a b := fr_mono h (fun x j k w => by
  unfold mR at w
  rw [Bool.or_eq_false_iff] at w
  exact w.2) (fun _ _ _ _ => rfl)
theorem fr_79 {a b : zMem} (h : fr f79 e0 a b) : fr mR rL a b := fr_mono h (fun x j k w => by
  by_cases e : x = 79
  · subst e; exact absurd w (by simp [mR, rI'])
  · exact beqf e) (fun _ _ _ _ => rfl)
theorem fr_T0 {a b : zMem} (h : fr (fT 0) e0 a b) : fr mI sL a b := fr_fT h
theorem op_table (h : Rel T c r) (a : Int32) : OK2 (s_X6_table a c) (s_X7_table a r) := by
  have hO := h.1
  have hn := hO.1
  unfold s_X6_table s_X7_table s_X3_read
  rcases (rowB h a).symm with ⟨k, k1, k2, k3, k4⟩ | ⟨s, o, l, s1, rfl, q, k3, k4⟩
  · have nk := neg_ne0 k1 (show k ≤ 7 by omega)
    rw [k3, k4, zr_some, zr_some, if_neg nk, if_neg nk]
    exact ok2_ref h k k1 (by omega) rfl
  rw [k3, k4, zr_some, zr_some, ite_00, ite_00]
  have hl := q.2.1
  obtain ⟨c1, a1, a2, a3, a4, a5, a6⟩ := takeOver_C (t := 1) h.2.1 hn (by decide)
  obtain ⟨r1, b1, b2, b3, b4, b5, b6⟩ := all79_R h.2.2.1 hn
  rw [a1, zr_some, b1, zr_some]
  simp only [chk_zn s1 (show (8 : Nat) < 2147483648 by decide), ix_zn (show s < 2147483648 by omega), zlet_eq]
  have e73 : (wI (wI r1 64 0 21 (160 * zi (s : Nat))) 64 0 22 0).1 73 0 s = zi (l : Nat) := by
    simp [wI_1]; rw [b6.1 73 0 s rfl]; exact q.2.2.2.2.2.2.1
  rw [e73]
  generalize hr2 : wI (wI (wI (wI r1 64 0 21 (160 * zi (s : Nat))) 64 0 22 0) 64 0 23 (zi (l : Nat))) 64 0 6 (-1) = r2
  generalize hc2 : wI c1 19 0 0 0 = c2
  have fr12 : fr (fun c _ k => Nat.beq c 64 && (Nat.beq k 21 || (Nat.beq k 22 || (Nat.beq k 23 || Nat.beq k 6)))) e0 r1 r2 := by rw [← hr2]; exact fr_wI (fr_wI (fr_wI (fr_wI (fr_refl _ _ _) rfl) rfl) rfl) rfl
  have gr12 : fr mR2 rL r1 r2 := by rw [← hr2]; exact fr_wI (fr_wI (fr_wI (fr_wI (fr_refl _ _ _) rfl) rfl) rfl) rfl
  have fc12 : fr f19 e0 c1 c2 := by rw [← hc2]; exact fr_wI (fr_refl _ _ _) rfl
  have hC : RCq s l (fun k => nm s k c) c2 := ⟨hl, by rw [fc12.1 8 s 2 rfl, a3.1 8 s 2 rfl]; exact q.2.2.2.1, fun k hk => by
    unfold nm
    rw [fc12.2 9 s k rfl, a3.2 9 s k rfl]⟩
  have hR : RRq s l (fun k => nm s k c) r2 := ⟨s1, hl, by rw [← hr2]; simp [wI_1]; exact zi_muln 160 s, by rw [← hr2]; simp [wI_1], fun k hk => by
    show _ = nm s k c
    unfold nm
    rw [fr12.2 75 0 _ rfl, b6.2 75 0 _ rfl, q.2.2.2.2.2.2.2 k hk], wdQ_fr fr12 (fun _ => rfl) (wdQ_fr b6 (fun _ => rfl) h.2.2.2.2.2.2.2.2.2)⟩
  have hT2 : tC 1 T c2 := tC_I fc12 a2
  have hT1' : tR T r1 := tR_fr b6 rfl rfl rfl (fun _ => ⟨rfl, rfl, rfl, rfl, rfl⟩) h.2.2.1
  have hT2' : tR T r2 := tR_fr fr12 rfl rfl rfl (fun _ => ⟨rfl, rfl, rfl, rfl, rfl⟩) hT1'
  have cI : fr mI2 sL c c2 := fr_i2 (fr_sm (fr_trans (fr_T1 a3) (fr_Is (fr_I19 fc12))))
  have rI2 : fr mR2 rL r r2 := fr_trans (fr_r2 (fr_79 b6)) gr12
  have main := read_loop (l := l) (s := s) (V := fun k => nm s k c) (l + 1) zF zF 1 0 T c2 r2 (by omega) (by omega) (by unfold zF; omega) (by unfold zF; omega) (by omega) hC hR (by rw [← hc2]; simp [wI_1]; rfl) (by rw [← hr2]; simp [wI_1]; rfl) hO hT2 hT2'
  have m1 : s_X3_read_L7 zF s 1 1 c2 = s_X3_read_L7 zF s 1 (zi (1 : Nat)) c2 := rfl
  have m2 : zb (s_X7_item r2) (fun (r13 : Int32) (m14 : zMem) => s_X7_table_L62 zF 1 r13 m14) = zb (s_X7_item r2) (fun (r13 : Int32) (m14 : zMem) => s_X7_table_L62 zF (zi (1 : Nat)) r13 m14) := rfl
  rw [m1, m2]
  obtain ⟨q1, q2, q3⟩ := h.2.2.2.1
  rcases main with ⟨f, n', c3, r3, x1, x2, x3, x4, x5, x6⟩ | ⟨T', n, c3, r3, x1, x2, x3, x4, x5, x6, x7, x8, x9, x10⟩
  · rw [x1, x2, zb_some, if_pos rfl, x3]
    unfold s_X7_table_L133
    rw [if_pos rfl]
    have hk : tKp T (r3.1 79 0) := tKp_eq (fun k => (x6.1 79 0 k rfl).trans (fr12.1 79 0 k rfl)) b2
    obtain ⟨r4, d1, d2, d3, d4, d5, d6⟩ := all79_back hk hn
    rw [d1, zr_some, zlet_eq, d6.1 64 0 25 rfl, x4]
    have c79 : ∀ k, r3.1 79 0 k = r1.1 79 0 k := fun k => (x6.1 79 0 k rfl).trans (fr12.1 79 0 k rfl)
    have t0 : tC 0 T (wI c3 0 0 10 (zi (f : Nat))) := by
      have f3 : fr (fun c j k => sI c j k || Nat.beq c 0) sL c (wI c3 0 0 10 (zi (f : Nat))) := fr_wI (fr_mono (fr_trans (fr_T1 a3) (fr_trans (fr_Is (fr_I19 fc12)) (fr_Is x5))) (fun _ _ _ w => (Bool.or_eq_false_iff.mp w).1) (fun _ _ _ w => w)) rfl
      exact tC_fr f3 (fun _ => ⟨rfl, rfl, rfl, rfl, rfl, rfl⟩) h.2.1
    have t1 : tR T (wI r4 64 0 6 (zi (f : Nat))) := tR_fr (f := fun c _ k => Nat.beq c 64 && Nat.beq k 6) (g := e0) (fr_wI (fr_refl _ _ _) rfl) rfl rfl rfl (fun _ => ⟨rfl, rfl, rfl, rfl, rfl⟩) d2
    have cnt : fr sI sL c c3 := fr_trans (fr_T1 a3) (fr_trans (fr_Is (fr_I19 fc12)) (fr_Is x5))
    obtain ⟨w1, w2, w3⟩ := cnt_s cnt
    have hrel : Rel T (wI c3 0 0 10 (zi (f : Nat))) (wI r4 64 0 6 (zi (f : Nat))) := Rel_tab2 (fr_wI (fr_trans cI (fr_i2 (fr_sm (fr_Is x5)))) rfl) (fr_wI (fr_trans rI2 (fr_trans (fr_r2 (fr_Jm x6)) (fr_r2 (fr_Bm d6)))) rfl) h hO t0 t1 ⟨by simp [wI_1, w1, q1, d3, c79, b3], by simp [wI_1, w2, q2, d4, c79, b4], by simp [wI_1, w3, q3, d5, c79, b5]⟩ (by unfold ftQ; simp [wI_1]) (Nat.le_refl _)
    exact ok2_ref hrel 6 (by omega) (by omega) rfl
  · have nn : ¬ zi (n : Nat) = -1 := fun w => by rw [li_m1, zi_eq (by omega) (by omega) (by omega) (by omega)] at w; omega
    rw [x1, x2, zb_some, if_neg nn]
    have f0 : fr (fun c _ k => Nat.beq c 0 && Nat.beq k 10) e0 c3 (wI c3 0 0 10 (-1)) := fr_wI (fr_refl _ _ _) rfl
    have t1 : tC 1 T' (wI c3 0 0 10 (-1)) := tC_fr f0 (fun _ => ⟨rfl, rfl, rfl, rfl, rfl, rfl⟩) x5
    obtain ⟨c4, d1, d2, d3, d4, d5, d6⟩ := takeOver_C (t := 0) t1 x4.1 (by decide)
    rw [d1, zr_some]
    obtain ⟨u1, u2, u3⟩ := c8_tr (c8_fr fc12 ⟨rfl, rfl, rfl⟩) x10
    refine ⟨_, _, _, T', rfl, rfl, Rel_tab2 (fr_trans cI (fr_trans (fr_i2 (fr_sm (fr_Is x8))) (fr_trans (fr_wI (fr_refl _ _ _) rfl) (fr_i2 (fr_T0 d3))))) (fr_trans rI2 (fr_r2 (fr_Jm x9))) h x4 d2 x6 ⟨?_, ?_, ?_⟩ ?_ x7⟩
    · rw [d4, f0.1 1 1 8 rfl, u1, a4, q1, x9.1 64 0 3 rfl, fr12.1 64 0 3 rfl, b6.1 64 0 3 rfl]
    · rw [d5, f0.1 1 1 9 rfl, u2, a5, q2, x9.1 64 0 4 rfl, fr12.1 64 0 4 rfl, b6.1 64 0 4 rfl]
    · rw [d6, f0.1 1 1 10 rfl, u3, a6, q3, x9.1 64 0 5 rfl, fr12.1 64 0 5 rfl, b6.1 64 0 5 rfl]
    · unfold ftQ
      rw [d3.1 0 0 10 rfl, x9.1 64 0 6 rfl, ← hr2]
      simp [wI_1]
end ZK
