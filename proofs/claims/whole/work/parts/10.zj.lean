/-! what the items tell -/
section ZJ
variable {T : zTab} {c r : zMem} {s l b : Nat} {V : Nat → Int32}
theorem nm1 {v : Nat} (h : v ≤ 12) : ¬ zi (v : Nat) = -1 := fun w => by rw [li_m1, zi_eq (by omega) (by omega) (by omega) (by omega)] at w; omega
theorem bnd {v b : Nat} (h1 : v ≤ 12) (h2 : b.testBit v = true) : (decide (v ≤ 12) && b.testBit v) = true := by rw [decide_eq_true h1, h2]; rfl
theorem tC_I {T' : zTab} {c' : zMem} (f : fr f19 e0 c c') (h : tC 1 T' c) : tC 1 T' c' := tC_fr f (fun _ => ⟨rfl, rfl, rfl, rfl, rfl, rfl⟩) h
theorem end_0 (kf : Nat) (m : zMem) : s_X7_item_L79 (kf + 1) (zi (0 : Nat)) (zi (1 : Nat)) (zi (1 : Nat)) m = some (1, wI m 64 0 1 (m.1 78 0 0)) := rfl
theorem end_4 (kf : Nat) (m : zMem) : s_X7_item_L79 (kf + 1) (zi (4 : Nat)) (zi (1 : Nat)) (zi (1 : Nat)) m = some (1, wI m 64 0 2 (m.1 78 0 0)) := rfl
theorem end_1 (kf : Nat) (m : zMem) : s_X7_item_L79 (kf + 1) (zi (1 : Nat)) (zi (3 : Nat)) (zi (3 : Nat)) m = zb (s_X7_adds (m.1 78 0 0) (m.1 78 0 1) (m.1 78 0 2) m) (fun (r25 : Int32) (m26 : zMem) => some (1, m26)) := rfl
theorem end_2 (kf : Nat) (m : zMem) : s_X7_item_L79 (kf + 1) (zi (2 : Nat)) (zi (2 : Nat)) (zi (2 : Nat)) m = zb (s_X7_puts_69 (m.1 78 0 0) (m.1 78 0 1) 1 m) (fun (r25 : Int32) (m26 : zMem) => some (1, m26)) := rfl
theorem end_3 (kf : Nat) (m : zMem) : s_X7_item_L79 (kf + 1) (zi (3 : Nat)) (zi (2 : Nat)) (zi (2 : Nat)) m = zb (s_X7_puts_70 (m.1 78 0 0) (m.1 78 0 1) 1 m) (fun (r25 : Int32) (m26 : zMem) => some (1, m26)) := rfl
theorem end_5 (kf : Nat) (m : zMem) : s_X7_item_L79 (kf + 1) (zi (5 : Nat)) (zi (2 : Nat)) (zi (2 : Nat)) m = chk (m.1 78 0 0) 10 (zlet (wI m 68 0 (ix (m.1 78 0 0)) (m.1 78 0 1)) (fun (m38 : zMem) => some (1, m38))) := rfl
theorem K0_no (hC : RCq s l V c) (hb : b < 1010) (hat : c.1 19 0 0 = zi (b : Nat)) (h : chA V l b ≠ 32) : s_X3_readSeats s 1 c = some (0, c) := by
  unfold s_X3_readSeats
  rw [rn_no hC (by omega) hat h, zb_some, if_pos rfl]
theorem K4_no (hC : RCq s l V c) (hb : b < 1010) (hat : c.1 19 0 0 = zi (b : Nat)) (h : chA V l b ≠ 32) : s_X3_readEyes s 1 c = some (0, c) := by
  unfold s_X3_readEyes
  rw [rn_no hC (by omega) hat h, zb_some, if_pos rfl]
theorem K1_no (hC : RCq s l V c) (hb : b < 1010) (hat : c.1 19 0 0 = zi (b : Nat)) (h : chA V l b ≠ 32) : s_X3_readGuest s 1 c = some (0, c) := by
  unfold s_X3_readGuest s_X3_readGuest_L26 s_X3_readGuest_L46
  rw [rn_no hC (by omega) hat h, zb_some, if_pos rfl, if_pos rfl, if_pos rfl]
theorem K2_no (hC : RCq s l V c) (hb : b < 1010) (hat : c.1 19 0 0 = zi (b : Nat)) (hT : tC 1 T c) (hO : tOK T) (h : chA V l b ≠ 32) : s_X3_readPair_5 s 1 1 c = some (0, c) := by
  unfold s_X3_readPair_5 s_X3_readPair_5_L32
  rw [gb_C hT hO, zr_some, rn_no hC (by omega) hat h, zb_some, if_pos rfl, if_pos rfl]
theorem K3_no (hC : RCq s l V c) (hb : b < 1010) (hat : c.1 19 0 0 = zi (b : Nat)) (hT : tC 1 T c) (hO : tOK T) (h : chA V l b ≠ 32) : s_X3_readPair_6 s 1 1 c = some (0, c) := by
  unfold s_X3_readPair_6 s_X3_readPair_6_L32
  rw [gb_C hT hO, zr_some, rn_no hC (by omega) hat h, zb_some, if_pos rfl, if_pos rfl]
theorem K5_no (hC : RCq s l V c) (hb : b < 1010) (hat : c.1 19 0 0 = zi (b : Nat)) (hT : tC 1 T c) (hO : tOK T) (h : chA V l b ≠ 32) : s_X3_readMove s 1 c = some (0, c) := by
  unfold s_X3_readMove s_X3_readMove_L28
  rw [gb_C hT hO, zr_some, rn_no hC (by omega) hat h, zb_some, if_pos rfl, if_pos rfl]
/-- numbers follow -/
def KP (s l : Nat) (V : Nat → Int32) (T : zTab) (b : Nat) (c r : zMem) : Prop := RCq s l V c ∧ b < 1000 ∧ c.1 19 0 0 = zi (b : Nat) ∧ tOK T ∧ tC 1 T c ∧ RRq s l V r ∧ tR T r ∧ chA V l b = 32 ∧ r.1 64 0 22 = zi (b + 1 : Nat)
theorem K0_C (h : KP s l V T b c r) (h0 : tn T = 0) (kf : Nat) : ITq l T b c r (s_X3_readSeats s 1 c) (s_X7_item_L79 (kf + 4) (zi (0 : Nat)) (zi (1 : Nat)) (zi (0 : Nat)) r) := by
  obtain ⟨hC, hb, hat, hO, hT, hR, hT', h32, hrat⟩ := h
  unfold s_X3_readSeats
  rcases num_next (w := 0) (n := 1) (i := 0) (b := 8184) hC hR hb hat (by decide) (by decide) (Or.inl ⟨rfl, h32, hrat⟩) (by decide) (fun r1 v f1 v1 v2 => by rw [so_0 v1 v2, so_bits.1 v v1]) (kf + 3) with ⟨f, c', r', e1, e2, e3, e4, e5, e6⟩ | ⟨v, q, c', r', v1, v2, q1, q2, e1, e2, e3, e4, e5, e6, e7, e8⟩
  · exact Or.inl ⟨f, c', r', by rw [show s_X3_readNumber s 8184 c = _ from e1, zb_some, if_pos rfl], e2, e3, e4, fr_I19 e5, fr_JN e6⟩
  · have hv := bnd v1 v2
    rw [so_bits.1 v (by omega)] at hv
    obtain ⟨g1, g2⟩ := Bool.and_eq_true_iff.mp hv
    have g1 := of_decide_eq_true g1
    refine Or.inr ⟨tSize T v, q, wI c' 1 1 5 (zi v), wI r' 64 0 1 (zi v), ?_, ?_, ?_, ?_, ?_, by simp [wI_1, e3], by simp [wI_1, e4], q1, q2, Nat.le_refl _, fr_wI (fr_I19 e7) rfl, fr_wI (fr_JN e8) rfl, c8_tr (c8_fr e7 ⟨rfl, rfl, rfl⟩) ⟨by simp [wI_1], by simp [wI_1], by simp [wI_1]⟩⟩
    · rw [show s_X3_readNumber s 8184 c = _ from e1, zb_some, if_neg (nm1 v1), zlet_eq]
    · rw [e2, end_0, e5]
    · obtain ⟨a1, a2, a3, a4, a5, a6, a7, a8⟩ := hO
      have hz : tn (tSize T v) = 0 := h0
      exact ⟨a1, g1, v1, a4, fun g hg => absurd hg (by rw [hz]; omega), fun g k hg => absurd hg (by rw [hz]; omega), fun g hg => absurd hg (by rw [hz]; omega), fun g k hg => absurd hg (by rw [hz]; omega)⟩
    · obtain ⟨a1, a2, a3, a4⟩ := tC_I e7 hT
      have hz : tn (tSize T v) = 0 := h0
      exact ⟨by simp [wI_1, a1]; rfl, by simp [wI_1]; rfl, by simp [wI_1, a3]; rfl, fun g hg => absurd hg (by rw [hz]; omega)⟩
    · obtain ⟨a1, a2, a3, a4⟩ := tR_Nt hT' e8
      have hz : tn (tSize T v) = 0 := h0
      exact ⟨by simp [wI_1, a1]; rfl, by simp [wI_1]; rfl, by simp [wI_1, a3]; rfl, fun g hg => absurd hg (by rw [hz]; omega)⟩
theorem K4_C (h : KP s l V T b c r) (kf : Nat) : ITq l T b c r (s_X3_readEyes s 1 c) (s_X7_item_L79 (kf + 4) (zi (4 : Nat)) (zi (1 : Nat)) (zi (0 : Nat)) r) := by
  obtain ⟨hC, hb, hat, hO, hT, hR, hT', h32, hrat⟩ := h
  unfold s_X3_readEyes
  rcases num_next (w := 4) (n := 1) (i := 0) (b := 3) hC hR hb hat (by decide) (by decide) (Or.inl ⟨rfl, h32, hrat⟩) (by decide) (fun r1 v f1 v1 v2 => by rw [so_4 v1 v2, so_bits.2.2.2 v v1]) (kf + 3) with ⟨f, c', r', e1, e2, e3, e4, e5, e6⟩ | ⟨v, q, c', r', v1, v2, q1, q2, e1, e2, e3, e4, e5, e6, e7, e8⟩
  · exact Or.inl ⟨f, c', r', by rw [show s_X3_readNumber s 3 c = _ from e1, zb_some, if_pos rfl], e2, e3, e4, fr_I19 e5, fr_JN e6⟩
  · have hv := bnd v1 v2
    rw [so_bits.2.2.2 v (by omega)] at hv
    have g1 := of_decide_eq_true hv
    refine Or.inr ⟨tEyes T v, q, wI c' 1 1 7 (zi v), wI r' 64 0 2 (zi v), ?_, ?_, ?_, ?_, ?_, by simp [wI_1, e3], by simp [wI_1, e4], q1, q2, Nat.le_refl _, fr_wI (fr_I19 e7) rfl, fr_wI (fr_JN e8) rfl, c8_tr (c8_fr e7 ⟨rfl, rfl, rfl⟩) ⟨by simp [wI_1], by simp [wI_1], by simp [wI_1]⟩⟩
    · rw [show s_X3_readNumber s 3 c = _ from e1, zb_some, if_neg (nm1 v1), zlet_eq]
    · rw [e2, end_4, e5]
    · obtain ⟨a1, a2, a3, a4, a5⟩ := hO
      exact ⟨a1, a2, a3, g1, a5⟩
    · obtain ⟨a1, a2, a3, a4⟩ := tC_I e7 hT
      exact ⟨by simp [wI_1, a1]; rfl, by simp [wI_1, a2]; rfl, by simp [wI_1]; rfl, fun g hg => by simp [wI_1, a4 g hg]; exact ⟨rfl, rfl, rfl, rfl, rfl⟩⟩
    · obtain ⟨a1, a2, a3, a4⟩ := tR_Nt hT' e8
      exact ⟨by simp [wI_1, a1]; rfl, by simp [wI_1, a2]; rfl, by simp [wI_1]; rfl, fun g hg => by simp [wI_1, a4 g hg]; exact ⟨rfl, rfl, rfl, rfl, rfl⟩⟩
theorem K1_C (h : KP s l V T b c r) (h10 : tn T < 10) (hl : l ≤ 160) (kf : Nat) : ITq l T b c r (s_X3_readGuest s 1 c) (s_X7_item_L79 (kf + 4) (zi (1 : Nat)) (zi (3 : Nat)) (zi (0 : Nat)) r) := by
  obtain ⟨hC, hb, hat, hO, hT, hR, hT', h32, hrat⟩ := h
  unfold s_X3_readGuest s_X3_readGuest_L26 s_X3_readGuest_L46
  rcases num_next (w := 1) (n := 3) (i := 0) (b := 127) hC hR hb hat (by decide) (by decide) (Or.inl ⟨rfl, h32, hrat⟩) (by decide) (fun r1 v f1 v1 v2 => by rw [so_10 v1 v2, so_bits.2.1 v v1]) (kf + 3) with ⟨f, c1, r1, e1, e2, e3, e4, e5, e6⟩ | ⟨v, q, c1, r1, v1, v2, q1, q2, e1, e2, e3, e4, e5, e6, e7, e8⟩
  · exact Or.inl ⟨f, c1, r1, by rw [show s_X3_readNumber s 127 c = _ from e1, zb_some, if_pos rfl, if_pos rfl, if_pos rfl], e2, e3, e4, fr_I19 e5, fr_JN e6⟩
  have hv := bnd v1 v2
  rw [so_bits.2.1 v (by omega)] at hv
  have g1 := of_decide_eq_true hv
  have hC1 := RC_19 hC e7
  have hR1 := RR_Nt hR e8
  have hT1 := tC_I e7 hT
  have hT1' := tR_Nt hT' e8
  obtain ⟨fb, f1, f2, f3⟩ := freeBits_C hT1 hO
  rw [show s_X3_readNumber s 127 c = _ from e1, zb_some, if_neg (nm1 v1), e2, f1, zr_some]
  rcases num_next (w := 1) (n := 3) (i := 1) (b := fb) hC1 hR1 (show q < 1000 by omega) e3 (by decide) (by decide) (Or.inr ⟨by decide, e4⟩) f2 (fun r2 v g v1 v2 => by rw [so_11 (tR_Nt hT1' (fr_Nt g)) hO v1 v2, fb_bits hO f3]) (kf + 2) with ⟨f, c2, r2, a1, a2, a3, a4, a5, a6⟩ | ⟨x, q', c2, r2, x1, x2, p1, p2, a1, a2, a3, a4, a5, a6, a7, a8⟩
  · exact Or.inl ⟨f, c2, r2, by rw [a1, zb_some, if_pos rfl, if_pos rfl], a2, a3, a4, fr_I19 (fr_trans e7 a5), fr_JN (fr_trans e8 a6)⟩
  have hx := bnd x1 x2
  rw [fb_bits hO f3] at hx
  obtain ⟨y1, y2⟩ := Bool.and_eq_true_iff.mp hx
  have y1 := of_decide_eq_true y1
  have hC2 := RC_19 hC1 a7
  have hR2 := RR_Nt hR1 a8
  have hT2 := tC_I a7 hT1
  have hT2' := tR_Nt hT1' a8
  rw [a1, zb_some, if_neg (nm1 x1), a2]
  rcases num_next (w := 1) (n := 3) (i := 2) (b := 1023) hC2 hR2 (show q' < 1000 by omega) a3 (by decide) (by decide) (Or.inr ⟨by decide, a4⟩) (by decide) (fun r2 v g v1 v2 => by rw [so_12 v1 v2, so_bits.2.2.1 v v1]) (kf + 1) with ⟨f, c3, r3, d1, d2, d3, d4, d5, d6⟩ | ⟨u, q'', c3, r3, u1, u2, o1, o2, d1, d2, d3, d4, d5, d6, d7, d8⟩
  · exact Or.inl ⟨f, c3, r3, by rw [show s_X3_readNumber s 1023 c2 = _ from d1, zb_some, if_pos rfl], d2, d3, d4, fr_I19 (fr_trans e7 (fr_trans a7 d5)), fr_JN (fr_trans e8 (fr_trans a8 d6))⟩
  have hu := bnd u1 u2
  rw [so_bits.2.2.1 u (by omega)] at hu
  have g3 := of_decide_eq_true hu
  have hT3 := tC_I d7 hT2
  have hT3' := tR_Nt hT2' d8
  obtain ⟨c4, b1, b2, b3, b4⟩ := add_C hT3 h10 v x u
  obtain ⟨r4, z1, z2, z3⟩ := add_R hT3' h10 v x u
  have t0 : r3.1 78 0 0 = zi (v : Nat) := (d6 0 (by decide)).trans ((a6 0 (by decide)).trans e5)
  have t1 : r3.1 78 0 1 = zi (x : Nat) := (d6 1 (by decide)).trans a5
  have fz : fr fJ e0 r3 r4 := fr_mono z3 (fun y j k w => by
    unfold fJ at w
    rw [Bool.or_eq_false_iff, Bool.or_eq_false_iff] at w
    rw [w.2.2, Bool.or_false]
    by_cases e : k = 0
    · subst e
      have := w.2.1
      rw [show Nat.ble 0 2 = true from rfl] at this
      rw [show Nat.beq 0 0 = true from rfl]; exact this
    · rw [beqf e, Bool.and_false]) (fun _ _ _ _ => rfl)
  refine Or.inr ⟨tAdd T v x u, q'', c4, r4, by rw [show s_X3_readNumber s 1023 c2 = _ from d1, zb_some, if_neg (nm1 u1), b1, zr_some], ?_, add_ok hO h10 (by omega) y1 g3 y2, b2, z2, ?_, ?_, by omega, o2, Nat.le_succ _, fr_trans (fr_I19 (fr_trans e7 (fr_trans a7 d7))) (fr_IT b3), fr_trans (fr_JN (fr_trans e8 (fr_trans a8 d8))) fz, c8_tr (c8_fr (fr_trans e7 (fr_trans a7 d7)) ⟨rfl, rfl, rfl⟩) b4⟩
  · rw [d2, end_1, t0, t1, d5, z1, zb_some]
  · rw [b3.1 19 0 0 rfl, d3]
  · rw [z3.1 64 0 22 rfl, d4]
theorem one_1 {t : Bool} (h : ¬ zo t = 1) : t = false := by
  cases t with
  | false => rfl
  | true => exact absurd rfl h
theorem K2_C (h : KP s l V T b c r) (hl : l ≤ 160) (kf : Nat) : ITq l T b c r (s_X3_readPair_5 s 1 1 c) (s_X7_item_L79 (kf + 4) (zi (2 : Nat)) (zi (2 : Nat)) (zi (0 : Nat)) r) := by
  obtain ⟨hC, hb, hat, hO, hT, hR, hT', h32, hrat⟩ := h
  have hn := hO.1
  have hp := pow10 hn
  unfold s_X3_readPair_5 s_X3_readPair_5_L32
  rcases num_next (w := 2) (n := 2) (i := 0) (b := 2 ^ tn T - 1) hC hR hb hat (by decide) (by decide) (Or.inl ⟨rfl, h32, hrat⟩) (by omega) (fun r1 v g v1 v2 => by rw [so_20 (Or.inl rfl) (tR_Nt hT' (fr_Nt g)) hO v1 v2, gb_bits hO]) (kf + 3) with ⟨f, c1, r1, e1, e2, e3, e4, e5, e6⟩ | ⟨v, q, c1, r1, v1, v2, q1, q2, e1, e2, e3, e4, e5, e6, e7, e8⟩
  · exact Or.inl ⟨f, c1, r1, by rw [gb_C hT hO, zr_some, e1, zb_some, if_pos rfl, if_pos rfl], e2, e3, e4, fr_I19 e5, fr_JN e6⟩
  have hv := bnd v1 v2
  rw [gb_bits hO] at hv
  have g1 := of_decide_eq_true hv
  have hC1 := RC_19 hC e7
  have hR1 := RR_Nt hR e8
  have hT1 := tC_I e7 hT
  have hT1' := tR_Nt hT' e8
  have hal := andn_lt (b := 2 ^ v) (show 2 ^ tn T - 1 < 2 ^ 10 by omega)
  rw [gb_C hT hO, zr_some, e1, zb_some, if_neg (nm1 v1), e2, ot_C hT1 hO g1, zr_some]
  rcases num_next (w := 2) (n := 2) (i := 1) (b := andn (2 ^ tn T - 1) (2 ^ v)) hC1 hR1 (show q < 1000 by omega) e3 (by decide) (by decide) (Or.inr ⟨by decide, e4⟩) (by omega) (fun r2 x g x1 x2 => by rw [so_21 (Or.inl rfl) (tR_Nt hT1' (fr_Nt g)) hO x1 x2 (show v < 100 by omega) ((g.1 78 0 0 rfl).trans e5), ot_bits hO]) (kf + 2) with ⟨f, c2, r2, a1, a2, a3, a4, a5, a6⟩ | ⟨x, q', c2, r2, x1, x2, p1, p2, a1, a2, a3, a4, a5, a6, a7, a8⟩
  · exact Or.inl ⟨f, c2, r2, by rw [a1, zb_some, if_pos rfl], a2, a3, a4, fr_I19 (fr_trans e7 a5), fr_JN (fr_trans e8 a6)⟩
  have hx := bnd x1 x2
  rw [ot_bits hO] at hx
  obtain ⟨y1, y2⟩ := Bool.and_eq_true_iff.mp hx
  have y1 := of_decide_eq_true y1
  have y2 := of_decide_eq_true y2
  have hT2 := tC_I a7 hT1
  have hT2' := tR_Nt hT1' a8
  have t0 : r2.1 78 0 0 = zi (v : Nat) := (a6 0 (by decide)).trans e5
  rw [a1, zb_some, if_neg (nm1 x1), a2, end_2, t0, a5]
  rcases mark5_C hT2 hO g1 y1 (Ne.symm y2) 1 with ⟨m0, m1⟩ | ⟨m0, c3, m1, m2, m3⟩
  · rcases puts69_R hT2' hO g1 y1 (Ne.symm y2) 1 with ⟨k0, k1⟩ | ⟨k0, -⟩
    · rw [m1, k1, zb_some, zb_some]
      exact Or.inr ⟨T, q', c2, r2, rfl, rfl, hO, hT2, hT2', a3, a4, by omega, p2, Nat.le_refl _, fr_I19 (fr_trans e7 a7), fr_JN (fr_trans e8 a8), c8_fr (fr_trans e7 a7) ⟨rfl, rfl, rfl⟩⟩
    · exact absurd m0 k0
  · rcases puts69_R hT2' hO g1 y1 (Ne.symm y2) 1 with ⟨k0, -⟩ | ⟨k0, r3, k1, k2, k3⟩
    · exact absurd k0 m0
    · rw [m1, k1, zb_some, zb_some]
      exact Or.inr ⟨tBar T v x, q', c3, r3, rfl, rfl, bar_ok hO g1 y1 (Ne.symm y2), m2, k2, (m3.1 19 0 0 rfl).trans a3, (k3.1 64 0 22 rfl).trans a4, by omega, p2, Nat.le_refl _, fr_trans (fr_I19 (fr_trans e7 a7)) (fr_IX (x := 5) (by omega) m3), fr_trans (fr_JN (fr_trans e8 a8)) (fr_JX (x := 69) (by omega) k3), c8_tr (c8_fr (fr_trans e7 a7) ⟨rfl, rfl, rfl⟩) (c8_fr m3 ⟨rfl, rfl, rfl⟩)⟩
def tMv (T : zTab) (g v : Nat) : zTab := (tn T, tz T, te T, tK T, upn (tS T) g v, tA T, tB T, tH T)
theorem mv_ok (hO : tOK T) {g v : Nat} (hg : g < tn T) (hv : v < tz T) (hf : fr0 T v (tn T) = true) : tOK (tMv T g v) := by
  obtain ⟨h1, h2, h3, h4, h5, h6, h7, h8⟩ := hO
  have hne := fr0_ne hf
  refine ⟨h1, h2, h3, h4, fun i hi => ?_, h6, h7, fun i j hi hj e => ?_⟩
  · obtain ⟨k1, k2, k3⟩ := h5 i hi
    refine ⟨k1, ?_, k3⟩
    show upn (tS T) g v i < tz T
    unfold upn
    by_cases q : i = g
    · rw [if_pos q]; exact hv
    · rw [if_neg q]; exact k2
  · have e' : upn (tS T) g v i = upn (tS T) g v j := e
    unfold upn at e'
    by_cases q : i = g
    · by_cases q2 : j = g
      · rw [q, q2]
      · rw [if_pos q, if_neg q2] at e'; exact absurd e'.symm (hne j hj)
    · by_cases q2 : j = g
      · rw [if_neg q, if_pos q2] at e'; exact absurd e' (hne i hi)
      · rw [if_neg q, if_neg q2] at e'; exact h8 i j hi hj e'
theorem K5_C (h : KP s l V T b c r) (hl : l ≤ 160) (kf : Nat) : ITq l T b c r (s_X3_readMove s 1 c) (s_X7_item_L79 (kf + 4) (zi (5 : Nat)) (zi (2 : Nat)) (zi (0 : Nat)) r) := by
  obtain ⟨hC, hb, hat, hO, hT, hR, hT', h32, hrat⟩ := h
  have hn := hO.1
  have hp := pow10 hn
  unfold s_X3_readMove s_X3_readMove_L28
  rcases num_next (w := 5) (n := 2) (i := 0) (b := 2 ^ tn T - 1) hC hR hb hat (by decide) (by decide) (Or.inl ⟨rfl, h32, hrat⟩) (by omega) (fun r1 v g v1 v2 => by rw [so_50 (tR_Nt hT' (fr_Nt g)) hO v1 v2, gb_bits hO]) (kf + 3) with ⟨f, c1, r1, e1, e2, e3, e4, e5, e6⟩ | ⟨v, q, c1, r1, v1, v2, q1, q2, e1, e2, e3, e4, e5, e6, e7, e8⟩
  · exact Or.inl ⟨f, c1, r1, by rw [gb_C hT hO, zr_some, e1, zb_some, if_pos rfl, if_pos rfl], e2, e3, e4, fr_I19 e5, fr_JN e6⟩
  have hv := bnd v1 v2
  rw [gb_bits hO] at hv
  have g1 := of_decide_eq_true hv
  have hC1 := RC_19 hC e7
  have hR1 := RR_Nt hR e8
  have hT1 := tC_I e7 hT
  have hT1' := tR_Nt hT' e8
  obtain ⟨fb, f1, f2, f3⟩ := freeBits_C hT1 hO
  rw [gb_C hT hO, zr_some, e1, zb_some, if_neg (nm1 v1), e2, f1, zr_some]
  rcases num_next (w := 5) (n := 2) (i := 1) (b := fb) hC1 hR1 (show q < 1000 by omega) e3 (by decide) (by decide) (Or.inr ⟨by decide, e4⟩) f2 (fun r2 v g v1 v2 => by rw [so_51 (tR_Nt hT1' (fr_Nt g)) hO v1 v2, fb_bits hO f3]) (kf + 2) with ⟨f, c2, r2, a1, a2, a3, a4, a5, a6⟩ | ⟨x, q', c2, r2, x1, x2, p1, p2, a1, a2, a3, a4, a5, a6, a7, a8⟩
  · exact Or.inl ⟨f, c2, r2, by rw [a1, zb_some, if_pos rfl], a2, a3, a4, fr_I19 (fr_trans e7 a5), fr_JN (fr_trans e8 a6)⟩
  have hx := bnd x1 x2
  rw [fb_bits hO f3] at hx
  obtain ⟨y1, y2⟩ := Bool.and_eq_true_iff.mp hx
  have y1 := of_decide_eq_true y1
  have hT2 := tC_I a7 hT1
  have hT2' := tR_Nt hT1' a8
  have t0 : r2.1 78 0 0 = zi (v : Nat) := (a6 0 (by decide)).trans e5
  rw [a1, zb_some, if_neg (nm1 x1), a2, end_5, t0, a5, chk_zn (show v < 10 by omega) (by decide), chk_zn (show v < 10 by omega) (by decide), ix_zn (by omega), zlet_eq, zlet_eq]
  refine Or.inr ⟨tMv T v x, q', _, _, rfl, rfl, mv_ok hO g1 y1 y2, ?_, ?_, by simp [wI_1, a3], by simp [wI_1, a4], by omega, p2, Nat.le_refl _, fr_wI (fr_I19 (fr_trans e7 a7)) rfl, fr_wI (fr_JN (fr_trans e8 a8)) rfl, c8_tr (c8_fr (fr_trans e7 a7) ⟨rfl, rfl, rfl⟩) ⟨by simp [wI_1], by simp [wI_1], by simp [wI_1]⟩⟩
  · obtain ⟨b1, b2, b3, b4⟩ := hT2
    refine ⟨by simp [wI_1, b1]; rfl, by simp [wI_1, b2]; rfl, by simp [wI_1, b3]; rfl, fun g hg => ?_⟩
    obtain ⟨i1, i2, i3, i4, i5⟩ := b4 g hg
    refine ⟨by simp [wI_1, i1]; rfl, ?_, by simp [wI_1, i3]; rfl, by simp [wI_1, i4]; rfl, by simp [wI_1, i5]; rfl⟩
    show _ = zi (upn (tS T) v x g : Nat)
    by_cases e : g = v
    · subst e; rw [upn_eq]; simp [wI_1]
    · rw [upn_ne e]; simp [wI_1, e, i2]
  · obtain ⟨b1, b2, b3, b4⟩ := hT2'
    refine ⟨by simp [wI_1, b1]; rfl, by simp [wI_1, b2]; rfl, by simp [wI_1, b3]; rfl, fun g hg => ?_⟩
    obtain ⟨i1, i2, i3, i4, i5⟩ := b4 g hg
    refine ⟨by simp [wI_1, i1]; rfl, ?_, by simp [wI_1, i3]; rfl, by simp [wI_1, i4]; rfl, by simp [wI_1, i5]; rfl⟩
    show _ = zi (upn (tS T) v x g : Nat)
    by_cases e : g = v
    · subst e; rw [upn_eq]; simp [wI_1]
    · rw [upn_ne e]; simp [wI_1, e, i2]
theorem K3_C (h : KP s l V T b c r) (hl : l ≤ 160) (kf : Nat) : ITq l T b c r (s_X3_readPair_6 s 1 1 c) (s_X7_item_L79 (kf + 4) (zi (3 : Nat)) (zi (2 : Nat)) (zi (0 : Nat)) r) := by
  obtain ⟨hC, hb, hat, hO, hT, hR, hT', h32, hrat⟩ := h
  have hn := hO.1
  have hp := pow10 hn
  unfold s_X3_readPair_6 s_X3_readPair_6_L32
  rcases num_next (w := 3) (n := 2) (i := 0) (b := 2 ^ tn T - 1) hC hR hb hat (by decide) (by decide) (Or.inl ⟨rfl, h32, hrat⟩) (by omega) (fun r1 v g v1 v2 => by rw [so_20 (Or.inr rfl) (tR_Nt hT' (fr_Nt g)) hO v1 v2, gb_bits hO]) (kf + 3) with ⟨f, c1, r1, e1, e2, e3, e4, e5, e6⟩ | ⟨v, q, c1, r1, v1, v2, q1, q2, e1, e2, e3, e4, e5, e6, e7, e8⟩
  · exact Or.inl ⟨f, c1, r1, by rw [gb_C hT hO, zr_some, e1, zb_some, if_pos rfl, if_pos rfl], e2, e3, e4, fr_I19 e5, fr_JN e6⟩
  have hv := bnd v1 v2
  rw [gb_bits hO] at hv
  have g1 := of_decide_eq_true hv
  have hC1 := RC_19 hC e7
  have hR1 := RR_Nt hR e8
  have hT1 := tC_I e7 hT
  have hT1' := tR_Nt hT' e8
  have hal := andn_lt (b := 2 ^ v) (show 2 ^ tn T - 1 < 2 ^ 10 by omega)
  rw [gb_C hT hO, zr_some, e1, zb_some, if_neg (nm1 v1), e2, ot_C hT1 hO g1, zr_some]
  rcases num_next (w := 3) (n := 2) (i := 1) (b := andn (2 ^ tn T - 1) (2 ^ v)) hC1 hR1 (show q < 1000 by omega) e3 (by decide) (by decide) (Or.inr ⟨by decide, e4⟩) (by omega) (fun r2 x g x1 x2 => by rw [so_21 (Or.inr rfl) (tR_Nt hT1' (fr_Nt g)) hO x1 x2 (show v < 100 by omega) ((g.1 78 0 0 rfl).trans e5), ot_bits hO]) (kf + 2) with ⟨f, c2, r2, a1, a2, a3, a4, a5, a6⟩ | ⟨x, q', c2, r2, x1, x2, p1, p2, a1, a2, a3, a4, a5, a6, a7, a8⟩
  · exact Or.inl ⟨f, c2, r2, by rw [a1, zb_some, if_pos rfl], a2, a3, a4, fr_I19 (fr_trans e7 a5), fr_JN (fr_trans e8 a6)⟩
  have hx := bnd x1 x2
  rw [ot_bits hO] at hx
  obtain ⟨y1, y2⟩ := Bool.and_eq_true_iff.mp hx
  have y1 := of_decide_eq_true y1
  have y2 := of_decide_eq_true y2
  have hT2 := tC_I a7 hT1
  have hT2' := tR_Nt hT1' a8
  have t0 : r2.1 78 0 0 = zi (v : Nat) := (a6 0 (by decide)).trans e5
  rw [a1, zb_some, if_neg (nm1 x1), a2, end_3, t0, a5]
  rcases mark6_C hT2 hO g1 y1 (Ne.symm y2) 1 with ⟨m0, m1⟩ | ⟨m0, c3, m1, m2, m3⟩
  · rcases puts70_R hT2' hO g1 y1 (Ne.symm y2) 1 with ⟨k0, k1⟩ | ⟨k0, -⟩
    · rw [m1, k1, zb_some, zb_some]
      exact Or.inr ⟨T, q', c2, r2, rfl, rfl, hO, hT2, hT2', a3, a4, by omega, p2, Nat.le_refl _, fr_I19 (fr_trans e7 a7), fr_JN (fr_trans e8 a8), c8_fr (fr_trans e7 a7) ⟨rfl, rfl, rfl⟩⟩
    · exact absurd m0 k0
  · rcases puts70_R hT2' hO g1 y1 (Ne.symm y2) 1 with ⟨k0, -⟩ | ⟨k0, r3, k1, k2, k3⟩
    · exact absurd k0 m0
    · rw [m1, k1, zb_some, zb_some]
      exact Or.inr ⟨tHad T v x, q', c3, r3, rfl, rfl, had_ok hO g1 y1 (Ne.symm y2), m2, k2, (m3.1 19 0 0 rfl).trans a3, (k3.1 64 0 22 rfl).trans a4, by omega, p2, Nat.le_refl _, fr_trans (fr_I19 (fr_trans e7 a7)) (fr_IX (x := 6) (by omega) m3), fr_trans (fr_JN (fr_trans e8 a8)) (fr_JX (x := 70) (by omega) k3), c8_tr (c8_fr (fr_trans e7 a7) ⟨rfl, rfl, rfl⟩) (c8_fr m3 ⟨rfl, rfl, rfl⟩)⟩
end ZJ
