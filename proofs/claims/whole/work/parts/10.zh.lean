/-! the items of a text, on both sides -/
section ZH
variable {T : zTab} {c r : zMem} {s l : Nat} {V : Nat → Int32}
def fI : zEx := fun c j _ => Nat.beq c 19 || ((Nat.ble 1 c && Nat.ble c 6) && Nat.beq j 1)
def fJ : zEx := fun c j k => fNt c j k || ((Nat.beq c 64 && Nat.ble k 2) || (Nat.ble 66 c && Nat.ble c 70))
theorem fr_I19 {a b : zMem} (h : fr f19 e0 a b) : fr fI e0 a b := fr_mono h (fun _ _ _ w => (Bool.or_eq_false_iff.mp w).1) (fun _ _ _ _ => rfl)
theorem fr_IT {a b : zMem} (h : fr (fT 1) e0 a b) : fr fI e0 a b := fr_mono h (fun _ _ _ w => (Bool.or_eq_false_iff.mp w).2) (fun _ _ _ _ => rfl)
theorem fr_JN {a b : zMem} (h : fr fNt e0 a b) : fr fJ e0 a b := fr_mono h (fun _ _ _ w => (Bool.or_eq_false_iff.mp w).1) (fun _ _ _ _ => rfl)
theorem fr_JX {x : Nat} (hx : 66 ≤ x ∧ x ≤ 70) {a b : zMem} (q : fr (fun y _ _ => Nat.beq y x) e0 a b) : fr fJ e0 a b := fr_mono q (fun y j k w => by
  by_cases e : y = x
  · subst e
    unfold fJ at w
    rw [Bool.or_eq_false_iff, Bool.or_eq_false_iff] at w
    rw [Nat.ble_eq.mpr hx.1, Nat.ble_eq.mpr hx.2] at w
    exact absurd w.2.2 (by decide)
  · exact beqf e) (fun _ _ _ _ => rfl)
theorem fr_IX {x : Nat} (hx : 1 ≤ x ∧ x ≤ 6) {a b : zMem} (q : fr (fun y j _ => Nat.beq y x && Nat.beq j 1) e0 a b) : fr fI e0 a b := fr_mono q (fun y j k w => by
  by_cases e : y = x
  · subst e
    unfold fI at w
    rw [Bool.or_eq_false_iff, Nat.ble_eq.mpr hx.1, Nat.ble_eq.mpr hx.2] at w
    rw [show Nat.beq j 1 = false from w.2, Bool.and_false]
  · rw [beqf e]; rfl) (fun _ _ _ _ => rfl)
theorem RC_I {c' : zMem} (h : RCq s l V c) (f : fr fI e0 c c') : RCq s l V c' := ⟨h.1, (f.1 8 s 2 rfl).trans h.2.1, fun k hk => by
  have := h.2.2 k hk
  unfold nm at this ⊢
  rw [f.2 9 s k rfl]; exact this⟩
theorem RR_J {r' : zMem} (h : RRq s l V r) (f : fr fJ e0 r r') : RRq s l V r' := by
  obtain ⟨h1, h2, h3, h4, h5, h6⟩ := h
  exact ⟨h1, h2, (f.1 64 0 21 rfl).trans h3, (f.1 64 0 23 rfl).trans h4, fun k hk => by rw [f.2 75 0 _ rfl]; exact h5 k hk, wdQ_fr f (fun _ => rfl) h6⟩
theorem tC_f19 {t : Nat} {c' : zMem} (f : fr f19 e0 c c') (h : tC t T c) : tC t T c' := tC_fr f (fun _ => ⟨rfl, rfl, rfl, rfl, rfl, rfl⟩) h
/-- the counts of the draft -/
def c8Q (c c' : zMem) : Prop := c'.1 1 1 8 = c.1 1 1 8 ∧ c'.1 1 1 9 = c.1 1 1 9 ∧ c'.1 1 1 10 = c.1 1 1 10
theorem c8_fr {f g : zEx} {c' : zMem} (h : fr f g c c') (a : f 1 1 8 = false ∧ f 1 1 9 = false ∧ f 1 1 10 = false) : c8Q c c' := ⟨h.1 _ _ _ a.1, h.1 _ _ _ a.2.1, h.1 _ _ _ a.2.2⟩
theorem c8_tr {c1 c2 : zMem} (h : c8Q c c1) (h' : c8Q c1 c2) : c8Q c c2 := ⟨h'.1.trans h.1, h'.2.1.trans h.2.1, h'.2.2.trans h.2.2⟩
/-- how an item ends -/
def ITq (l : Nat) (T : zTab) (a : Nat) (c r : zMem) (X Y : Option (Int32 × zMem)) : Prop := (∃ f c' r', X = some (0, c') ∧ Y = some (0, r') ∧ c'.1 19 0 0 = zi (f : Nat) ∧ r'.1 64 0 25 = zi (f : Nat) ∧ fr fI e0 c c' ∧ fr fJ e0 r r') ∨ ∃ T' q c' r', X = some (1, c') ∧ Y = some (1, r') ∧ tOK T' ∧ tC 1 T' c' ∧ tR T' r' ∧ c'.1 19 0 0 = zi (q : Nat) ∧ r'.1 64 0 22 = zi (q : Nat) ∧ a < q ∧ q ≤ l ∧ tn T ≤ tn T' ∧ fr fI e0 c c' ∧ fr fJ e0 r r' ∧ c8Q c c'
/-- whether a word may be told now -/
def letsA (n w : Nat) : Bool := if w = 0 then decide (n = 0) else if w = 1 then decide (n < 10) else true
def wordW (n s w : Nat) (c : zMem) : Option (Int32 × zMem) := if w ≤ 1 then s_X3_readWordIf (zo (letsA n w)) s w c else s_X3_readWord s w c
def cntW (w : Nat) : Nat := [1, 3, 2, 2, 1, 2].getD w 0
theorem zbo_o {β : Type} (b : Bool) (k : Option β) : zbo (zo b) k = k := by cases b <;> rfl
theorem wordW_C {w : Nat} (hw : w < 6) {a n : Nat} (ha : a < 1000) (hC : RCq s l V c) (hat : c.1 19 0 0 = zi (a : Nat)) : ∃ c1, wordW n s w c = some (zo (decide (ml V l (zSB.getD w []) a = (zSB.getD w []).length) && letsA n w), c1) ∧ c1.1 19 0 0 = zi (if ml V l (zSB.getD w []) a = (zSB.getD w []).length ∧ letsA n w = false then a else a + ml V l (zSB.getD w []) a : Nat) ∧ fr f19 e0 c c1 := by
  obtain ⟨c1, b1, b2, b3⟩ := readWord_C hw (show a < 1000000 by omega) hC hat
  unfold wordW
  by_cases e : w ≤ 1
  · rw [if_pos e]
    unfold s_X3_readWordIf
    rw [b1, zb_some, zif0]
    by_cases e2 : ml V l (zSB.getD w []) a = (zSB.getD w []).length
    · rw [decide_eq_true e2, cond_true, Bool.true_and, zif0]
      cases hl : letsA n w with
      | false =>
        refine ⟨wI c1 19 0 0 (c.1 19 0 0), ?_, ?_, fr_wI b3 rfl⟩
        · rw [cond_false, zlet_eq]; exact zbo_o false _
        · rw [wI_1, if_pos ⟨rfl, rfl, rfl⟩, hat, if_pos ⟨e2, rfl⟩]
      | true =>
        refine ⟨c1, ?_, ?_, b3⟩
        · rw [cond_true]; exact zbo_o true _
        · rw [b2, if_neg (fun w => Bool.noConfusion w.2)]
    · exact ⟨c1, by rw [decide_eq_false e2, cond_false, Bool.false_and, zo_f], by rw [b2, if_neg (fun w => e2 w.1)], b3⟩
  · have hl : letsA n w = true := by
      unfold letsA
      rw [if_neg (by omega), if_neg (by omega)]
    rw [if_neg e, hl]
    refine ⟨c1, ?_, ?_, b3⟩
    · rw [b1, Bool.and_true]
    · rw [b2, if_neg (fun w => Bool.noConfusion w.2)]
theorem mlF (w a : Nat) : ml V l (zWf w) a = if ml V l (zSB.getD w []) a = (zSB.getD w []).length then (if chA V l (a + (zSB.getD w []).length) = 32 then (zSB.getD w []).length + 1 else (zSB.getD w []).length) else ml V l (zSB.getD w []) a := by
  unfold zWf
  rw [ml_app]
  by_cases e : ml V l (zSB.getD w []) a = (zSB.getD w []).length
  · rw [if_pos e, if_pos e]
    unfold chA
    by_cases e2 : a + (zSB.getD w []).length < l
    · rw [if_pos e2]
      by_cases e3 : V (a + (zSB.getD w []).length) = 32
      · rw [if_pos ⟨e2, e3⟩, if_pos e3]
      · rw [if_neg (fun q => e3 q.2), if_neg e3]
    · rw [if_neg e2, if_neg (fun q => e2 q.1), if_neg (by decide)]
  · rw [if_neg e, if_neg e]
theorem item_pre (hR : RRq s l V r) {a n w0 : Nat} (ha : a < 1000) (hat : r.1 64 0 22 = zi (a : Nat)) (hn : n ≤ 10) (h0 : r.1 64 0 0 = zi (n : Nat)) (hw0 : w0 < 6) (hne : ∀ w, w < 6 → w ≠ w0 → ml V l (zSB.getD w []) a = 0) : s_X7_item r = if ml V l (zSB.getD w0 []) a = (zSB.getD w0 []).length ∧ letsA n w0 = false then some (0, wI r 64 0 25 (zi (a : Nat))) else s_X7_item_L41 r := by
  have l32 : s_X7_item_L32 r = some (0, wI r 64 0 25 (zi (a : Nat))) := by
    unfold s_X7_item_L32 s_X7_wrong
    rw [zlet_eq, zb_some, zbo_0, hat]
  unfold s_X7_item s_X7_item_L15
  rw [isWordAt_0 hR (by omega) hat, isWordAt_1 hR (by omega) hat, zr_some, zr_some, zif0, zif0, h0, l32]
  have p0 : (0 < zi (n : Nat)) ↔ 0 < n := zi_ltn (a := 0) (by omega) (by omega)
  have p10 : (zi (n : Nat) = 10) ↔ n = 10 := zi_eqn (b := 10) (by omega) (by omega)
  have c6 : w0 = 0 ∨ w0 = 1 ∨ 2 ≤ w0 := by omega
  rcases c6 with rfl | rfl | h2
  · rw [hne 1 (by decide) (by decide), decide_eq_false (show ¬ 0 = (zSB.getD 1 []).length by decide), cond_false]
    have hl : letsA n 0 = decide (n = 0) := rfl
    by_cases e : ml V l (zSB.getD 0 []) a = (zSB.getD 0 []).length
    · rw [decide_eq_true e, cond_true]
      by_cases e2 : 0 < n
      · rw [if_pos (p0.mpr e2), if_pos ⟨e, by rw [hl, decide_eq_false (by omega)]⟩]
      · rw [if_neg (fun q => e2 (p0.mp q)), if_neg (fun q => by rw [hl, decide_eq_true (by omega)] at q; cases q.2)]
    · rw [decide_eq_false e, cond_false, if_neg (fun q => e q.1)]
  · rw [hne 0 (by decide) (by decide), decide_eq_false (show ¬ 0 = (zSB.getD 0 []).length by decide), cond_false]
    have hl : letsA n 1 = decide (n < 10) := rfl
    by_cases e : ml V l (zSB.getD 1 []) a = (zSB.getD 1 []).length
    · rw [decide_eq_true e, cond_true]
      by_cases e2 : n = 10
      · rw [if_pos (p10.mpr e2), if_pos ⟨e, by rw [hl, decide_eq_false (by omega)]⟩]
      · rw [if_neg (fun q => e2 (p10.mp q)), if_neg (fun q => by rw [hl, decide_eq_true (by omega)] at q; cases q.2)]
    · rw [decide_eq_false e, cond_false, if_neg (fun q => e q.1)]
  · have hl : letsA n w0 = true := by
      unfold letsA
      rw [if_neg (by omega), if_neg (by omega)]
    rw [hne 0 (by decide) (by omega), hne 1 (by decide) (by omega), decide_eq_false (show ¬ 0 = (zSB.getD 0 []).length by decide), decide_eq_false (show ¬ 0 = (zSB.getD 1 []).length by decide), cond_false, cond_false, if_neg (fun q => by rw [hl] at q; cases q.2)]
theorem disp_R {w0 : Nat} (hw0 : w0 < 6) (m : zMem) : (if zi (w0 : Nat) = -1 then some ((0 : Int32), m) else if zi (w0 : Nat) = 1 then s_X7_item_L76 (zi w0) 3 m else if zi (w0 : Nat) = 0 then s_X7_item_L71 (zi w0) m else if zi (w0 : Nat) = 4 then s_X7_item_L71 (zi w0) m else s_X7_item_L76 (zi w0) 2 m) = s_X7_item_L79 zF (zi w0) (zi (cntW w0)) (zi (0 : Nat)) m := by
  have c6 : w0 = 0 ∨ w0 = 1 ∨ w0 = 2 ∨ w0 = 3 ∨ w0 = 4 ∨ w0 = 5 := by omega
  unfold s_X7_item_L76 s_X7_item_L71 s_X7_item_L76
  have n1 : ¬ zi (w0 : Nat) = -1 := fun w => by rw [li_m1, zi_eq (by omega) (by omega) (by omega) (by omega)] at w; omega
  rw [if_neg n1, show (1 : Int32) = zi (1 : Nat) from rfl, show (0 : Int32) = zi (0 : Nat) from rfl, show (4 : Int32) = zi (4 : Nat) from rfl, if_zi (by omega) (by omega), if_zi (by omega) (by omega), if_zi (by omega) (by omega)]
  have k0 : zi (cntW 0 : Nat) = zi (1 : Nat) := rfl
  have k1 : zi (cntW 1 : Nat) = zi (3 : Nat) := rfl
  have k2 : zi (cntW 2 : Nat) = zi (2 : Nat) := rfl
  have k3 : zi (cntW 3 : Nat) = zi (2 : Nat) := rfl
  have k4 : zi (cntW 4 : Nat) = zi (1 : Nat) := rfl
  have k5 : zi (cntW 5 : Nat) = zi (2 : Nat) := rfl
  rcases c6 with rfl | rfl | rfl | rfl | rfl | rfl
  · rw [if_neg (by decide), if_pos rfl, k0]
  · rw [if_pos rfl, k1, show (3 : Int32) = zi (3 : Nat) from rfl]
  · rw [if_neg (by decide), if_neg (by decide), if_neg (by decide), k2, show (2 : Int32) = zi (2 : Nat) from rfl]
  · rw [if_neg (by decide), if_neg (by decide), if_neg (by decide), k3, show (2 : Int32) = zi (2 : Nat) from rfl]
  · rw [if_neg (by decide), if_neg (by decide), if_pos rfl, k4]
  · rw [if_neg (by decide), if_neg (by decide), if_neg (by decide), k5, show (2 : Int32) = zi (2 : Nat) from rfl]
/-- the word of an item: it fails, or its blank does, or its numbers follow -/
theorem ws (hC : RCq s l V c) (hR : RRq s l V r) {a n w0 : Nat} (ha : a < 1000) (hat : c.1 19 0 0 = zi (a : Nat)) (hrat : r.1 64 0 22 = zi (a : Nat)) (hn : n ≤ 10) (h0 : r.1 64 0 0 = zi (n : Nat)) (hw0 : w0 < 6) (hne : ∀ w, w < 6 → w ≠ w0 → ml V l (zSB.getD w []) a = 0) :
    (∃ f c1 r1, wordW n s w0 c = some (0, c1) ∧ s_X7_item r = some (0, r1) ∧ c1.1 19 0 0 = zi (f : Nat) ∧ r1.1 64 0 25 = zi (f : Nat) ∧ fr f19 e0 c c1 ∧ fr fNt e0 r r1) ∨ (∃ b c1 r1, b < 1010 ∧ chA V l b ≠ 32 ∧ wordW n s w0 c = some (1, c1) ∧ s_X7_item r = some (0, r1) ∧ c1.1 19 0 0 = zi (b : Nat) ∧ r1.1 64 0 25 = zi (b : Nat) ∧ fr f19 e0 c c1 ∧ fr fNt e0 r r1) ∨ (∃ b c1 r1, a < b ∧ b < l ∧ chA V l b = 32 ∧ letsA n w0 = true ∧ wordW n s w0 c = some (1, c1) ∧ s_X7_item r = s_X7_item_L79 zF (zi w0) (zi (cntW w0)) (zi (0 : Nat)) r1 ∧ c1.1 19 0 0 = zi (b : Nat) ∧ r1.1 64 0 22 = zi (b + 1 : Nat) ∧ fr f19 e0 c c1 ∧ fr fNt e0 r r1) := by
  obtain ⟨c1, b1, b2, b3⟩ := wordW_C (n := n) hw0 ha hC hat
  have hlen := zSL_len w0 hw0
  have hml := ml_le (V := V) (l := l) (zSB.getD w0 []) a
  have hneF : ∀ w, w < 6 → w ≠ w0 → ml V l (zWf w) a = 0 := fun w h1 h2 => by
    rw [mlF, hne w h1 h2, if_neg]
    have c6 : w = 0 ∨ w = 1 ∨ w = 2 ∨ w = 3 ∨ w = 4 ∨ w = 5 := by omega
    rcases c6 with rfl | rfl | rfl | rfl | rfl | rfl <;> decide
  have hpos : 0 < (zSB.getD w0 []).length := by
    have c6 : w0 = 0 ∨ w0 = 1 ∨ w0 = 2 ∨ w0 = 3 ∨ w0 = 4 ∨ w0 = 5 := by omega
    rcases c6 with rfl | rfl | rfl | rfl | rfl | rfl <;> decide
  have hF : (zWf w0).length = (zSB.getD w0 []).length + 1 := by unfold zWf; simp
  have hwd := word_R hR (show a < 100000 by omega) hrat hw0 hneF
  rw [item_pre hR ha hrat hn h0 hw0 hne]
  rw [mlF, hF] at hwd
  by_cases e : ml V l (zSB.getD w0 []) a = (zSB.getD w0 []).length
  · rw [if_pos e] at hwd
    cases hl : letsA n w0 with
    | false =>
      rw [hl] at b1 b2
      rw [if_pos ⟨e, rfl⟩]
      rw [if_pos ⟨e, rfl⟩] at b2
      exact Or.inl ⟨a, c1, _, by rw [b1, Bool.and_false]; rfl, rfl, b2, by simp [wI_1], b3, fr_wI (fr_refl _ _ _) rfl⟩
    | true =>
      rw [hl, decide_eq_true e] at b1
      rw [hl, if_neg (fun w => by cases w.2), e] at b2
      rw [if_neg (fun w => by cases w.2)]
      right
      unfold s_X7_item_L41
      by_cases e2 : chA V l (a + (zSB.getD w0 []).length) = 32
      · right
        rw [if_pos e2, if_pos rfl] at hwd
        have hbl : a + (zSB.getD w0 []).length < l := by
          by_cases q : a + (zSB.getD w0 []).length < l
          · exact q
          · unfold chA at e2; rw [if_neg q] at e2; exact absurd e2 (by decide)
        refine ⟨a + (zSB.getD w0 []).length, c1, _, by omega, hbl, e2, rfl, b1, by rw [hwd, zb_some, disp_R hw0], b2, by rw [wI_1, if_pos ⟨rfl, rfl, rfl⟩]; exact congrArg (fun q : Nat => zi q) (by omega), b3, fr_wI (fr_refl _ _ _) rfl⟩
      · left
        rw [if_neg e2, if_neg (by omega)] at hwd
        exact ⟨a + (zSB.getD w0 []).length, c1, _, by omega, e2, b1, by rw [hwd, zb_some, if_pos rfl], b2, by simp [wI_1], b3, fr_wI (fr_refl _ _ _) rfl⟩
  · rw [if_neg e, if_neg (by omega)] at hwd
    rw [if_neg (fun w => e w.1)] at b2 ⊢
    left
    refine ⟨_, c1, wI r 64 0 25 (zi (a + ml V l (zSB.getD w0 []) a : Nat)), by rw [b1, decide_eq_false e]; rfl, ?_, b2, by simp [wI_1], b3, fr_wI (fr_refl _ _ _) rfl⟩
    unfold s_X7_item_L41
    rw [hwd, zb_some, if_pos rfl]
/-! what the numbers may be -/
theorem so_bits : (∀ v, v < 100 → (decide (v ≤ 12) && Nat.testBit 8184 v) = (decide (3 ≤ v) && decide (v ≤ 12))) ∧ (∀ v, v < 100 → (decide (v ≤ 12) && Nat.testBit 127 v) = decide (v ≤ 6)) ∧ (∀ v, v < 100 → (decide (v ≤ 12) && Nat.testBit 1023 v) = decide (v ≤ 9)) ∧ (∀ v, v < 100 → (decide (v ≤ 12) && Nat.testBit 3 v) = decide (v ≤ 1)) := by decide +kernel
theorem gb_C {t : Nat} (hT : tC t T c) (hO : tOK T) : s_X5_guestBits t c = some (zi (2 ^ tn T - 1 : Nat)) := by
  have hn := hO.1
  have h0 : 1 ≤ 2 ^ tn T := Nat.two_pow_pos _
  unfold s_X5_guestBits
  rw [hT.1, bit_C (by omega), zr_some, show zi (2 ^ tn T : Nat) - 1 = zi (2 ^ tn T - 1 : Nat) from zi_subn (b := 1) h0]
theorem gb_bits (hO : tOK T) (v : Nat) : (decide (v ≤ 12) && (2 ^ tn T - 1).testBit v) = decide (v < tn T) := by
  have hn := hO.1
  rw [all_test]
  by_cases e : v < tn T
  · rw [decide_eq_true e, decide_eq_true (show v ≤ 12 by omega)]; rfl
  · rw [decide_eq_false e, Bool.and_false]
theorem ot_C {t : Nat} (hT : tC t T c) (hO : tOK T) {g : Nat} (hg : g < tn T) : s_X5_othersOf t (zi g) c = some (zi (andn (2 ^ tn T - 1) (2 ^ g) : Nat)) := by
  have hn := hO.1
  have h1 := pow10 hn
  unfold s_X5_othersOf
  rw [gb_C hT hO, zr_some, bit_C (by omega), zr_some, zi_andn (by omega) (by have := p10 (show g < 10 by omega); omega)]
theorem ot_bits (hO : tOK T) (g v : Nat) : (decide (v ≤ 12) && (andn (2 ^ tn T - 1) (2 ^ g)).testBit v) = (decide (v < tn T) && decide (v ≠ g)) := by
  rw [andn_test, ← Bool.and_assoc, gb_bits hO, Nat.testBit_two_pow]
  by_cases e : v = g
  · subst e; simp
  · rw [decide_eq_false (show ¬ g = v from fun q => e q.symm), decide_eq_true e]; simp
theorem fb_bits (hO : tOK T) {fb : Nat} (h : ∀ s, fb.testBit s = (decide (s < tz T) && fr0 T s (tn T))) (v : Nat) : (decide (v ≤ 12) && fb.testBit v) = (decide (v < tz T) && fr0 T v (tn T)) := by
  have hz := hO.2.2.1
  rw [h]
  by_cases e : v < tz T
  · rw [decide_eq_true (show v ≤ 12 by omega), Bool.true_and]
  · rw [decide_eq_false e, Bool.false_and, Bool.and_false]
section SO
variable {m : zMem} {v : Nat}
theorem z_lt {a b : Nat} (ha : a < 1000) (hb : b < 1000) {x y z : Option Int32} : (if zi (a : Nat) < zi (b : Nat) then x else y) = bif decide (a < b) then x else y := by
  by_cases e : a < b
  · rw [if_pos ((zi_ltn (by omega) (by omega)).mpr e), decide_eq_true e]; rfl
  · rw [if_neg (fun q => e ((zi_ltn (by omega) (by omega)).mp q)), decide_eq_false e]; rfl
theorem z_le {a b : Nat} (ha : a < 1000) (hb : b < 1000) {x y : Option Int32} : (if zi (a : Nat) ≤ zi (b : Nat) then x else y) = bif decide (a ≤ b) then x else y := by
  by_cases e : a ≤ b
  · rw [if_pos ((zi_len (by omega) (by omega)).mpr e), decide_eq_true e]; rfl
  · rw [if_neg (fun q => e ((zi_len (by omega) (by omega)).mp q)), decide_eq_false e]; rfl
theorem so_0 (hv : v < 100) (h : m.1 64 0 24 = zi (v : Nat)) : s_X7_isSo (zi (0 : Nat)) (zi (0 : Nat)) m = some (zo (decide (3 ≤ v) && decide (v ≤ 12))) := by
  unfold s_X7_isSo
  rw [if_pos y00, h, show (3 : Int32) = zi (3 : Nat) from rfl, show (12 : Int32) = zi (12 : Nat) from rfl, z_lt (z := none) (by omega) (by omega), z_lt (z := none) (by omega) (by omega)]
  by_cases e1 : v < 3
  · rw [decide_eq_true e1, decide_eq_false (show ¬ 3 ≤ v by omega)]; rfl
  · by_cases e2 : 12 < v
    · rw [decide_eq_false e1, decide_eq_true e2, decide_eq_true (show 3 ≤ v by omega), decide_eq_false (show ¬ v ≤ 12 by omega)]; rfl
    · rw [decide_eq_false e1, decide_eq_false e2, decide_eq_true (show 3 ≤ v by omega), decide_eq_true (show v ≤ 12 by omega)]; rfl
theorem so_10 (hv : v < 100) (h : m.1 64 0 24 = zi (v : Nat)) : s_X7_isSo (zi (1 : Nat)) (zi (0 : Nat)) m = some (zo (decide (v ≤ 6))) := by
  unfold s_X7_isSo
  rw [if_neg (show ¬ zi (1 : Nat) = 0 by decide), if_pos y11, if_pos y00, h, show (6 : Int32) = zi (6 : Nat) from rfl, z_lt (z := none) (by omega) (by omega)]
  by_cases e : 6 < v
  · rw [decide_eq_true e, decide_eq_false (show ¬ v ≤ 6 by omega)]; rfl
  · rw [decide_eq_false e, decide_eq_true (show v ≤ 6 by omega)]; rfl
theorem so_11 (hT : tR T m) (hO : tOK T) (hv : v < 100) (h : m.1 64 0 24 = zi (v : Nat)) : s_X7_isSo (zi (1 : Nat)) (zi (1 : Nat)) m = some (zo (decide (v < tz T) && fr0 T v (tn T))) := by
  unfold s_X7_isSo
  rw [if_neg (show ¬ zi (1 : Nat) = 0 by decide), if_pos y11, if_neg (show ¬ zi (1 : Nat) = 0 by decide), if_pos y11, h, isFree_R hT hO (by omega), zr_some, zbo_o]
theorem so_12 (hv : v < 100) (h : m.1 64 0 24 = zi (v : Nat)) : s_X7_isSo (zi (1 : Nat)) (zi (2 : Nat)) m = some (zo (decide (v ≤ 9))) := by
  unfold s_X7_isSo
  rw [if_neg (show ¬ zi (1 : Nat) = 0 by decide), if_pos y11, if_neg n20, if_neg n21, h, show (9 : Int32) = zi (9 : Nat) from rfl, z_lt (z := none) (by omega) (by omega)]
  by_cases e : 9 < v
  · rw [decide_eq_true e, decide_eq_false (show ¬ v ≤ 9 by omega)]; rfl
  · rw [decide_eq_false e, decide_eq_true (show v ≤ 9 by omega)]; rfl
theorem so_4 (hv : v < 100) (h : m.1 64 0 24 = zi (v : Nat)) : s_X7_isSo (zi (4 : Nat)) (zi (0 : Nat)) m = some (zo (decide (v ≤ 1))) := by
  unfold s_X7_isSo
  rw [if_neg (show ¬ zi (4 : Nat) = 0 by decide), if_neg (show ¬ zi (4 : Nat) = 1 by decide), if_pos (show zi (4 : Nat) = 4 by decide), h, show (1 : Int32) = zi (1 : Nat) from rfl, z_lt (z := none) (by omega) (by omega)]
  by_cases e : 1 < v
  · rw [decide_eq_true e, decide_eq_false (show ¬ v ≤ 1 by omega)]; rfl
  · rw [decide_eq_false e, decide_eq_true (show v ≤ 1 by omega)]; rfl
theorem so_50 (hT : tR T m) (hO : tOK T) (hv : v < 100) (h : m.1 64 0 24 = zi (v : Nat)) : s_X7_isSo (zi (5 : Nat)) (zi (0 : Nat)) m = some (zo (decide (v < tn T))) := by
  have hn := hO.1
  unfold s_X7_isSo
  rw [if_neg (show ¬ zi (5 : Nat) = 0 by decide), if_neg (show ¬ zi (5 : Nat) = 1 by decide), if_neg (show ¬ zi (5 : Nat) = 4 by decide), if_pos (show zi (5 : Nat) = 5 by decide), if_pos y00, h, hT.1, z_le (by omega) (by omega)]
  by_cases e : tn T ≤ v
  · rw [decide_eq_true e, decide_eq_false (show ¬ v < tn T by omega)]; rfl
  · rw [decide_eq_false e, decide_eq_true (show v < tn T by omega)]; rfl
theorem so_51 (hT : tR T m) (hO : tOK T) (hv : v < 100) (h : m.1 64 0 24 = zi (v : Nat)) : s_X7_isSo (zi (5 : Nat)) (zi (1 : Nat)) m = some (zo (decide (v < tz T) && fr0 T v (tn T))) := by
  unfold s_X7_isSo
  rw [if_neg (show ¬ zi (5 : Nat) = 0 by decide), if_neg (show ¬ zi (5 : Nat) = 1 by decide), if_neg (show ¬ zi (5 : Nat) = 4 by decide), if_pos (show zi (5 : Nat) = 5 by decide), if_neg (show ¬ zi (1 : Nat) = 0 by decide), h, isFree_R hT hO (by omega), zr_some, zbo_o]
theorem so_20 {w : Nat} (hw : w = 2 ∨ w = 3) (hT : tR T m) (hO : tOK T) (hv : v < 100) (h : m.1 64 0 24 = zi (v : Nat)) : s_X7_isSo (zi w) (zi (0 : Nat)) m = some (zo (decide (v < tn T))) := by
  have hn := hO.1
  unfold s_X7_isSo s_X7_isSo_L189
  rw [if_neg (show ¬ zi (w : Nat) = 0 by rcases hw with rfl | rfl <;> decide), if_neg (show ¬ zi (w : Nat) = 1 by rcases hw with rfl | rfl <;> decide), if_neg (show ¬ zi (w : Nat) = 4 by rcases hw with rfl | rfl <;> decide), if_neg (show ¬ zi (w : Nat) = 5 by rcases hw with rfl | rfl <;> decide), if_pos y00, h, hT.1, z_le (by omega) (by omega)]
  by_cases e : tn T ≤ v
  · rw [decide_eq_true e, decide_eq_false (show ¬ v < tn T by omega)]; rfl
  · rw [decide_eq_false e, decide_eq_true (show v < tn T by omega)]; rfl
theorem so_21 {w : Nat} (hw : w = 2 ∨ w = 3) (hT : tR T m) (hO : tOK T) (hv : v < 100) (h : m.1 64 0 24 = zi (v : Nat)) {g : Nat} (hg : g < 100) (h78 : m.1 78 0 0 = zi (g : Nat)) : s_X7_isSo (zi w) (zi (1 : Nat)) m = some (zo (decide (v < tn T) && decide (v ≠ g))) := by
  have hn := hO.1
  unfold s_X7_isSo s_X7_isSo_L189
  rw [if_neg (show ¬ zi (w : Nat) = 0 by rcases hw with rfl | rfl <;> decide), if_neg (show ¬ zi (w : Nat) = 1 by rcases hw with rfl | rfl <;> decide), if_neg (show ¬ zi (w : Nat) = 4 by rcases hw with rfl | rfl <;> decide), if_neg (show ¬ zi (w : Nat) = 5 by rcases hw with rfl | rfl <;> decide), if_neg (show ¬ zi (1 : Nat) = 0 by decide), h, hT.1, show ix 0 = 0 from rfl, h78, z_le (by omega) (by omega), ifz (by omega) (by omega)]
  by_cases e : tn T ≤ v
  · rw [decide_eq_true e, decide_eq_false (show ¬ v < tn T by omega)]; rfl
  · rw [decide_eq_false e, decide_eq_true (show v < tn T by omega)]
    by_cases e2 : v = g
    · rw [decide_eq_true e2, decide_eq_false (fun q => q e2)]; rfl
    · rw [decide_eq_false e2, decide_eq_true e2]; rfl
end SO
end ZH
