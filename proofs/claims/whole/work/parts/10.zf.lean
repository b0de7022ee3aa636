/-! the words of a text, on both sides -/
section ZF
variable {c r : zMem} {s l : Nat} {V : Nat → Int32}
def chA (V : Nat → Int32) (l k : Nat) : Int32 := if k < l then V k else 0
def RCq (s l : Nat) (V : Nat → Int32) (c : zMem) : Prop := l ≤ 160 ∧ c.1 8 s 2 = zi (l : Nat) ∧ ∀ k, k < l → nm s k c = V k
def RRq (s l : Nat) (V : Nat → Int32) (r : zMem) : Prop := s < 8 ∧ l ≤ 160 ∧ r.1 64 0 21 = zi (160 * s : Nat) ∧ r.1 64 0 23 = zi (l : Nat) ∧ (∀ k, k < l → Int64.toInt32 (r.2 75 0 (160 * s + k)) = V k) ∧ wdQ r
theorem num_ch (h : RCq s l V c) {k : Nat} (hk : k < 2147483648) : s_X4_number s (zi k) c = some (chA V l k) := by
  obtain ⟨l1, a1, a2⟩ := h
  unfold s_X4_number s_X4_has chA
  rw [a1, if_neg (fun w => by have := (lt0 (by omega) (by omega)).mp w; omega)]
  by_cases e : k < l
  · rw [if_neg (fun w => by rw [zi_len (by omega) (by omega)] at w; omega), zr_some, ite_10, chk_zn (show k < 160 by omega) (by decide), ix_zn (by omega), if_pos e, ← a2 k e]
    rfl
  · rw [if_pos ((zi_len (by omega) (by omega)).mpr (by omega)), if_neg e, zr_some, ite_00]
def ml (V : Nat → Int32) (l : Nat) : List Int32 → Nat → Nat
  | [], _ => 0
  | x :: W, a => if a < l ∧ V a = x then ml V l W (a + 1) + 1 else 0
theorem ml_le : ∀ (W : List Int32) (a : Nat), ml V l W a ≤ W.length
  | [], _ => Nat.le_refl _
  | x :: W, a => by
    unfold ml
    by_cases e : a < l ∧ V a = x
    · rw [if_pos e]; exact Nat.succ_le_succ (ml_le W (a + 1))
    · rw [if_neg e]; exact Nat.zero_le _
theorem ml_app (x : Int32) : ∀ (W : List Int32) (a : Nat), ml V l (W ++ [x]) a = if ml V l W a = W.length then (if a + W.length < l ∧ V (a + W.length) = x then W.length + 1 else W.length) else ml V l W a
  | [], a => by simp [ml]
  | y :: W, a => by
    have ih := ml_app x W (a + 1)
    show (if a < l ∧ V a = y then ml V l (W ++ [x]) (a + 1) + 1 else 0) = _
    by_cases e : a < l ∧ V a = y
    · rw [if_pos e, ih, show ml V l (y :: W) a = ml V l W (a + 1) + 1 from if_pos e, show (y :: W).length = W.length + 1 from rfl, show a + (W.length + 1) = a + 1 + W.length by omega]
      by_cases e2 : ml V l W (a + 1) = W.length
      · rw [if_pos e2, if_pos (show ml V l W (a + 1) + 1 = W.length + 1 by omega)]
        by_cases e3 : a + 1 + W.length < l ∧ V (a + 1 + W.length) = x
        · rw [if_pos e3, if_pos e3]
        · rw [if_neg e3, if_neg e3]
      · rw [if_neg e2, if_neg (show ¬ ml V l W (a + 1) + 1 = W.length + 1 by omega)]
    · rw [if_neg e, show ml V l (y :: W) a = 0 from if_neg e, if_neg (by simp)]
theorem ml_no {x : Int32} {W : List Int32} {a : Nat} (hx : x ≠ 0) (h : chA V l a ≠ x) : ml V l (x :: W) a = 0 := by
  unfold ml
  rw [if_neg]
  rintro ⟨h1, h2⟩
  unfold chA at h
  rw [if_pos h1] at h
  exact h h2
theorem drop_hd {L : List Int32} {n : Nat} {x : Int32} {t : List Int32} (h : L.drop n = x :: t) : L.getD n 0 = x ∧ L.drop (n + 1) = t ∧ n < L.length := by
  have hn : n < L.length := by
    by_cases w : n < L.length
    · exact w
    · rw [List.drop_eq_nil_of_le (by omega)] at h; cases h
  refine ⟨?_, ?_, hn⟩
  · have := List.drop_eq_getElem_cons hn
    rw [h] at this
    have h2 := (List.cons.inj this).1
    rw [List.getD_eq_getElem?_getD, List.getElem?_eq_getElem hn]
    exact h2.symm
  · have := List.drop_eq_getElem_cons hn
    rw [h] at this
    exact (List.cons.inj this).2.symm
/-! the class -/
theorem zSL_len : ∀ w, w < 6 → zSL.getD w 0 = (zSB.getD w []).length ∧ (zSB.getD w []).length ≤ 5 ∧ ∀ x, x ∈ zSB.getD w [] → x ≠ 0 ∧ 32 < x := by decide
def f19 : zEx := fun c _ _ => Nat.beq c 19
theorem RC_19 {c' : zMem} (h : RCq s l V c) (f : fr f19 e0 c c') : RCq s l V c' := ⟨h.1, (f.1 8 s 2 rfl).trans h.2.1, fun k hk => by
  have := h.2.2 k hk
  unfold nm at this ⊢
  rw [f.2 9 s k rfl]; exact this⟩
theorem rw_C {w : Nat} (hw : w < 6) : ∀ (W : List Int32) (kf i a : Nat) (c : zMem), (zSB.getD w []).drop i = W → i ≤ (zSB.getD w []).length → W.length < kf → a < 1000000 → RCq s l V c → c.1 19 0 0 = zi (a : Nat) → ∃ c', s_X3_readWord_L2 kf s w (zi i) c = some (zo (decide (ml V l W a = W.length)), c') ∧ c'.1 19 0 0 = zi (a + ml V l W a : Nat) ∧ fr f19 e0 c c' := by
  obtain ⟨h1, h2, h3⟩ := zSL_len w hw
  intro W
  induction W with
  | nil =>
    intro kf i a c hd hil hkf ha hR hat
    obtain ⟨kf, rfl⟩ : ∃ z, kf = z + 1 := ⟨kf - 1, by omega⟩
    have hi : (zSB.getD w []).length ≤ i := by
      by_cases q : (zSB.getD w []).length ≤ i
      · exact q
      · rw [List.drop_eq_getElem_cons (by omega)] at hd; cases hd
    unfold s_X3_readWord_L2 s_J0_length_8abf5
    refine ⟨c, ?_, hat, fr_refl _ _ _⟩
    rw [zr_some, h1, zi_nI, if_pos ((zi_len (by omega) (by omega)).mpr hi)]; rfl
  | cons x W ih =>
    intro kf i a c hd hil hkf ha hR hat
    obtain ⟨kf, rfl⟩ : ∃ z, kf = z + 1 := ⟨kf - 1, by omega⟩
    obtain ⟨d1, d2, d3⟩ := drop_hd hd
    have hx : x ≠ 0 := (h3 x (List.mem_of_mem_drop (i := i) (by rw [hd]; exact List.mem_cons_self))).1
    unfold s_X3_readWord_L2 s_J0_length_8abf5 s_J0_charAt_5068e
    rw [zr_some, h1, zi_nI, if_neg (fun q => by rw [zi_len (by omega) (by omega)] at q; omega), hat, num_ch hR (by omega), zr_some, chk_zn (show i < (zSB.getD w []).length from d3) (by omega), ix_zn (by omega), d1, zr_some, zlet_eq]
    by_cases e : a < l ∧ V a = x
    · have hc : chA V l a = x := by unfold chA; rw [if_pos e.1, e.2]
      have hf : fr f19 e0 c (wI c 19 0 0 (zi (a + 1 : Nat))) := fr_wI (fr_refl _ _ _) rfl
      obtain ⟨c', b1, b2, b3⟩ := ih kf (i + 1) (a + 1) (wI c 19 0 0 (zi (a + 1 : Nat))) d2 (by omega) (by have : (x :: W).length = W.length + 1 := rfl; omega) (by have := hR.1; omega) (RC_19 hR hf) (by rw [wI_1, if_pos ⟨rfl, rfl, rfl⟩])
      have hm : ml V l (x :: W) a = ml V l W (a + 1) + 1 := if_pos e
      rw [if_pos hc, zi_s1, zi_s1]
      refine ⟨c', ?_, ?_, fr_trans hf b3⟩
      · rw [b1, hm]
        refine congrArg (fun q : Bool => some (zo q, c')) ?_
        rw [decide_eq_decide]
        show _ ↔ _ = W.length + 1
        omega
      · rw [b2, hm]; exact congrArg (fun q : Nat => zi q) (by omega)
    · have hc : ¬ chA V l a = x := fun q => e (by
        unfold chA at q
        by_cases w : a < l
        · rw [if_pos w] at q; exact ⟨w, q⟩
        · rw [if_neg w] at q; exact absurd q.symm hx)
      have hm : ml V l (x :: W) a = 0 := if_neg e
      rw [if_neg hc, hm, decide_eq_false (by simp)]
      exact ⟨c, rfl, hat, fr_refl _ _ _⟩
theorem readWord_C {w : Nat} (hw : w < 6) {a : Nat} (ha : a < 1000000) (hR : RCq s l V c) (hat : c.1 19 0 0 = zi (a : Nat)) : ∃ c', s_X3_readWord s w c = some (zo (decide (ml V l (zSB.getD w []) a = (zSB.getD w []).length)), c') ∧ c'.1 19 0 0 = zi (a + ml V l (zSB.getD w []) a : Nat) ∧ fr f19 e0 c c' :=
  rw_C hw (zSB.getD w []) zF 0 a c List.drop_zero (Nat.zero_le _) (by have := (zSL_len w hw).2.1; unfold zF; omega) ha hR hat
/-! the reference -/
def isW (p : Nat) (W : List Int32) : Prop := (∃ rest, zWds.drop p = W ++ 0 :: rest) ∧ ∀ x, x ∈ W → x ≠ 0
theorem isW_cons {p : Nat} {x : Int32} {W : List Int32} (h : isW p (x :: W)) : zWds.getD p 0 = x ∧ x ≠ 0 ∧ isW (p + 1) W ∧ p < 36 := by
  obtain ⟨⟨rest, h1⟩, h2⟩ := h
  obtain ⟨d1, d2, d3⟩ := drop_hd h1
  exact ⟨d1, h2 x List.mem_cons_self, ⟨⟨rest, d2⟩, fun y hy => h2 y (List.mem_cons_of_mem _ hy)⟩, d3⟩
theorem isW_nil {p : Nat} (h : isW p []) : zWds.getD p 0 = 0 ∧ p < 36 := by
  obtain ⟨⟨rest, h1⟩, -⟩ := h
  obtain ⟨d1, -, d3⟩ := drop_hd h1
  exact ⟨d1, d3⟩
theorem cell_R (h : RRq s l V r) {k : Nat} (hk : k < l) : chk (zi (160 * s : Nat) + zi (k : Nat)) 1280 (some (Int64.toInt32 (r.2 75 0 (ix (zi (160 * s : Nat) + zi (k : Nat)))))) = some (V k) := by
  obtain ⟨h1, h2, -, -, h5, -⟩ := h
  rw [zi_addn, chk_zn (show 160 * s + k < 1280 by omega) (by decide), ix_zn (by omega), h5 k hk]
section WD
variable {k9 : Int32 → Int32 → Int32 → zMem → Option (Int32 × zMem)} {x1 x2 x3 : Int32}
theorem L24_R (h : RRq s l V r) : ∀ (W : List Int32) (kf q p : Nat), isW p W → W.length < kf → q < 1000000 → s_X7_word_L24 k9 kf x1 x2 x3 (zi q) (zi p) r = s_X7_word_L75 k9 x1 x2 x3 (zi (q + ml V l W q : Nat)) (zi (p + ml V l W q : Nat)) r ∧ ((ml V l W q = W.length) ↔ zWds.getD (p + ml V l W q) 0 = 0) ∧ p + ml V l W q < 36 := by
  have hw := h.2.2.2.2.2
  intro W
  induction W with
  | nil =>
    intro kf q p hW hkf hq
    obtain ⟨kf, rfl⟩ : ∃ z, kf = z + 1 := ⟨kf - 1, by omega⟩
    obtain ⟨w1, w2⟩ := isW_nil hW
    refine ⟨?_, ⟨fun _ => w1, fun _ => rfl⟩, w2⟩
    unfold s_X7_word_L24
    rw [chk_zn w2 (by decide), ix_zn (by omega), hw p w2, if_pos w1]
    rfl
  | cons x W ih =>
    intro kf q p hW hkf hq
    obtain ⟨kf, rfl⟩ : ∃ z, kf = z + 1 := ⟨kf - 1, by omega⟩
    obtain ⟨w1, w2, w3, w4⟩ := isW_cons hW
    have h1280 := h.1
    have h160 := h.2.1
    unfold s_X7_word_L24
    rw [chk_zn w4 (by decide), ix_zn (by omega), hw p w4, w1, if_neg w2, h.2.2.2.1, h.2.2.1]
    by_cases e : q < l ∧ V q = x
    · have hm : ml V l (x :: W) q = ml V l W (q + 1) + 1 := if_pos e
      obtain ⟨i1, i2, i3⟩ := ih kf (q + 1) (p + 1) w3 (by have : (x :: W).length = W.length + 1 := rfl; omega) (by omega)
      refine ⟨?_, ?_, by rw [hm]; omega⟩
      · rw [if_neg (fun w => by rw [zi_len (by omega) (by omega)] at w; omega), zi_addn, chk_zn (show 160 * s + q < 1280 by omega) (by decide), ix_zn (by omega), h.2.2.2.2.1 q e.1, if_pos e.2, zi_s1, zi_s1, i1, hm, show q + 1 + ml V l W (q + 1) = q + (ml V l W (q + 1) + 1) by omega, show p + 1 + ml V l W (q + 1) = p + (ml V l W (q + 1) + 1) by omega]
      · rw [hm, show p + (ml V l W (q + 1) + 1) = p + 1 + ml V l W (q + 1) by omega, ← i2]
        show _ = W.length + 1 ↔ _
        omega
    · have hm : ml V l (x :: W) q = 0 := if_neg e
      refine ⟨?_, ?_, by rw [hm]; exact w4⟩
      · rw [hm]
        by_cases e2 : q < l
        · rw [if_neg (fun w => by rw [zi_len (by omega) (by omega)] at w; omega), zi_addn, chk_zn (show 160 * s + q < 1280 by omega) (by decide), ix_zn (by omega), h.2.2.2.2.1 q e2, if_neg (fun w => e ⟨e2, w⟩)]
          rfl
        · rw [if_pos ((zi_len (by omega) (by omega)).mpr (by omega))]
          rfl
      · rw [hm, Nat.add_zero, w1]
        exact ⟨fun w => by simp at w, fun w => absurd w w2⟩
theorem L106_R (h : wdQ r) : ∀ (W : List Int32) (kf p : Nat) (x2 x3 : Int32), isW p W → W.length < kf → s_X7_word_L106 k9 kf (zi p) x2 x3 r = k9 (zi (p + W.length + 1 : Nat)) x2 (x3 + 1) r := by
  intro W
  induction W with
  | nil =>
    intro kf p x2 x3 hW hkf
    obtain ⟨kf, rfl⟩ : ∃ z, kf = z + 1 := ⟨kf - 1, by omega⟩
    obtain ⟨w1, w2⟩ := isW_nil hW
    unfold s_X7_word_L106
    rw [chk_zn w2 (by decide), ix_zn (by omega), h p w2, if_pos w1, zi_s1]
    rfl
  | cons x W ih =>
    intro kf p x2 x3 hW hkf
    obtain ⟨kf, rfl⟩ : ∃ z, kf = z + 1 := ⟨kf - 1, by omega⟩
    obtain ⟨w1, w2, w3, w4⟩ := isW_cons hW
    unfold s_X7_word_L106
    rw [chk_zn w4 (by decide), ix_zn (by omega), h p w4, w1, if_neg w2, zi_s1, ih kf (p + 1) x2 x3 w3 (by have : (x :: W).length = W.length + 1 := rfl; omega), show p + 1 + W.length + 1 = p + (x :: W).length + 1 by have : (x :: W).length = W.length + 1 := rfl; omega]
end WD
theorem L9_step (h : RRq s l V r) {a : Nat} (ha : a < 100000) (hat : r.1 64 0 22 = zi (a : Nat)) {W : List Int32} {p far w : Nat} (hW : isW p W) (hl : W.length < 100) (hf : far < 1000000) (hw : w < 6) (kf : Nat) : s_X7_word_L9 (kf + 1) (zi p) (zi far) (zi w) r = if ml V l W a = W.length then some (zi (w : Nat), wI r 64 0 22 (zi (a + W.length : Nat))) else s_X7_word_L9 kf (zi (p + W.length + 1 : Nat)) (zi (max far (a + ml V l W a) : Nat)) (zi (w + 1 : Nat)) r := by
  have hml := ml_le (V := V) (l := l) W a
  obtain ⟨i1, i2, i3⟩ := L24_R (k9 := s_X7_word_L9 kf) (x1 := zi p) (x2 := zi far) (x3 := zi w) h W zF a p hW (by unfold zF; omega) (by omega)
  have hlt : ¬ (6 : Int32) ≤ zi (w : Nat) := fun q => by rw [show (6 : Int32) = zi (6 : Nat) from rfl, zi_len (by omega) (by omega)] at q; omega
  show (if (6 : Int32) ≤ zi (w : Nat) then _ else s_X7_word_L24 (s_X7_word_L9 kf) zF (zi p) (zi far) (zi w) (r.1 64 0 22) (zi p) r) = _
  rw [if_neg hlt, hat, i1]
  unfold s_X7_word_L75 s_X7_word_L105
  rw [chk_zn i3 (by decide), ix_zn (by omega), h.2.2.2.2.2 _ i3, zlet_eq]
  by_cases e : ml V l W a = W.length
  · rw [if_pos (i2.mp e), if_pos e, e]
  · rw [if_neg (fun q => e (i2.mpr q)), if_neg e, L106_R h.2.2.2.2.2 W zF p _ _ hW (by unfold zF; omega), L106_R h.2.2.2.2.2 W zF p _ _ hW (by unfold zF; omega), zi_s1]
    by_cases e2 : a + ml V l W a ≤ far
    · rw [if_pos ((zi_len (by omega) (by omega)).mpr e2), show max far (a + ml V l W a) = far by omega]
    · rw [if_neg (fun q => e2 ((zi_len (by omega) (by omega)).mp q)), show max far (a + ml V l W a) = a + ml V l W a by omega]
def zWf (w : Nat) : List Int32 := zSB.getD w [] ++ [32]
def zWp (w : Nat) : Nat := [0, 7, 14, 19, 24, 30].getD w 0
theorem zWf_0 : isW 0 (zWf 0) ∧ isW 7 (zWf 1) ∧ isW 14 (zWf 2) ∧ isW 19 (zWf 3) ∧ isW 24 (zWf 4) ∧ isW 30 (zWf 5) := ⟨⟨⟨_, rfl⟩, by decide⟩, ⟨⟨_, rfl⟩, by decide⟩, ⟨⟨_, rfl⟩, by decide⟩, ⟨⟨_, rfl⟩, by decide⟩, ⟨⟨_, rfl⟩, by decide⟩, ⟨⟨_, rfl⟩, by decide⟩⟩
theorem word_R (h : RRq s l V r) {a : Nat} (ha : a < 100000) (hat : r.1 64 0 22 = zi (a : Nat)) {w0 : Nat} (hw0 : w0 < 6) (hne : ∀ w, w < 6 → w ≠ w0 → ml V l (zWf w) a = 0) : s_X7_word r = if ml V l (zWf w0) a = (zWf w0).length then some (zi (w0 : Nat), wI r 64 0 22 (zi (a + (zWf w0).length : Nat))) else some (-1, wI r 64 0 25 (zi (a + ml V l (zWf w0) a : Nat))) := by
  obtain ⟨z0, z1, z2, z3, z4, z5⟩ := zWf_0
  have m0 := ml_le (V := V) (l := l) (zWf 0) a
  have m1 := ml_le (V := V) (l := l) (zWf 1) a
  have m2 := ml_le (V := V) (l := l) (zWf 2) a
  have m3 := ml_le (V := V) (l := l) (zWf 3) a
  have m4 := ml_le (V := V) (l := l) (zWf 4) a
  have m5 := ml_le (V := V) (l := l) (zWf 5) a
  have n0 : (zWf 0).length = 6 := rfl
  have n1 : (zWf 1).length = 6 := rfl
  have n2 : (zWf 2).length = 4 := rfl
  have n3 : (zWf 3).length = 4 := rfl
  have n4 : (zWf 4).length = 5 := rfl
  have n5 : (zWf 5).length = 5 := rfl
  have hs : s_X7_word r = s_X7_word_L9 (1993 + 1 + 1 + 1 + 1 + 1 + 1 + 1) (zi (0 : Nat)) (zi (a : Nat)) (zi (0 : Nat)) r := by
    rw [← hat]; rfl
  have fin : ∀ (p far : Nat), s_X7_word_L9 (1993 + 1) (zi p) (zi far) (zi (6 : Nat)) r = some (-1, wI r 64 0 25 (zi far)) := fun p far => by
    show (if (6 : Int32) ≤ zi (6 : Nat) then _ else _) = _
    rw [if_pos (show (6 : Int32) ≤ zi (6 : Nat) from Int32.le_refl _)]
    rfl
  have key : ∀ w, w < 6 → w ≠ w0 → ¬ ml V l (zWf w) a = (zWf w).length := fun w h1 h2 q => by
    rw [hne w h1 h2] at q
    unfold zWf at q
    simp at q
  rw [hs, L9_step h ha hat z0 (by omega) (by omega) (by omega), L9_step h ha hat (show isW (0 + (zWf 0).length + 1) (zWf 1) from z1) (by omega) (by omega) (by omega), L9_step h ha hat (show isW (0 + (zWf 0).length + 1 + (zWf 1).length + 1) (zWf 2) from z2) (by omega) (by omega) (by omega), L9_step h ha hat (show isW (0 + (zWf 0).length + 1 + (zWf 1).length + 1 + (zWf 2).length + 1) (zWf 3) from z3) (by omega) (by omega) (by omega), L9_step h ha hat (show isW (0 + (zWf 0).length + 1 + (zWf 1).length + 1 + (zWf 2).length + 1 + (zWf 3).length + 1) (zWf 4) from z4) (by omega) (by omega) (by omega), L9_step h ha hat (show isW (0 + (zWf 0).length + 1 + (zWf 1).length + 1 + (zWf 2).length + 1 + (zWf 3).length + 1 + (zWf 4).length + 1) (zWf 5) from z5) (by omega) (by omega) (by omega), fin]
  have c6 : w0 = 0 ∨ w0 = 1 ∨ w0 = 2 ∨ w0 = 3 ∨ w0 = 4 ∨ w0 = 5 := by omega
  rcases c6 with rfl | rfl | rfl | rfl | rfl | rfl
  · rw [if_neg (key 1 (by decide) (by decide)), if_neg (key 2 (by decide) (by decide)), if_neg (key 3 (by decide) (by decide)), if_neg (key 4 (by decide) (by decide)), if_neg (key 5 (by decide) (by decide)), hne 1 (by decide) (by decide), hne 2 (by decide) (by decide), hne 3 (by decide) (by decide), hne 4 (by decide) (by decide), hne 5 (by decide) (by decide), show max (max (max (max (max (max a (a + ml V l (zWf 0) a)) (a + 0)) (a + 0)) (a + 0)) (a + 0)) (a + 0) = a + ml V l (zWf 0) a by omega]
  · rw [if_neg (key 0 (by decide) (by decide)), if_neg (key 2 (by decide) (by decide)), if_neg (key 3 (by decide) (by decide)), if_neg (key 4 (by decide) (by decide)), if_neg (key 5 (by decide) (by decide)), hne 0 (by decide) (by decide), hne 2 (by decide) (by decide), hne 3 (by decide) (by decide), hne 4 (by decide) (by decide), hne 5 (by decide) (by decide), show max (max (max (max (max (max a (a + 0)) (a + ml V l (zWf 1) a)) (a + 0)) (a + 0)) (a + 0)) (a + 0) = a + ml V l (zWf 1) a by omega]
  · rw [if_neg (key 0 (by decide) (by decide)), if_neg (key 1 (by decide) (by decide)), if_neg (key 3 (by decide) (by decide)), if_neg (key 4 (by decide) (by decide)), if_neg (key 5 (by decide) (by decide)), hne 0 (by decide) (by decide), hne 1 (by decide) (by decide), hne 3 (by decide) (by decide), hne 4 (by decide) (by decide), hne 5 (by decide) (by decide), show max (max (max (max (max (max a (a + 0)) (a + 0)) (a + ml V l (zWf 2) a)) (a + 0)) (a + 0)) (a + 0) = a + ml V l (zWf 2) a by omega]
  · rw [if_neg (key 0 (by decide) (by decide)), if_neg (key 1 (by decide) (by decide)), if_neg (key 2 (by decide) (by decide)), if_neg (key 4 (by decide) (by decide)), if_neg (key 5 (by decide) (by decide)), hne 0 (by decide) (by decide), hne 1 (by decide) (by decide), hne 2 (by decide) (by decide), hne 4 (by decide) (by decide), hne 5 (by decide) (by decide), show max (max (max (max (max (max a (a + 0)) (a + 0)) (a + 0)) (a + ml V l (zWf 3) a)) (a + 0)) (a + 0) = a + ml V l (zWf 3) a by omega]
  · rw [if_neg (key 0 (by decide) (by decide)), if_neg (key 1 (by decide) (by decide)), if_neg (key 2 (by decide) (by decide)), if_neg (key 3 (by decide) (by decide)), if_neg (key 5 (by decide) (by decide)), hne 0 (by decide) (by decide), hne 1 (by decide) (by decide), hne 2 (by decide) (by decide), hne 3 (by decide) (by decide), hne 5 (by decide) (by decide), show max (max (max (max (max (max a (a + 0)) (a + 0)) (a + 0)) (a + 0)) (a + ml V l (zWf 4) a)) (a + 0) = a + ml V l (zWf 4) a by omega]
  · rw [if_neg (key 0 (by decide) (by decide)), if_neg (key 1 (by decide) (by decide)), if_neg (key 2 (by decide) (by decide)), if_neg (key 3 (by decide) (by decide)), if_neg (key 4 (by decide) (by decide)), hne 0 (by decide) (by decide), hne 1 (by decide) (by decide), hne 2 (by decide) (by decide), hne 3 (by decide) (by decide), hne 4 (by decide) (by decide), show max (max (max (max (max (max a (a + 0)) (a + 0)) (a + 0)) (a + 0)) (a + 0)) (a + ml V l (zWf 5) a) = a + ml V l (zWf 5) a by omega]
/-! whether a word stands there -/
def isL (p : Nat) (W : List Int32) : Prop := (∃ rest, zWds.drop p = W ++ 32 :: rest) ∧ ∀ x, x ∈ W → 32 < x
theorem L37_R (h : RRq s l V r) : ∀ (W : List Int32) (kf q p : Nat), isL p W → W.length < kf → q < 1000000 → s_X7_isWordAt_L37 kf (zi p) (zi q) r = some (zo (decide (ml V l W q = W.length))) := by
  have hw := h.2.2.2.2.2
  have h1280 := h.1
  have h160 := h.2.1
  intro W
  induction W with
  | nil =>
    intro kf q p hW hkf hq
    obtain ⟨kf, rfl⟩ : ∃ z, kf = z + 1 := ⟨kf - 1, by omega⟩
    obtain ⟨⟨rest, w0⟩, -⟩ := hW
    obtain ⟨w1, -, w2⟩ := drop_hd w0
    have w2' : p < 36 := w2
    unfold s_X7_isWordAt_L37 s_X7_isWordAt_L86
    rw [chk_zn w2' (by decide), chk_zn w2' (by decide), ix_zn (by omega), hw p w2', w1, if_pos (Int32.le_refl _), if_neg (show ¬ (32 : Int32) < 32 by decide)]
    rfl
  | cons x W ih =>
    intro kf q p hW hkf hq
    obtain ⟨kf, rfl⟩ : ∃ z, kf = z + 1 := ⟨kf - 1, by omega⟩
    obtain ⟨⟨rest, w0⟩, wx⟩ := hW
    obtain ⟨w1, w3, w2⟩ := drop_hd w0
    have w2' : p < 36 := w2
    have wx1 := wx x List.mem_cons_self
    unfold s_X7_isWordAt_L37 s_X7_isWordAt_L86
    rw [chk_zn w2' (by decide), chk_zn w2' (by decide), ix_zn (by omega), hw p w2', w1, if_neg (fun q => (i32_nlt 32 x).mpr q wx1), if_pos wx1, h.2.2.2.1, h.2.2.1]
    by_cases e : q < l ∧ V q = x
    · have hm : ml V l (x :: W) q = ml V l W (q + 1) + 1 := if_pos e
      rw [if_neg (fun w => by rw [zi_len (by omega) (by omega)] at w; omega), zi_addn, chk_zn (show 160 * s + q < 1280 by omega) (by decide), ix_zn (by omega), h.2.2.2.2.1 q e.1, if_pos e.2, zi_s1, zi_s1, ih kf (q + 1) (p + 1) ⟨⟨rest, w3⟩, fun y hy => wx y (List.mem_cons_of_mem _ hy)⟩ (by have : (x :: W).length = W.length + 1 := rfl; omega) (by omega), hm]
      refine congrArg (fun q : Bool => some (zo q)) ?_
      rw [decide_eq_decide]
      show _ ↔ _ = W.length + 1
      omega
    · have hm : ml V l (x :: W) q = 0 := if_neg e
      rw [hm, decide_eq_false (show ¬ 0 = (x :: W).length by simp)]
      by_cases e2 : q < l
      · rw [if_neg (fun w => by rw [zi_len (by omega) (by omega)] at w; omega), zi_addn, chk_zn (show 160 * s + q < 1280 by omega) (by decide), ix_zn (by omega), h.2.2.2.2.1 q e2, if_neg (fun w => e ⟨e2, w⟩)]
        rfl
      · rw [if_pos ((zi_len (by omega) (by omega)).mpr (by omega))]
        rfl
theorem L4_skip (h : wdQ r) : ∀ (W : List Int32) (kf p k x1 : Nat), isW p W → k < x1 → x1 < 100 → s_X7_isWordAt_L4 (kf + W.length + 1) (zi x1) (zi p) (zi k) r = s_X7_isWordAt_L4 kf (zi x1) (zi (p + W.length + 1 : Nat)) (zi (k + 1 : Nat)) r := by
  intro W
  induction W with
  | nil =>
    intro kf p k x1 hW hk hx
    obtain ⟨w1, w2⟩ := isW_nil hW
    show (if zi (x1 : Nat) ≤ zi (k : Nat) then s_X7_isWordAt_L37 zF (zi p) (r.1 64 0 22) r else chk (zi (p : Nat)) 36 (if (r.1 77 0 (ix (zi (p : Nat)))) = 0 then s_X7_isWordAt_L24 (s_X7_isWordAt_L4 kf) (zi x1) (zi p) (zi k) 1 r else s_X7_isWordAt_L24 (s_X7_isWordAt_L4 kf) (zi x1) (zi p) (zi k) 0 r)) = _
    rw [if_neg (fun w => by rw [zi_len (by omega) (by omega)] at w; omega), chk_zn w2 (by decide), ix_zn (by omega), h p w2, if_pos w1]
    unfold s_X7_isWordAt_L24
    rw [zi_s1, zi_s1]
    rfl
  | cons x W ih =>
    intro kf p k x1 hW hk hx
    obtain ⟨w1, w2, w3, w4⟩ := isW_cons hW
    show s_X7_isWordAt_L4 (kf + W.length + 1 + 1) (zi x1) (zi p) (zi k) r = _
    rw [show s_X7_isWordAt_L4 (kf + W.length + 1 + 1) (zi x1) (zi p) (zi k) r = (if zi (x1 : Nat) ≤ zi (k : Nat) then s_X7_isWordAt_L37 zF (zi p) (r.1 64 0 22) r else chk (zi (p : Nat)) 36 (if (r.1 77 0 (ix (zi (p : Nat)))) = 0 then s_X7_isWordAt_L24 (s_X7_isWordAt_L4 (kf + W.length + 1)) (zi x1) (zi p) (zi k) 1 r else s_X7_isWordAt_L24 (s_X7_isWordAt_L4 (kf + W.length + 1)) (zi x1) (zi p) (zi k) 0 r)) from rfl, if_neg (fun w => by rw [zi_len (by omega) (by omega)] at w; omega), chk_zn w4 (by decide), ix_zn (by omega), h p w4, w1, if_neg w2]
    unfold s_X7_isWordAt_L24
    rw [zi_s1, show zi (k : Nat) + 0 = zi (k : Nat) from zi_addn k 0, ih kf (p + 1) k x1 w3 hk hx, show p + 1 + W.length + 1 = p + (x :: W).length + 1 by have : (x :: W).length = W.length + 1 := rfl; omega]
theorem isWordAt_0 (h : RRq s l V r) {a : Nat} (ha : a < 100000) (hat : r.1 64 0 22 = zi (a : Nat)) : s_X7_isWordAt 0 r = some (zo (decide (ml V l (zSB.getD 0 []) a = (zSB.getD 0 []).length))) := by
  have : s_X7_isWordAt 0 r = s_X7_isWordAt_L37 zF (zi (0 : Nat)) (r.1 64 0 22) r := by
    unfold s_X7_isWordAt zF
    show (if (0 : Int32) ≤ 0 then _ else _) = _
    rw [if_pos (Int32.le_refl _)]; rfl
  rw [this, hat]
  exact L37_R h (zSB.getD 0 []) zF a 0 ⟨⟨_, rfl⟩, by decide⟩ (by unfold zF; decide) (by omega)
theorem isWordAt_1 (h : RRq s l V r) {a : Nat} (ha : a < 100000) (hat : r.1 64 0 22 = zi (a : Nat)) : s_X7_isWordAt 1 r = some (zo (decide (ml V l (zSB.getD 1 []) a = (zSB.getD 1 []).length))) := by
  have h1 : s_X7_isWordAt 1 r = s_X7_isWordAt_L4 (1993 + (zWf 0).length + 1) (zi (1 : Nat)) (zi (0 : Nat)) (zi (0 : Nat)) r := rfl
  rw [h1, L4_skip h.2.2.2.2.2 (zWf 0) 1993 0 0 1 zWf_0.1 (by decide) (by decide)]
  have h2 : s_X7_isWordAt_L4 1993 (zi (1 : Nat)) (zi (0 + (zWf 0).length + 1 : Nat)) (zi (0 + 1 : Nat)) r = s_X7_isWordAt_L37 zF (zi (7 : Nat)) (r.1 64 0 22) r := by
    show (if zi (1 : Nat) ≤ zi (0 + 1 : Nat) then _ else _) = _
    rw [if_pos (Int32.le_refl _)]; rfl
  rw [h2, hat]
  exact L37_R h (zSB.getD 1 []) zF a 7 ⟨⟨_, rfl⟩, by decide⟩ (by unfold zF; decide) (by omega)
end ZF
