/-! BOTH SIDES: what is the same in the class and in the reference between two calls -/
def cntQ (c r : zMem) : Prop := c.1 1 0 8 = r.1 64 0 3 ∧ c.1 1 0 9 = r.1 64 0 4 ∧ c.1 1 0 10 = r.1 64 0 5
/-- a table kept in the reference's row of 60 -/
def tKp (P : zTab) (f : Nat → Int32) : Prop := f 50 = zi (tn P) ∧ f 51 = zi (tz P) ∧ f 52 = zi (te P) ∧ ∀ g, g < tn P → f g = zi (tK P g) ∧ f (20 + g) = zi (tS P g) ∧ f (10 + g) = zi (tA P g) ∧ f (30 + g) = zi (tB P g) ∧ f (40 + g) = zi (tH P g)
def picQ (c r : zMem) : Prop := (c.1 0 0 3 = 0 ∧ r.1 64 0 41 = 0) ∨ (c.1 0 0 3 = 1 ∧ r.1 64 0 41 = 1 ∧ ∃ P, tOK P ∧ tC 2 P c ∧ tKp P (r.1 80 0) ∧ c.1 1 2 8 = r.1 80 0 53 ∧ c.1 1 2 9 = r.1 80 0 54 ∧ c.1 1 2 10 = r.1 80 0 55)
/-- a SHELF: nothing, a GUEST, a ROW -/
def shE (s : Nat) (c r : zMem) : Prop := c.1 8 s 1 = zi (-1) ∧ c.1 8 s 2 = zi (0 : Nat) ∧ r.1 71 0 s = zi (0 : Nat)
def shG (n s g : Nat) (c r : zMem) : Prop := g < n ∧ c.1 8 s 1 = zi g ∧ c.1 8 s 2 = zi (0 : Nat) ∧ r.1 71 0 s = zi (2 : Nat) ∧ r.1 74 0 s = zi g
def shR (s o l : Nat) (c r : zMem) : Prop := o ≤ 3 ∧ l ≤ 160 ∧ c.1 8 s 1 = zi (100 + o : Nat) ∧ c.1 8 s 2 = zi l ∧ r.1 71 0 s = zi (1 : Nat) ∧ r.1 72 0 s = zi o ∧ r.1 73 0 s = zi l ∧ ∀ i, i < l → c.2 9 s i = r.2 75 0 (160 * s + i)
def shlQ (n : Nat) (c r : zMem) : Prop := ∀ s, s < 8 → shE s c r ∨ (∃ g, shG n s g c r) ∨ ∃ o l, shR s o l c r
def rfsQ (c r : zMem) : Prop := ∀ k, k < 8 → c.1 22 0 k = r.1 65 0 k
def ftQ (c r : zMem) : Prop := c.1 0 0 10 = r.1 64 0 6
def acQ (c r : zMem) : Prop := c.1 20 0 1 = r.1 64 0 40 ∧ ∀ i, i < 20 → c.1 21 0 i = r.1 88 0 i
def zWds : List Int32 := [115, 101, 97, 116, 115, 32, 0, 103, 117, 101, 115, 116, 32, 0, 98, 97, 114, 32, 0, 104, 97, 100, 32, 0, 101, 121, 101, 115, 32, 0, 109, 111, 118, 101, 32, 0]
def wdQ (r : zMem) : Prop := ∀ i, i < 36 → r.1 77 0 i = zWds.getD i 0
def Rel (T : zTab) (c r : zMem) : Prop := tOK T ∧ tC 0 T c ∧ tR T r ∧ cntQ c r ∧ picQ c r ∧ shlQ (tn T) c r ∧ rfsQ c r ∧ ftQ c r ∧ acQ c r ∧ wdQ r
/-- what either side may use up in a call -/
def sI : zEx := fun c j k => (Nat.ble 10 c && Nat.ble c 19) || ((Nat.ble 1 c && (Nat.ble c 6 && Nat.beq j 1)) || (Nat.beq c 20 && Nat.ble 2 k))
def sL : zEx := fun c _ _ => Nat.ble 10 c && Nat.ble c 18
def rI' : zEx := fun c _ k => (Nat.beq c 64 && ((Nat.ble 21 k && Nat.ble k 39))) || (Nat.beq c 78 || (Nat.beq c 79 || (Nat.ble 81 c && Nat.ble c 87)))
def rL : zEx := fun c _ _ => Nat.beq c 76
section FR
variable {f g f' g' : zEx} {c c' r r' : zMem} {T : zTab} {n : Nat}
theorem cntQ_fr (h : fr f g c c') (h' : fr f' g' r r') (a : ∀ k, 8 ≤ k → f 1 0 k = false) (b : f' 64 0 3 = false ∧ f' 64 0 4 = false ∧ f' 64 0 5 = false) (q : cntQ c r) : cntQ c' r' :=
  ⟨(h.1 _ _ _ (a 8 (by decide))).trans (q.1.trans (h'.1 _ _ _ b.1).symm), (h.1 _ _ _ (a 9 (by decide))).trans (q.2.1.trans (h'.1 _ _ _ b.2.1).symm), (h.1 _ _ _ (a 10 (by decide))).trans (q.2.2.trans (h'.1 _ _ _ b.2.2).symm)⟩
theorem tKp_eq {P : zTab} {x y : Nat → Int32} (h : ∀ k, x k = y k) (q : tKp P y) : tKp P x := by
  rw [show x = y from funext h]; exact q
theorem picQ_fr (h : fr f g c c') (h' : fr f' g' r r') (a : f 0 0 3 = false) (a2 : ∀ k, f 1 2 k = false ∧ f 2 2 k = false ∧ f 3 2 k = false ∧ f 4 2 k = false ∧ f 5 2 k = false ∧ f 6 2 k = false) (b : f' 64 0 41 = false) (b2 : ∀ k, f' 80 0 k = false) (q : picQ c r) : picQ c' r' := by
  rcases q with ⟨q1, q2⟩ | ⟨q1, q2, P, q3, q4, q5, q6, q7, q8⟩
  · exact Or.inl ⟨(h.1 _ _ _ a).trans q1, (h'.1 _ _ _ b).trans q2⟩
  · refine Or.inr ⟨(h.1 _ _ _ a).trans q1, (h'.1 _ _ _ b).trans q2, P, q3, tC_fr h a2 q4, tKp_eq (fun k => h'.1 _ _ _ (b2 k)) q5, ?_, ?_, ?_⟩
    · exact (h.1 _ _ _ (a2 8).1).trans (q6.trans (h'.1 _ _ _ (b2 _)).symm)
    · exact (h.1 _ _ _ (a2 9).1).trans (q7.trans (h'.1 _ _ _ (b2 _)).symm)
    · exact (h.1 _ _ _ (a2 10).1).trans (q8.trans (h'.1 _ _ _ (b2 _)).symm)
theorem shE_fr {s : Nat} (h : fr f g c c') (h' : fr f' g' r r') (a : f 8 s 1 = false ∧ f 8 s 2 = false) (b : f' 71 0 s = false) (q : shE s c r) : shE s c' r' :=
  ⟨(h.1 _ _ _ a.1).trans q.1, (h.1 _ _ _ a.2).trans q.2.1, (h'.1 _ _ _ b).trans q.2.2⟩
theorem shG_fr {s x : Nat} (h : fr f g c c') (h' : fr f' g' r r') (a : f 8 s 1 = false ∧ f 8 s 2 = false) (b : f' 71 0 s = false ∧ f' 74 0 s = false) (q : shG n s x c r) : shG n s x c' r' :=
  ⟨q.1, (h.1 _ _ _ a.1).trans q.2.1, (h.1 _ _ _ a.2).trans q.2.2.1, (h'.1 _ _ _ b.1).trans q.2.2.2.1, (h'.1 _ _ _ b.2).trans q.2.2.2.2⟩
theorem shR_fr {s o l : Nat} (h : fr f g c c') (h' : fr f' g' r r') (a : f 8 s 1 = false ∧ f 8 s 2 = false) (a2 : ∀ i, i < l → g 9 s i = false) (b : f' 71 0 s = false ∧ f' 72 0 s = false ∧ f' 73 0 s = false) (b2 : ∀ i, i < l → g' 75 0 (160 * s + i) = false) (q : shR s o l c r) : shR s o l c' r' :=
  ⟨q.1, q.2.1, (h.1 _ _ _ a.1).trans q.2.2.1, (h.1 _ _ _ a.2).trans q.2.2.2.1, (h'.1 _ _ _ b.1).trans q.2.2.2.2.1, (h'.1 _ _ _ b.2.1).trans q.2.2.2.2.2.1, (h'.1 _ _ _ b.2.2).trans q.2.2.2.2.2.2.1, fun i hi => (h.2 _ _ _ (a2 i hi)).trans ((q.2.2.2.2.2.2.2 i hi).trans (h'.2 _ _ _ (b2 i hi)).symm)⟩
theorem shlQ_fr (h : fr f g c c') (h' : fr f' g' r r') (a : ∀ s, f 8 s 1 = false ∧ f 8 s 2 = false) (a2 : ∀ s i, g 9 s i = false) (b : ∀ s, f' 71 0 s = false ∧ f' 72 0 s = false ∧ f' 73 0 s = false ∧ f' 74 0 s = false) (b2 : ∀ i, g' 75 0 i = false) (q : shlQ n c r) : shlQ n c' r' := by
  intro s hs
  obtain ⟨b3, b4, b5, b6⟩ := b s
  rcases q s hs with q | ⟨x, q⟩ | ⟨o, l, q⟩
  · exact Or.inl (shE_fr h h' (a s) b3 q)
  · exact Or.inr (Or.inl ⟨x, shG_fr h h' (a s) ⟨b3, b6⟩ q⟩)
  · exact Or.inr (Or.inr ⟨o, l, shR_fr h h' (a s) (fun i _ => a2 s i) ⟨b3, b4, b5⟩ (fun i _ => b2 _) q⟩)
theorem rfsQ_fr (h : fr f g c c') (h' : fr f' g' r r') (a : ∀ k, f 22 0 k = false) (b : ∀ k, f' 65 0 k = false) (q : rfsQ c r) : rfsQ c' r' := fun k hk => (h.1 _ _ _ (a k)).trans ((q k hk).trans (h'.1 _ _ _ (b k)).symm)
theorem ftQ_fr (h : fr f g c c') (h' : fr f' g' r r') (a : f 0 0 10 = false) (b : f' 64 0 6 = false) (q : ftQ c r) : ftQ c' r' := (h.1 _ _ _ a).trans (Eq.trans q (h'.1 _ _ _ b).symm)
theorem acQ_fr (h : fr f g c c') (h' : fr f' g' r r') (a : f 20 0 1 = false) (a2 : ∀ k, f 21 0 k = false) (b : f' 64 0 40 = false) (b2 : ∀ k, f' 88 0 k = false) (q : acQ c r) : acQ c' r' :=
  ⟨(h.1 _ _ _ a).trans (q.1.trans (h'.1 _ _ _ b).symm), fun i hi => (h.1 _ _ _ (a2 i)).trans ((q.2 i hi).trans (h'.1 _ _ _ (b2 i)).symm)⟩
theorem wdQ_fr (h' : fr f' g' r r') (b : ∀ k, f' 77 0 k = false) (q : wdQ r) : wdQ r' := fun i hi => (h'.1 _ _ _ (b i)).trans (q i hi)
/-- only what may be used up has changed -/
theorem Rel_fr (h : fr sI sL c c') (h' : fr rI' rL r r') (q : Rel T c r) : Rel T c' r' := by
  obtain ⟨q1, q2, q3, q4, q5, q6, q7, q8, q9, q10⟩ := q
  exact ⟨q1, tC_fr h (fun _ => ⟨rfl, rfl, rfl, rfl, rfl, rfl⟩) q2, tR_fr h' rfl rfl rfl (fun _ => ⟨rfl, rfl, rfl, rfl, rfl⟩) q3, cntQ_fr h h' (fun _ _ => rfl) ⟨rfl, rfl, rfl⟩ q4, picQ_fr h h' rfl (fun _ => ⟨rfl, rfl, rfl, rfl, rfl, rfl⟩) rfl (fun _ => rfl) q5, shlQ_fr h h' (fun _ => ⟨rfl, rfl⟩) (fun _ _ => rfl) (fun _ => ⟨rfl, rfl, rfl, rfl⟩) (fun _ => rfl) q6, rfsQ_fr h h' (fun _ => rfl) (fun _ => rfl) q7, ftQ_fr h h' rfl rfl q8, acQ_fr h h' rfl (fun _ => rfl) rfl (fun _ => rfl) q9, wdQ_fr h' (fun _ => rfl) q10⟩
/-- the REFUSALS counted on -/
theorem Rel_ref {k : Nat} {x : Int32} (q : Rel T c r) : Rel T (wI c 22 0 k (c.1 22 0 k + x)) (wI r 65 0 k (r.1 65 0 k + x)) := by
  obtain ⟨q1, q2, q3, q4, q5, q6, q7, q8, q9, q10⟩ := q
  have h : fr (fun c _ _ => Nat.beq c 22) e0 c (wI c 22 0 k (c.1 22 0 k + x)) := fr_wI (fr_refl _ _ _) rfl
  have h' : fr (fun c _ _ => Nat.beq c 65) e0 r (wI r 65 0 k (r.1 65 0 k + x)) := fr_wI (fr_refl _ _ _) rfl
  refine ⟨q1, tC_fr h (fun _ => ⟨rfl, rfl, rfl, rfl, rfl, rfl⟩) q2, tR_fr h' rfl rfl rfl (fun _ => ⟨rfl, rfl, rfl, rfl, rfl⟩) q3, cntQ_fr h h' (fun _ _ => rfl) ⟨rfl, rfl, rfl⟩ q4, picQ_fr h h' rfl (fun _ => ⟨rfl, rfl, rfl, rfl, rfl, rfl⟩) rfl (fun _ => rfl) q5, shlQ_fr h h' (fun _ => ⟨rfl, rfl⟩) (fun _ _ => rfl) (fun _ => ⟨rfl, rfl, rfl, rfl⟩) (fun _ => rfl) q6, ?_, ftQ_fr h h' rfl rfl q8, acQ_fr h h' rfl (fun _ => rfl) rfl (fun _ => rfl) q9, wdQ_fr h' (fun _ => rfl) q10⟩
  intro j hj
  rw [wI_1, wI_1]
  by_cases e : j = k
  · subst e
    rw [if_pos ⟨rfl, rfl, rfl⟩, if_pos ⟨rfl, rfl, rfl⟩, q7 j hj]
  · rw [if_neg (fun w => e w.2.2), if_neg (fun w => e w.2.2)]
    exact q7 j hj
end FR
/-- both answer the same, and what is the same stays so -/
def OK2 (x : Option (Int32 × zMem)) (y : Option (Int32 × zMem)) : Prop := ∃ a c' r' T', x = some (a, c') ∧ y = some (a, r') ∧ Rel T' c' r'
theorem ok2_same {T : zTab} {c r : zMem} {a b : Int32} (h : Rel T c r) (e : a = b) : OK2 (some (a, c)) (some (b, r)) := ⟨a, c, r, T, rfl, by rw [e], h⟩
section RF
variable {T : zTab} {c r : zMem}
theorem neg_zi (k : Nat) : -zi (-(k : Int)) = zi (k : Nat) := by rw [zi_neg]; exact congrArg zi (by omega)
theorem refuse_C {k : Nat} (h1 : 1 ≤ k) (h7 : k ≤ 7) : s_X6_refuse (zi (-(k : Int))) c = some (zi (-(k : Int)), wI c 22 0 k (c.1 22 0 k + 1)) := by
  unfold s_X6_refuse
  rw [if_neg (by rw [show (-1 : Int32) = zi (-1) from rfl, zi_lt (by omega) (by omega) (by omega) (by omega)]; omega), if_neg (by rw [show (-7 : Int32) = zi (-7) from rfl, zi_lt (by omega) (by omega) (by omega) (by omega)]; omega), neg_zi, chk_zn (show k < 8 by omega) (by decide), zlet_eq, ix_zn (show k < 2147483648 by omega)]
theorem no_R {k : Nat} (h7 : k ≤ 7) : s_X7_no (zi (-(k : Int))) r = some (zi (-(k : Int)), wI r 65 0 k (r.1 65 0 k + 1)) := by
  unfold s_X7_no
  rw [neg_zi, chk_zn (show k < 8 by omega) (by decide), zlet_eq, ix_zn (show k < 2147483648 by omega)]
theorem noTen_R {k : Nat} (h7 : k ≤ 7) : s_X7_noTen (zi (-(k : Int))) r = some (zi (-(k : Int)) - 10, wI r 65 0 k (r.1 65 0 k + 1)) := by
  unfold s_X7_noTen
  rw [neg_zi, chk_zn (show k < 8 by omega) (by decide), zlet_eq, ix_zn (show k < 2147483648 by omega)]
theorem ok2_ref (h : Rel T c r) (k : Nat) (h1 : 1 ≤ k) (h7 : k ≤ 7) {x : Int32} (hx : x = zi (-(k : Int))) : OK2 (zb (s_X6_refuse x c) (fun a m => some (a, m))) (zb (s_X7_no x r) (fun a m => some (a, m))) := by
  subst hx
  rw [refuse_C h1 h7, no_R h7, zb_some, zb_some]
  exact ⟨_, _, _, T, rfl, rfl, Rel_ref h⟩
theorem ok2_ten (h : Rel T c r) (k : Nat) (h1 : 1 ≤ k) (h7 : k ≤ 7) {x : Int32} (hx : x = zi (-(k : Int))) : OK2 (zb (s_X6_refuseLower x c) (fun a m => some (a, m))) (zb (s_X7_noTen x r) (fun a m => some (a, m))) := by
  subst hx
  unfold s_X6_refuseLower
  rw [refuse_C h1 h7, noTen_R h7, zb_some, zb_some, zb_some]
  exact ⟨_, _, _, T, rfl, rfl, Rel_ref h⟩
theorem lt0 {a : Int} (h1 : -2147483648 ≤ a) (h2 : a < 2147483648) : (zi a < 0) ↔ a < 0 := zi_lt (b := 0) h1 h2 (by omega) (by omega)
theorem exists_C {t : Nat} (hT : tC t T c) (hn : tn T ≤ 10) (a : Int32) : (∃ g, g < tn T ∧ a = zi (g : Nat) ∧ s_X5_exists t a c = some 1) ∨ s_X5_exists t a c = some 0 ∧ ∀ g, g < tn T → a ≠ zi (g : Nat) := by
  obtain ⟨x, rfl, x1, x2⟩ := zi_of a
  unfold s_X5_exists
  rw [hT.1]
  by_cases h1 : x < 0
  · right
    rw [if_pos ((lt0 x1 x2).mpr h1)]
    exact ⟨rfl, fun g hg e => by rw [zi_eq x1 x2 (by omega) (by omega)] at e; omega⟩
  · rw [if_neg (fun w => h1 ((lt0 x1 x2).mp w))]
    by_cases h2 : (tn T : Int) ≤ x
    · right
      rw [if_pos ((zi_le (by omega) (by omega) x1 x2).mpr h2)]
      exact ⟨rfl, fun g hg e => by rw [zi_eq x1 x2 (by omega) (by omega)] at e; omega⟩
    · left
      rw [if_neg (fun w => h2 ((zi_le (by omega) (by omega) x1 x2).mp w))]
      exact ⟨x.toNat, by omega, congrArg zi (by omega), rfl⟩
theorem isGuest_R (hT : tR T r) (hn : tn T ≤ 10) (a : Int32) : (∃ g, g < tn T ∧ a = zi (g : Nat) ∧ s_X7_isGuest a r = some 1) ∨ s_X7_isGuest a r = some 0 ∧ ∀ g, g < tn T → a ≠ zi (g : Nat) := by
  obtain ⟨x, rfl, x1, x2⟩ := zi_of a
  unfold s_X7_isGuest
  rw [hT.1]
  by_cases h1 : x < 0
  · right
    rw [if_pos ((lt0 x1 x2).mpr h1)]
    exact ⟨rfl, fun g hg e => by rw [zi_eq x1 x2 (by omega) (by omega)] at e; omega⟩
  · rw [if_neg (fun w => h1 ((lt0 x1 x2).mp w))]
    by_cases h2 : (tn T : Int) ≤ x
    · right
      rw [if_pos ((zi_le (by omega) (by omega) x1 x2).mpr h2)]
      exact ⟨rfl, fun g hg e => by rw [zi_eq x1 x2 (by omega) (by omega)] at e; omega⟩
    · left
      rw [if_neg (fun w => h2 ((zi_le (by omega) (by omega) x1 x2).mp w))]
      exact ⟨x.toNat, by omega, congrArg zi (by omega), rfl⟩
/-- both on whether there is such a GUEST -/
theorem guest2 (h : Rel T c r) (a : Int32) : (∃ g, g < tn T ∧ a = zi (g : Nat) ∧ s_X5_exists 0 a c = some 1 ∧ s_X7_isGuest a r = some 1) ∨ (s_X5_exists 0 a c = some 0 ∧ s_X7_isGuest a r = some 0) := by
  obtain ⟨q1, q2, q3, -⟩ := h
  rcases exists_C q2 q1.1 a with ⟨g, g1, g2, g3⟩ | ⟨g1, g2⟩
  · rcases isGuest_R q3 q1.1 a with ⟨k, k1, k2, k3⟩ | ⟨k1, k2⟩
    · exact Or.inl ⟨g, g1, g2, g3, k3⟩
    · exact absurd g2 (k2 g g1)
  · rcases isGuest_R q3 q1.1 a with ⟨k, k1, k2, k3⟩ | ⟨k1, k2⟩
    · exact absurd k2 (g2 k k1)
    · exact Or.inr ⟨g1, k1⟩
theorem pair2 (h : Rel T c r) (a b : Int32) : (∃ g q, g < tn T ∧ q < tn T ∧ g ≠ q ∧ a = zi (g : Nat) ∧ b = zi (q : Nat) ∧ s_X6_refusalOfPair a b c = some 0 ∧ s_X7_pair a b r = some 0) ∨ ∃ k : Nat, 1 ≤ k ∧ k ≤ 7 ∧ s_X6_refusalOfPair a b c = some (zi (-(k : Int))) ∧ s_X7_pair a b r = some (zi (-(k : Int))) := by
  have hn := h.1.1
  unfold s_X6_refusalOfPair s_X7_pair s_X7_pair_L16
  rcases guest2 h a with ⟨g, g1, g2, g3, g4⟩ | ⟨g3, g4⟩
  · rcases guest2 h b with ⟨q, q1, q2, q3, q4⟩ | ⟨q3, q4⟩
    · rw [g3, g4, q3, q4]
      by_cases e : g = q
      · refine Or.inr ⟨6, by omega, by omega, ?_, ?_⟩
        · show (if a = b then _ else _) = _; rw [if_pos (by rw [g2, q2, e])]; rfl
        · show (if a = b then _ else _) = _; rw [if_pos (by rw [g2, q2, e])]; rfl
      · refine Or.inl ⟨g, q, g1, q1, e, g2, q2, ?_, ?_⟩
        · show (if a = b then _ else _) = _; rw [if_neg (fun w => e (by rw [g2, q2] at w; exact (zi_eqn (by omega) (by omega)).mp w))]
        · show (if a = b then _ else _) = _; rw [if_neg (fun w => e (by rw [g2, q2] at w; exact (zi_eqn (by omega) (by omega)).mp w))]
    · rw [g3, g4, q3, q4]
      exact Or.inr ⟨1, by omega, by omega, rfl, rfl⟩
  · rw [g3, g4]
    exact Or.inr ⟨1, by omega, by omega, rfl, rfl⟩
end RF
