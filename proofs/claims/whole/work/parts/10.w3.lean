/-! OPS that change the table -/
def mI : zEx := fun c j k => sI c j k || (Nat.ble 1 c && (Nat.ble c 6 && Nat.beq j 0))
def mR : zEx := fun c j k => rI' c j k || ((Nat.beq c 64 && Nat.ble k 5) || (Nat.ble 66 c && Nat.ble c 70))
section W3
variable {T T' : zTab} {c r c' r' : zMem}
theorem shlQ_more {n n' : Nat} (h : n ≤ n') (q : shlQ n c r) : shlQ n' c r := by
  intro s hs
  rcases q s hs with q | ⟨x, q⟩ | ⟨o, l, q⟩
  · exact Or.inl q
  · exact Or.inr (Or.inl ⟨x, by have := q.1; omega, q.2⟩)
  · exact Or.inr (Or.inr ⟨o, l, q⟩)
/-- the table has changed, and what may be used up -/
theorem Rel_tab (h : fr mI sL c c') (h' : fr mR rL r r') (q : Rel T c r) (o : tOK T') (a : tC 0 T' c') (b : tR T' r') (d : cntQ c' r') (e : tn T ≤ tn T') : Rel T' c' r' := by
  obtain ⟨q1, q2, q3, q4, q5, q6, q7, q8, q9, q10⟩ := q
  exact ⟨o, a, b, d, picQ_fr h h' rfl (fun _ => ⟨rfl, rfl, rfl, rfl, rfl, rfl⟩) rfl (fun _ => rfl) q5, shlQ_more e (shlQ_fr h h' (fun _ => ⟨rfl, rfl⟩) (fun _ _ => rfl) (fun _ => ⟨rfl, rfl, rfl, rfl⟩) (fun _ => rfl) q6), rfsQ_fr h h' (fun _ => rfl) (fun _ => rfl) q7, ftQ_fr h h' rfl rfl q8, acQ_fr h h' rfl (fun _ => rfl) rfl (fun _ => rfl) q9, wdQ_fr h' (fun _ => rfl) q10⟩
theorem op_seed (h : Rel T c r) (a : Int32) : OK2 (s_X6_seed a c) (s_X7_seed a r) := by
  unfold s_X6_seed s_X7_seed
  rw [zlet_eq, zlet_eq, h.2.2.2.1.2.2]
  have f1 : fr mI sL c (wI c 1 0 10 a) := fr_wI (fr_refl _ _ _) rfl
  have f2 : fr mR rL r (wI r 64 0 5 a) := fr_wI (fr_refl _ _ _) rfl
  refine ⟨_, _, _, T, rfl, rfl, Rel_tab f1 f2 h h.1 ?_ ?_ ?_ (Nat.le_refl _)⟩
  · obtain ⟨a1, a2, a3, a4⟩ := h.2.1
    refine ⟨by simp [wI_1, a1], by simp [wI_1, a2], by simp [wI_1, a3], fun g hg => ?_⟩
    simp [wI_1, a4 g hg]
  · obtain ⟨a1, a2, a3, a4⟩ := h.2.2.1
    refine ⟨by simp [wI_1, a1], by simp [wI_1, a2], by simp [wI_1, a3], fun g hg => ?_⟩
    simp [wI_1, a4 g hg]
  · obtain ⟨a1, a2, a3⟩ := h.2.2.2.1
    exact ⟨by simp [wI_1, a1], by simp [wI_1, a2], by simp [wI_1]⟩
def tEyes (T : zTab) (v : Nat) : zTab := (tn T, tz T, v, tK T, tS T, tA T, tB T, tH T)
def tSize (T : zTab) (v : Nat) : zTab := (tn T, v, te T, tK T, tS T, tA T, tB T, tH T)
theorem set_eyes (h : Rel T c r) {v : Nat} (hv : v ≤ 1) : Rel (tEyes T v) (wI c 1 0 7 (zi v)) (wI r 64 0 2 (zi v)) := by
  have f1 : fr mI sL c (wI c 1 0 7 (zi v)) := fr_wI (fr_refl _ _ _) rfl
  have f2 : fr mR rL r (wI r 64 0 2 (zi v)) := fr_wI (fr_refl _ _ _) rfl
  obtain ⟨o1, o2, o3, o4, o5⟩ := h.1
  refine Rel_tab f1 f2 h ⟨o1, o2, o3, hv, o5⟩ ?_ ?_ ?_ (Nat.le_refl _)
  · obtain ⟨a1, a2, a3, a4⟩ := h.2.1
    refine ⟨by simp [wI_1, a1, tEyes], by simp [wI_1, a2, tEyes], by simp [wI_1, tEyes], fun g hg => ?_⟩
    simp [wI_1, a4 g hg, tEyes]
  · obtain ⟨a1, a2, a3, a4⟩ := h.2.2.1
    refine ⟨by simp [wI_1, a1, tEyes], by simp [wI_1, a2, tEyes], by simp [wI_1, tEyes], fun g hg => ?_⟩
    simp [wI_1, a4 g hg, tEyes]
  · obtain ⟨a1, a2, a3⟩ := h.2.2.2.1
    exact ⟨by simp [wI_1, a1], by simp [wI_1, a2], by simp [wI_1, a3]⟩
theorem op_eyes (h : Rel T c r) (a : Int32) : OK2 (s_X6_eyes a c) (s_X7_eyes a r) := by
  have hR : OK2 (zb (s_X6_refuse (-6) c) (fun a m => some (a, m))) (zb (s_X7_no (-6) r) (fun a m => some (a, m))) := ok2_ref h 6 (by omega) (by omega) rfl
  have hK : ∀ v : Nat, v ≤ 1 → OK2 (some (c.1 1 0 7, wI c 1 0 7 (zi v))) (some (r.1 64 0 2, wI r 64 0 2 (zi v))) := fun v hv => by
    rw [h.2.1.2.2.1, h.2.2.1.2.2.1]
    exact ⟨_, _, _, _, rfl, rfl, set_eyes h hv⟩
  unfold s_X6_eyes s_X7_eyes s_X6_eyes_L16 s_X7_eyes_L9
  obtain ⟨x, rfl, x1, x2⟩ := zi_of a
  have e0 : zi x = 0 ↔ x = 0 := zi_eq (b := 0) x1 x2 (by omega) (by omega)
  have e1 : zi x = 1 ↔ x = 1 := zi_eq (b := 1) x1 x2 (by omega) (by omega)
  have l1 : zi x ≤ 1 ↔ x ≤ 1 := zi_le (b := 1) x1 x2 (by omega) (by omega)
  by_cases h0 : x = 0
  · subst h0
    rw [if_pos (e0.mpr rfl), if_neg (show ¬ zi 0 < 0 by decide), if_pos (show zi 0 ≤ 1 by decide)]
    exact hK 0 (by omega)
  · rw [if_neg (fun w => h0 (e0.mp w))]
    by_cases h1 : x = 1
    · subst h1
      rw [if_pos (e1.mpr rfl), if_neg (show ¬ zi 1 < 0 by decide), if_pos (show zi 1 ≤ 1 by decide)]
      exact hK 1 (by omega)
    · rw [if_neg (fun w => h1 (e1.mp w))]
      by_cases h2 : x < 0
      · rw [if_pos ((lt0 x1 x2).mpr h2)]; exact hR
      · rw [if_neg (fun w => h2 ((lt0 x1 x2).mp w)), if_neg (fun w => by have := l1.mp w; omega)]; exact hR
theorem op_seats (h : Rel T c r) (a : Int32) : OK2 (s_X6_seats a c) (s_X7_seats a r) := by
  have hR : OK2 (zb (s_X6_refuse (-6) c) (fun a m => some (a, m))) (zb (s_X7_no (-6) r) (fun a m => some (a, m))) := ok2_ref h 6 (by omega) (by omega) rfl
  have hn := h.1.1
  unfold s_X6_seats s_X7_seats s_X6_seats_L21 s_X7_seats_L18
  obtain ⟨x, rfl, x1, x2⟩ := zi_of a
  have l3 : zi x < 3 ↔ x < 3 := zi_lt (b := 3) x1 x2 (by omega) (by omega)
  have l12 : 12 < zi x ↔ 12 < x := zi_lt (a := 12) (by omega) (by omega) x1 x2
  have l0 : zi (tn T) ≤ 0 ↔ tn T ≤ 0 := zi_len (b := 0) (by omega) (by omega)
  by_cases h3 : x < 3
  · rw [if_pos (l3.mpr h3), if_pos (l3.mpr h3)]; exact hR
  · rw [if_neg (fun w => h3 (l3.mp w)), if_neg (fun w => h3 (l3.mp w))]
    by_cases h12 : 12 < x
    · rw [if_pos (l12.mpr h12), if_pos (l12.mpr h12)]; exact hR
    · rw [if_neg (fun w => h12 (l12.mp w)), if_neg (fun w => h12 (l12.mp w)), h.2.1.1, h.2.2.1.1]
      by_cases h0 : tn T ≤ 0
      · rw [if_pos (l0.mpr h0), if_pos (l0.mpr h0), zlet_eq, zlet_eq, h.2.1.2.1, h.2.2.1.2.1]
        have f1 : fr mI sL c (wI c 1 0 5 (zi x)) := fr_wI (fr_refl _ _ _) rfl
        have f2 : fr mR rL r (wI r 64 0 1 (zi x)) := fr_wI (fr_refl _ _ _) rfl
        obtain ⟨v, rfl⟩ : ∃ v : Nat, x = v := ⟨x.toNat, by omega⟩
        obtain ⟨o1, o2, o3, o4, o5, o6, o7, o8⟩ := h.1
        refine ⟨_, _, _, tSize T v, rfl, rfl, Rel_tab f1 f2 h ⟨o1, by show 3 ≤ v; omega, by show v ≤ 12; omega, o4, fun g hg => absurd hg (by show ¬ g < tn T; omega), fun g _ hg => absurd hg (by show ¬ g < tn T; omega), fun g hg => absurd hg (by show ¬ g < tn T; omega), fun g _ hg => absurd hg (by show ¬ g < tn T; omega)⟩ ?_ ?_ ?_ (Nat.le_refl _)⟩
        · obtain ⟨a1, a2, a3, a4⟩ := h.2.1
          refine ⟨by simp [wI_1, a1, tSize], by simp [wI_1, tSize], by simp [wI_1, a3, tSize], fun g hg => absurd hg (by show ¬ g < tn T; omega)⟩
        · obtain ⟨a1, a2, a3, a4⟩ := h.2.2.1
          refine ⟨by simp [wI_1, a1, tSize], by simp [wI_1, tSize], by simp [wI_1, a3, tSize], fun g hg => absurd hg (by show ¬ g < tn T; omega)⟩
        · obtain ⟨a1, a2, a3⟩ := h.2.2.2.1
          exact ⟨by simp [wI_1, a1], by simp [wI_1, a2], by simp [wI_1, a3]⟩
      · rw [if_neg (fun w => h0 (l0.mp w)), if_neg (fun w => h0 (l0.mp w))]; exact hR
/-! two change places -/
def swp (f : Nat → Nat) (g h : Nat) : Nat → Nat := fun i => if i = h then f g else if i = g then f h else f i
def tSwp (T : zTab) (g h : Nat) : zTab := (tn T, tz T, te T, tK T, swp (tS T) g h, tA T, tB T, tH T)
def sg (g h i : Nat) : Nat := if i = h then g else if i = g then h else i
theorem swp_sg (f : Nat → Nat) (g h i : Nat) : swp f g h i = f (sg g h i) := by
  unfold swp sg
  split
  · rfl
  · split <;> rfl
theorem sg_lt {g h i n : Nat} (hg : g < n) (hh : h < n) (hi : i < n) : sg g h i < n := by
  unfold sg
  split
  · exact hg
  · split
    · exact hh
    · exact hi
theorem swp_ok (o : tOK T) {g h : Nat} (hg : g < tn T) (hh : h < tn T) : tOK (tSwp T g h) := by
  obtain ⟨o1, o2, o3, o4, o5, o6, o7, o8⟩ := o
  refine ⟨o1, o2, o3, o4, fun i hi => ?_, o6, o7, fun i j hi hj e => ?_⟩
  · obtain ⟨p1, p2, p3, p4, p5⟩ := o5 i hi
    refine ⟨p1, ?_, p3, p4, p5⟩
    show swp (tS T) g h i < tz T
    unfold swp
    split
    · exact (o5 g hg).2.1
    · split
      · exact (o5 h hh).2.1
      · exact p2
  · have e : swp (tS T) g h i = swp (tS T) g h j := e
    have hi : i < tn T := hi
    have hj : j < tn T := hj
    rw [swp_sg, swp_sg] at e
    have k := o8 _ _ (sg_lt hg hh hi) (sg_lt hg hh hj) e
    unfold sg at k
    repeat' split at k
    all_goals omega
theorem swp_C {t : Nat} {m : zMem} (hT : tC t T m) (o : tOK T) {g h : Nat} (hg : g < tn T) (hh : h < tn T) : ∃ m', s_X5_swap t (zi g) (zi h) m = some m' ∧ tC t (tSwp T g h) m' ∧ fr (fun c j _ => Nat.beq c 3 && Nat.beq j t) e0 m m' := by
  have hn := o.1
  obtain ⟨a1, a2, a3, a4⟩ := hT
  obtain ⟨-, b2, -⟩ := a4 g hg
  obtain ⟨-, d2, -⟩ := a4 h hh
  unfold s_X5_swap
  rw [chk_zn (show g < 10 by omega) (by decide), zlet_eq, chk_zn (show h < 10 by omega) (by decide), zlet_eq, zlet_eq, ix_zn (show g < 2147483648 by omega), ix_zn (show h < 2147483648 by omega), b2, d2]
  have hb : (fun (c j k : Nat) => Nat.beq c 3 && Nat.beq j t) 3 t 0 = true := by simp
  refine ⟨_, rfl, ⟨by simp [wI_1, a1, tSwp], by simp [wI_1, a2, tSwp], by simp [wI_1, a3, tSwp], fun i hi => ?_⟩, fr_wI (fr_wI (fr_refl _ _ _) (by simp)) (by simp)⟩
  obtain ⟨c1, c2, c3, c4, c5⟩ := a4 i hi
  refine ⟨by simp [wI_1, c1, tSwp], ?_, by simp [wI_1, c3, tSwp], by simp [wI_1, c4, tSwp], by simp [wI_1, c5, tSwp]⟩
  show _ = zi (swp (tS T) g h i : Nat)
  unfold swp
  by_cases i1 : i = h <;> by_cases i2 : i = g <;> simp [wI_1, i1, i2, c2] <;> simp_all
theorem swp_R {m : zMem} (hT : tR T m) (o : tOK T) {g h : Nat} (hg : g < tn T) (hh : h < tn T) : ∃ m', s_X7_changes (zi g) (zi h) m = some m' ∧ tR (tSwp T g h) m' ∧ fr (fun c j _ => Nat.beq c 68) e0 m m' := by
  have hn := o.1
  obtain ⟨a1, a2, a3, a4⟩ := hT
  obtain ⟨-, b2, -⟩ := a4 g hg
  obtain ⟨-, d2, -⟩ := a4 h hh
  unfold s_X7_changes
  rw [chk_zn (show g < 10 by omega) (by decide), zlet_eq, chk_zn (show h < 10 by omega) (by decide), zlet_eq, zlet_eq, ix_zn (show g < 2147483648 by omega), ix_zn (show h < 2147483648 by omega), b2, d2]
  refine ⟨_, rfl, ⟨by simp [wI_1, a1, tSwp], by simp [wI_1, a2, tSwp], by simp [wI_1, a3, tSwp], fun i hi => ?_⟩, fr_wI (fr_wI (fr_refl _ _ _) (by simp)) (by simp)⟩
  obtain ⟨c1, c2, c3, c4, c5⟩ := a4 i hi
  refine ⟨by simp [wI_1, c1, tSwp], ?_, by simp [wI_1, c3, tSwp], by simp [wI_1, c4, tSwp], by simp [wI_1, c5, tSwp]⟩
  show _ = zi (swp (tS T) g h i : Nat)
  unfold swp
  by_cases i1 : i = h <;> by_cases i2 : i = g <;> simp [wI_1, i1, i2, c2] <;> simp_all
theorem beqf {a b : Nat} (h : ¬ a = b) : Nat.beq a b = false := by
  cases e : Nat.beq a b with
  | false => rfl
  | true => exact absurd (Nat.eq_of_beq_eq_true e) h
theorem beqt (a : Nat) : Nat.beq a a = true := Nat.beq_refl a
theorem op_change (h : Rel T c r) (a b : Int32) : OK2 (s_X6_change a b c) (s_X7_change a b r) := by
  unfold s_X6_change s_X7_change
  refine ok2_pair h a b (fun x hx => if_neg hx) (fun x hx => if_neg hx) (fun p q p1 q1 e ha hb => ?_)
  subst ha hb
  rw [if_pos rfl, if_pos rfl]
  obtain ⟨c', x1, x2, x3⟩ := swp_C h.2.1 h.1 p1 q1
  obtain ⟨r', y1, y2, y3⟩ := swp_R h.2.2.1 h.1 p1 q1
  rw [x1, y1, zr_some, zr_some]
  have f1 : fr mI sL c c' := fr_mono x3 (fun c j k w => by
    by_cases e : c = 3 ∧ j = 0
    · rw [e.1, e.2] at w; cases w
    · by_cases e1 : c = 3
      · rw [beqf (fun z => e ⟨e1, z⟩), Bool.and_false]
      · rw [beqf e1]; rfl) (fun _ _ _ _ => rfl)
  have f2 : fr mR rL r r' := fr_mono y3 (fun c j k w => by
    by_cases e : c = 68
    · rw [e] at w
      unfold mR at w
      simp at w
    · exact beqf e) (fun _ _ _ _ => rfl)
  refine ⟨_, _, _, _, rfl, rfl, Rel_tab f1 f2 h (swp_ok h.1 p1 q1) x2 y2 (cntQ_fr x3 y3 (fun _ _ => rfl) ⟨rfl, rfl, rfl⟩ h.2.2.2.1) (Nat.le_refl _)⟩
end W3
