/-! SETS AT ONCE in the order of the search: each pair taken ahead of being left -/
def lpP (cf : zPr → zPr → Bool) : List zPr → (zPr → Bool) → List (List zPr)
  | [], _ => []
  | x :: L, o => (bif o x then ([] :: lpP cf L (fun y => o y && !cf x y)).map (fun t => x :: t) else []) ++ lpP cf L o
theorem lpP_cons (cf : zPr → zPr → Bool) (x : zPr) (L : List zPr) (o : zPr → Bool) : lpP cf (x :: L) o = (bif o x then ([] :: lpP cf L (fun y => o y && !cf x y)).map (fun t => x :: t) else []) ++ lpP cf L o := rfl
theorem lpP_congr {cf : zPr → zPr → Bool} : ∀ {L : List zPr} {o o' : zPr → Bool}, (∀ y, y ∈ L → o y = o' y) → lpP cf L o = lpP cf L o'
  | [], _, _, _ => rfl
  | x :: L, o, o', h => by
    rw [lpP_cons, lpP_cons, h x List.mem_cons_self, lpP_congr (o := o) (o' := o') (fun y hy => h y (List.mem_cons_of_mem _ hy)), lpP_congr (o := fun y => o y && !cf x y) (o' := fun y => o' y && !cf x y) (fun y hy => by rw [h y (List.mem_cons_of_mem _ hy)])]
theorem lpP_filter {cf : zPr → zPr → Bool} (f : zPr → Bool) : ∀ {L : List zPr} {o : zPr → Bool}, lpP cf (L.filter f) o = lpP cf L (fun y => f y && o y)
  | [], _ => rfl
  | x :: L, o => by
    rw [lpP_cons, ← lpP_filter f (L := L) (o := o), List.filter_cons]
    cases hf : f x with
    | false => simp
    | true =>
      rw [if_pos rfl, lpP_cons, Bool.true_and, lpP_filter f (L := L) (o := fun y => o y && !cf x y)]
      refine congrArg (· ++ _) ?_
      rw [lpP_congr (o := fun y => f y && (o y && !cf x y)) (o' := fun y => f y && o y && !cf x y) (fun y _ => (Bool.and_assoc _ _ _).symm)]
theorem lpP_ne {cf : zPr → zPr → Bool} : ∀ {L : List zPr} {o : zPr → Bool} {t : List zPr}, t ∈ lpP cf L o → t ≠ []
  | [], _, _, h => by simp [lpP] at h
  | x :: L, o, t, h => by
    rw [lpP_cons, List.mem_append] at h
    rcases h with h | h
    · cases ho : o x with
      | false => rw [ho] at h; simp at h
      | true =>
        rw [ho] at h
        obtain ⟨u, -, e⟩ := List.mem_map.mp h
        rw [← e]; exact List.cons_ne_nil _ _
    · exact lpP_ne h
theorem bcnt_rem {p : Nat → Bool} {a : Nat} : ∀ {n : Nat}, a < n → p a = true → bcnt (fun i => p i && decide (i ≠ a)) n + 1 = bcnt p n
  | 0, h, _ => absurd h (Nat.not_lt_zero _)
  | n + 1, h, hp => by
    rw [bcnt_succ, bcnt_succ]
    by_cases e : a = n
    · subst e
      rw [bcnt_congr (p := fun i => p i && decide (i ≠ a)) (q := p) a (fun i hi => by rw [decide_eq_true (show i ≠ a by omega), Bool.and_true]), hp]
      simp
    · have := bcnt_rem (n := n) (p := p) (a := a) (by omega) hp
      have e2 : (p n && decide (n ≠ a)) = p n := by rw [decide_eq_true (Ne.symm e), Bool.and_true]
      simp only [e2]
      omega
theorem bcnt_imp {p q : Nat → Bool} : ∀ n, (∀ i, i < n → p i = true → q i = true) → bcnt p n ≤ bcnt q n
  | 0, _ => Nat.le_refl _
  | n + 1, h => by
    have h1 := bcnt_imp n (fun i hi => h i (by omega))
    have h2 := h n (by omega)
    rw [bcnt_succ, bcnt_succ]
    cases hp : p n with
    | false => cases q n <;> simp <;> omega
    | true => rw [h2 hp]; simp; omega
theorem bcnt_rem2 {p : Nat → Bool} {a b n : Nat} (ha : a < n) (hb : b < n) (hab : a ≠ b) (h1 : p a = true) (h2 : p b = true) : bcnt (fun i => p i && decide (i ≠ a) && decide (i ≠ b)) n + 2 = bcnt p n := by
  have e1 := bcnt_rem ha h1
  have e2 := bcnt_rem (p := fun i => p i && decide (i ≠ a)) hb (by rw [h2, decide_eq_true (Ne.symm hab)]; rfl)
  omega
/-- no more than half the guests that are free -/
theorem lpP_room {cf : zPr → zPr → Bool} (hcf : ∀ x y, shr x y = true → cf x y = true) : ∀ {L : List zPr} {o : zPr → Bool} {F : Nat → Bool} {t : List zPr}, (∀ x, x ∈ L → o x = true → x.1 < x.2 ∧ x.2 < 10 ∧ F x.1 = true ∧ F x.2 = true) → t ∈ lpP cf L o → 2 * t.length ≤ bcnt F 10
  | [], _, _, _, _, h => by simp [lpP] at h
  | x :: L, o, F, t, hF, h => by
    rw [lpP_cons, List.mem_append] at h
    rcases h with h | h
    · cases ho : o x with
      | false => rw [ho] at h; simp at h
      | true =>
        rw [ho] at h
        obtain ⟨u, hu, e⟩ := List.mem_map.mp h
        obtain ⟨a1, a2, a3, a4⟩ := hF x List.mem_cons_self ho
        have hr := bcnt_rem2 (p := F) (n := 10) (a := x.1) (b := x.2) (by omega) a2 (by omega) a3 a4
        rw [← e, List.length_cons]
        rcases List.mem_cons.mp hu with rfl | hu
        · simp; omega
        · have := lpP_room hcf (F := fun i => F i && decide (i ≠ x.1) && decide (i ≠ x.2)) (fun y hy hoy => by
            simp only [Bool.and_eq_true, Bool.not_eq_true'] at hoy
            obtain ⟨b1, b2, b3, b4⟩ := hF y (List.mem_cons_of_mem _ hy) hoy.1
            have hs : shr x y = false := by
              cases hs : shr x y with
              | false => rfl
              | true => rw [hcf x y hs] at hoy; cases hoy.2
            obtain ⟨s1, s2, s3, s4⟩ := shr_f hs
            refine ⟨b1, b2, ?_, ?_⟩
            · show (F y.1 && decide (y.1 ≠ x.1) && decide (y.1 ≠ x.2)) = true
              rw [b3, decide_eq_true (Ne.symm s1), decide_eq_true (Ne.symm s3)]; rfl
            · show (F y.2 && decide (y.2 ≠ x.1) && decide (y.2 ≠ x.2)) = true
              rw [b4, decide_eq_true (Ne.symm s2), decide_eq_true (Ne.symm s4)]; rfl) hu
          omega
    · exact lpP_room hcf (fun y hy hoy => hF y (List.mem_cons_of_mem _ hy) hoy) h
/-- the first of the greatest, kept in one; and how many there are -/
def upC (b : Nat × List zPr) (t : List zPr) : Nat × List zPr := if b.1 < t.length then (t.length, t) else b
def up3 (b : Nat × Nat × List zPr) (t : List zPr) : Nat × Nat × List zPr := if b.1 < t.length then (t.length, 1, t) else if t.length = b.1 then (b.1, b.2.1 + 1, b.2.2) else b
theorem upC_small : ∀ (S : List (List zPr)) (b : Nat × List zPr), (∀ t, t ∈ S → t.length ≤ b.1) → S.foldl upC b = b
  | [], _, _ => rfl
  | t :: S, b, h => by
    rw [List.foldl_cons, show upC b t = b from if_neg (by have := h t List.mem_cons_self; omega)]
    exact upC_small S b (fun t ht => h t (List.mem_cons_of_mem _ ht))
theorem up3_C : ∀ (S : List (List zPr)) (k w : Nat) (s : List zPr), ((S.foldl up3 (k, w, s)).1, (S.foldl up3 (k, w, s)).2.2) = S.foldl upC (k, s)
  | [], _, _, _ => rfl
  | t :: S, k, w, s => by
    rw [List.foldl_cons, List.foldl_cons]
    by_cases h : k < t.length
    · rw [show up3 (k, w, s) t = (t.length, 1, t) from if_pos h, show upC (k, s) t = (t.length, t) from if_pos h]
      exact up3_C S _ _ _
    · rw [show upC (k, s) t = (k, s) from if_neg h]
      by_cases h2 : t.length = k
      · rw [show up3 (k, w, s) t = (k, w + 1, s) from by unfold up3; rw [if_neg h, if_pos h2]]
        exact up3_C S _ _ _
      · rw [show up3 (k, w, s) t = (k, w, s) from by unfold up3; rw [if_neg h, if_neg h2]]
        exact up3_C S _ _ _
theorem upC_ge : ∀ (S : List (List zPr)) (b : Nat × List zPr), b.1 ≤ (S.foldl upC b).1 ∧ ∀ t, t ∈ S → t.length ≤ (S.foldl upC b).1
  | [], _ => ⟨Nat.le_refl _, fun _ h => nomatch h⟩
  | t :: S, b => by
    rw [List.foldl_cons]
    obtain ⟨h1, h2⟩ := upC_ge S (upC b t)
    have h3 : b.1 ≤ (upC b t).1 ∧ t.length ≤ (upC b t).1 := by
      unfold upC
      split
      · exact ⟨by show b.1 ≤ t.length; omega, Nat.le_refl _⟩
      · exact ⟨Nat.le_refl _, by omega⟩
    refine ⟨by omega, fun u hu => ?_⟩
    rcases List.mem_cons.mp hu with rfl | hu
    · omega
    · exact h2 u hu
theorem upC_in : ∀ (S : List (List zPr)) (b : Nat × List zPr), S.foldl upC b = b ∨ ∃ t, t ∈ S ∧ S.foldl upC b = (t.length, t)
  | [], _ => Or.inl rfl
  | t :: S, b => by
    rw [List.foldl_cons]
    rcases upC_in S (upC b t) with h | ⟨u, hu, e⟩
    · rw [h]
      unfold upC
      split
      · exact Or.inr ⟨t, List.mem_cons_self, rfl⟩
      · exact Or.inl rfl
    · exact Or.inr ⟨u, List.mem_cons_of_mem _ hu, e⟩
theorem up3_ways : ∀ (S : List (List zPr)) (k w : Nat) (s : List zPr), (S.foldl up3 (k, w, s)).2.1 = (if (S.foldl upC (k, s)).1 = k then w else 0) + S.countP (fun t => decide (t.length = (S.foldl upC (k, s)).1))
  | [], k, w, s => by simp
  | t :: S, k, w, s => by
    have hge := upC_ge S (upC (k, s) t)
    rw [List.foldl_cons, List.foldl_cons, List.countP_cons]
    by_cases h : k < t.length
    · have e1 : upC (k, s) t = (t.length, t) := if_pos h
      rw [show up3 (k, w, s) t = (t.length, 1, t) from if_pos h, up3_ways S, e1]
      rw [e1] at hge
      have hge1 := hge.1
      simp only at hge1
      generalize (S.foldl upC (t.length, t)).1 = K at hge1 ⊢
      rw [if_neg (show ¬ K = k by omega)]
      by_cases q : K = t.length
      · simp [q]; omega
      · rw [if_neg q, decide_eq_false (fun z => q z.symm)]; simp
    · have e1 : upC (k, s) t = (k, s) := if_neg h
      rw [e1]
      rw [e1] at hge
      have hge1 := hge.1
      simp only at hge1
      by_cases h2 : t.length = k
      · rw [show up3 (k, w, s) t = (k, w + 1, s) from by unfold up3; rw [if_neg h, if_pos h2], up3_ways S]
        generalize (S.foldl upC (k, s)).1 = K at hge1 ⊢
        by_cases q : K = k
        · rw [if_pos q, if_pos q, decide_eq_true (by omega)]; simp; omega
        · rw [if_neg q, if_neg q, decide_eq_false (by omega)]; simp
      · rw [show up3 (k, w, s) t = (k, w, s) from by unfold up3; rw [if_neg h, if_neg h2], up3_ways S]
        generalize (S.foldl upC (k, s)).1 = K at hge1 ⊢
        rw [decide_eq_false (show ¬ t.length = K by omega)]; simp
