/-! PAIR LISTS: rows and prefixes of the pairs p < q < n that w holds of, in order -/
abbrev zPr : Type := Nat × Nat
def rowL (w : Nat → Nat → Bool) (p : Nat) : Nat → List zPr
  | 0 => []
  | q + 1 => rowL w p q ++ (bif decide (p < q) && w p q then [(p, q)] else [])
def pLr (w : Nat → Nat → Bool) (n : Nat) : Nat → List zPr
  | 0 => []
  | p + 1 => pLr w n p ++ rowL w p n
theorem rowL_succ (w : Nat → Nat → Bool) (p q : Nat) : rowL w p (q + 1) = rowL w p q ++ (bif decide (p < q) && w p q then [(p, q)] else []) := rfl
theorem pLr_succ (w : Nat → Nat → Bool) (n p : Nat) : pLr w n (p + 1) = pLr w n p ++ rowL w p n := rfl
theorem rowL_nil (w : Nat → Nat → Bool) (p : Nat) : ∀ q, q ≤ p + 1 → rowL w p q = []
  | 0, _ => rfl
  | q + 1, h => by rw [rowL_succ, rowL_nil w p q (by omega), decide_eq_false (by omega)]; rfl
theorem rowL_mem {w : Nat → Nat → Bool} {p : Nat} {x : zPr} : ∀ {q : Nat}, x ∈ rowL w p q → x.1 = p ∧ p < x.2 ∧ x.2 < q ∧ w x.1 x.2 = true
  | 0, h => by simp [rowL] at h
  | q + 1, h => by
    rw [rowL_succ, List.mem_append] at h
    rcases h with h | h
    · obtain ⟨a, b, c, d⟩ := rowL_mem h
      exact ⟨a, b, by omega, d⟩
    · cases hc : (decide (p < q) && w p q) with
      | false => rw [hc] at h; simp at h
      | true =>
        rw [hc] at h
        rw [Bool.and_eq_true, decide_eq_true_eq] at hc
        simp at h
        subst h
        exact ⟨rfl, hc.1, Nat.lt_succ_self _, hc.2⟩
theorem rowL_len (w : Nat → Nat → Bool) (p : Nat) : ∀ q, (rowL w p q).length ≤ q - (p + 1)
  | 0 => Nat.zero_le _
  | q + 1 => by
    have h := rowL_len w p q
    rw [rowL_succ, List.length_append]
    by_cases hq : p < q
    · cases w p q <;> simp [hq] <;> omega
    · rw [decide_eq_false hq]; simp; omega
theorem rowL_filter (w f : Nat → Nat → Bool) (p : Nat) : ∀ q, (rowL w p q).filter (fun x => f x.1 x.2) = rowL (fun a b => w a b && f a b) p q
  | 0 => rfl
  | q + 1 => by
    rw [rowL_succ, rowL_succ, List.filter_append, rowL_filter w f p q]
    refine congrArg _ ?_
    by_cases hq : p < q <;> cases w p q <;> cases hf : f p q <;> simp [hq, hf]
theorem rowL_congr {w v : Nat → Nat → Bool} {p : Nat} : ∀ q, (∀ h, p < h → h < q → w p h = v p h) → rowL w p q = rowL v p q
  | 0, _ => rfl
  | q + 1, hh => by
    rw [rowL_succ, rowL_succ, rowL_congr q (fun h a b => hh h a (by omega))]
    by_cases hq : p < q
    · rw [hh q hq (by omega)]
    · rw [decide_eq_false hq]; rfl
theorem pLr_mem {w : Nat → Nat → Bool} {n : Nat} {x : zPr} : ∀ {p : Nat}, x ∈ pLr w n p → x.1 < p ∧ x.1 < x.2 ∧ x.2 < n ∧ w x.1 x.2 = true
  | 0, h => by simp [pLr] at h
  | p + 1, h => by
    rw [pLr_succ, List.mem_append] at h
    rcases h with h | h
    · obtain ⟨a, b, c, d⟩ := pLr_mem h
      exact ⟨by omega, b, c, d⟩
    · obtain ⟨a, b, c, d⟩ := rowL_mem h
      exact ⟨by omega, by omega, c, d⟩
theorem rowL_mem' {w : Nat → Nat → Bool} {p h : Nat} : ∀ {q : Nat}, p < h → h < q → w p h = true → (p, h) ∈ rowL w p q
  | 0, _, hq, _ => absurd hq (Nat.not_lt_zero _)
  | q + 1, hp, hq, hw => by
    rw [rowL_succ, List.mem_append]
    by_cases e : h = q
    · subst e; right; rw [hw, decide_eq_true hp]; simp
    · exact Or.inl (rowL_mem' hp (by omega) hw)
theorem pLr_mem' {w : Nat → Nat → Bool} {n g h : Nat} : ∀ {p : Nat}, g < p → g < h → h < n → w g h = true → (g, h) ∈ pLr w n p
  | 0, hg, _, _, _ => absurd hg (Nat.not_lt_zero _)
  | p + 1, hg, hh, hn, hw => by
    rw [pLr_succ, List.mem_append]
    by_cases e : g = p
    · subst e; exact Or.inr (rowL_mem' hh hn hw)
    · exact Or.inl (pLr_mem' (by omega) hh hn hw)
def tri (n : Nat) : Nat → Nat
  | 0 => 0
  | p + 1 => tri n p + (n - (p + 1))
theorem tri_45 : ∀ n, n ≤ 10 → ∀ p, p ≤ n → tri n p ≤ 45 := by decide
theorem pLr_len (w : Nat → Nat → Bool) (n : Nat) : ∀ p, (pLr w n p).length ≤ tri n p
  | 0 => Nat.le_refl _
  | p + 1 => by
    have h := pLr_len w n p
    have h2 := rowL_len w p n
    rw [pLr_succ, List.length_append, tri]; omega
theorem pLr_filter (w f : Nat → Nat → Bool) (n : Nat) : ∀ p, (pLr w n p).filter (fun x => f x.1 x.2) = pLr (fun a b => w a b && f a b) n p
  | 0 => rfl
  | p + 1 => by rw [pLr_succ, pLr_succ, List.filter_append, pLr_filter w f n p, rowL_filter]
theorem pLr_congr {w v : Nat → Nat → Bool} {n : Nat} : ∀ p, (∀ g h, g < p → g < h → h < n → w g h = v g h) → pLr w n p = pLr v n p
  | 0, _ => rfl
  | p + 1, hh => by rw [pLr_succ, pLr_succ, pLr_congr p (fun g h a => hh g h (by omega)), rowL_congr n (fun h a b => hh p h (by omega) a b)]
/-- sorted by the lesser, all different -/
theorem rowL_sorted (w : Nat → Nat → Bool) (p : Nat) : ∀ q, (rowL w p q).Pairwise (fun x y => x.1 ≤ y.1 ∧ x ≠ y)
  | 0 => List.Pairwise.nil
  | q + 1 => by
    rw [rowL_succ, List.pairwise_append]
    refine ⟨rowL_sorted w p q, ?_, ?_⟩
    · cases (decide (p < q) && w p q) <;> simp
    · intro a ha b hb
      obtain ⟨h1, h2, h3, h4⟩ := rowL_mem ha
      cases hc : (decide (p < q) && w p q) with
      | false => rw [hc] at hb; simp at hb
      | true =>
        rw [hc] at hb
        simp at hb
        subst hb
        refine ⟨by omega, ?_⟩
        intro e
        rw [e] at h3
        exact Nat.lt_irrefl _ h3
theorem pLr_sorted (w : Nat → Nat → Bool) (n : Nat) : ∀ p, (pLr w n p).Pairwise (fun x y => x.1 ≤ y.1 ∧ x ≠ y)
  | 0 => List.Pairwise.nil
  | p + 1 => by
    rw [pLr_succ, List.pairwise_append]
    refine ⟨pLr_sorted w n p, rowL_sorted w p n, ?_⟩
    intro a ha b hb
    obtain ⟨h1, h2, h3, h4⟩ := pLr_mem ha
    obtain ⟨j1, j2, j3, j4⟩ := rowL_mem hb
    refine ⟨by omega, ?_⟩
    intro e
    rw [e] at h1
    omega
/-- the WANTED pairs of a table -/
def pLs (T : zTab) : List zPr := pLr (wntT T) (tn T) (tn T)
theorem pLs_45 {T : zTab} (hO : tOK T) : (pLs T).length ≤ 45 := Nat.le_trans (pLr_len _ _ _) (tri_45 _ hO.1 _ (Nat.le_refl _))
theorem pLr_mono (w : Nat → Nat → Bool) (n p : Nat) : ∀ d, (pLr w n p).length ≤ (pLr w n (p + d)).length
  | 0 => Nat.le_refl _
  | d + 1 => by rw [← Nat.add_assoc, pLr_succ, List.length_append]; have := pLr_mono w n p d; omega
theorem pLr_45 (w : Nat → Nat → Bool) {n p : Nat} (hn : n ≤ 10) (hp : p ≤ n) : (pLr w n p).length ≤ 45 := Nat.le_trans (pLr_len w n p) (tri_45 n hn p hp)
theorem rowL_mono (w : Nat → Nat → Bool) (p q : Nat) : ∀ d, (rowL w p q).length ≤ (rowL w p (q + d)).length
  | 0 => Nat.le_refl _
  | d + 1 => by rw [← Nat.add_assoc, rowL_succ, List.length_append]; have := rowL_mono w p q d; omega
/-- room for one more while a pair is being added -/
theorem pLr_44 (w : Nat → Nat → Bool) {n p q : Nat} (hn : n ≤ 10) (hp : p < n) (hpq : p < q) (hq : q < n) (hw : w p q = true) : (pLr w n p ++ rowL w p q).length < 45 := by
  have h := pLr_45 w hn (show p + 1 ≤ n by omega)
  have h2 := rowL_mono w p (q + 1) (n - (q + 1))
  rw [show q + 1 + (n - (q + 1)) = n by omega, rowL_succ, List.length_append, hw, decide_eq_true hpq] at h2
  rw [pLr_succ, List.length_append] at h
  rw [List.length_append]
  simp at h2
  omega
/-- two pairs that can't be AT ONCE; that CROSS -/
def shr (a b : zPr) : Bool := decide (a.1 = b.1) || (decide (a.1 = b.2) || (decide (a.2 = b.1) || decide (a.2 = b.2)))
def crP (T : zTab) (a b : zPr) : Bool := !shr a b && crsT T a.1 a.2 b.1 b.2
def cfP (T : zTab) (a b : zPr) : Bool := shr a b || crsT T a.1 a.2 b.1 b.2
def pa (L : List zPr) (i : Nat) : zPr := L.getD i (0, 0)
theorem pa_mem {L : List zPr} {i : Nat} (h : i < L.length) : pa L i ∈ L := by
  unfold pa
  rw [List.getD_eq_getElem?_getD, List.getElem?_eq_getElem h]
  exact List.getElem_mem h
theorem pa_snoc (L : List zPr) (x : zPr) : pa (L ++ [x]) L.length = x := by
  unfold pa; simp
theorem pa_app {L : List zPr} (M : List zPr) {i : Nat} (h : i < L.length) : pa (L ++ M) i = pa L i := by
  unfold pa
  rw [List.getD_eq_getElem?_getD, List.getD_eq_getElem?_getD, List.getElem?_append_left h]
theorem pa_drop {L : List zPr} {i : Nat} (h : i < L.length) : L.drop i = pa L i :: L.drop (i + 1) := by
  unfold pa
  rw [List.getD_eq_getElem?_getD, List.getElem?_eq_getElem h]
  exact List.drop_eq_getElem_cons h
theorem pLs_pa {T : zTab} {i : Nat} (h : i < (pLs T).length) : (pa (pLs T) i).1 < (pa (pLs T) i).2 ∧ (pa (pLs T) i).2 < tn T := by
  obtain ⟨a, b, c, d⟩ := pLr_mem (pa_mem h)
  exact ⟨b, c⟩
