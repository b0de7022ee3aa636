/-! FRAMES: two memories that are the same but for told cells -/
abbrev zEx : Type := Nat → Nat → Nat → Bool
def fr (f g : zEx) (m m' : zMem) : Prop := (∀ c j k, f c j k = false → m'.1 c j k = m.1 c j k) ∧ (∀ c j k, g c j k = false → m'.2 c j k = m.2 c j k)
def e0 : zEx := fun _ _ _ => false
theorem fr_refl (f g : zEx) (m : zMem) : fr f g m m := ⟨fun _ _ _ _ => rfl, fun _ _ _ _ => rfl⟩
theorem fr_trans {f g : zEx} {m m1 m2 : zMem} (h1 : fr f g m m1) (h2 : fr f g m1 m2) : fr f g m m2 := ⟨fun c j k h => (h2.1 c j k h).trans (h1.1 c j k h), fun c j k h => (h2.2 c j k h).trans (h1.2 c j k h)⟩
theorem fr_mono {f g f' g' : zEx} {m m1 : zMem} (h : fr f g m m1) (hf : ∀ c j k, f' c j k = false → f c j k = false) (hg : ∀ c j k, g' c j k = false → g c j k = false) : fr f' g' m m1 := ⟨fun c j k q => h.1 c j k (hf c j k q), fun c j k q => h.2 c j k (hg c j k q)⟩
theorem fr_wI {f g : zEx} {m m1 : zMem} {c j k : Nat} {x : Int32} (h : fr f g m m1) (hf : f c j k = true) : fr f g m (wI m1 c j k x) := by
  refine fr_trans h ⟨fun c' j' k' q => ?_, fun c' j' k' q => rfl⟩
  rw [wI_1]
  split
  · rename_i e
    obtain ⟨rfl, rfl, rfl⟩ := e
    rw [hf] at q; cases q
  · rfl
theorem fr_wL {f g : zEx} {m m1 : zMem} {c j k : Nat} {x : Int64} (h : fr f g m m1) (hg : g c j k = true) : fr f g m (wL m1 c j k x) := by
  refine fr_trans h ⟨fun c' j' k' q => rfl, fun c' j' k' q => ?_⟩
  rw [wL_2]
  split
  · rename_i e
    obtain ⟨rfl, rfl, rfl⟩ := e
    rw [hg] at q; cases q
  · rfl
theorem tR_fr {f g : zEx} {m m' : zMem} {T : zTab} (h : fr f g m m') (h1 : f 64 0 0 = false) (h2 : f 64 0 1 = false) (h3 : f 64 0 2 = false) (h4 : ∀ k, f 66 0 k = false ∧ f 67 0 k = false ∧ f 68 0 k = false ∧ f 69 0 k = false ∧ f 70 0 k = false) (hT : tR T m) : tR T m' := by
  obtain ⟨a, b, c, d⟩ := hT
  refine ⟨(h.1 _ _ _ h1).trans a, (h.1 _ _ _ h2).trans b, (h.1 _ _ _ h3).trans c, fun q hq => ?_⟩
  obtain ⟨d1, d2, d3, d4, d5⟩ := d q hq
  obtain ⟨k1, k2, k3, k4, k5⟩ := h4 q
  exact ⟨(h.1 _ _ _ k1).trans d1, (h.1 _ _ _ k3).trans d2, (h.1 _ _ _ k2).trans d3, (h.1 _ _ _ k4).trans d4, (h.1 _ _ _ k5).trans d5⟩
theorem tC_fr {f g : zEx} {m m' : zMem} {T : zTab} {t : Nat} (h : fr f g m m') (h1 : ∀ k, f 1 t k = false ∧ f 2 t k = false ∧ f 3 t k = false ∧ f 4 t k = false ∧ f 5 t k = false ∧ f 6 t k = false) (hT : tC t T m) : tC t T m' := by
  obtain ⟨a, b, c, d⟩ := hT
  refine ⟨(h.1 _ _ _ (h1 6).1).trans a, (h.1 _ _ _ (h1 5).1).trans b, (h.1 _ _ _ (h1 7).1).trans c, fun q hq => ?_⟩
  obtain ⟨d1, d2, d3, d4, d5⟩ := d q hq
  obtain ⟨-, k1, k2, k3, k4, k5⟩ := h1 q
  exact ⟨(h.1 _ _ _ k1).trans d1, (h.1 _ _ _ k2).trans d2, (h.1 _ _ _ k3).trans d3, (h.1 _ _ _ k4).trans d4, (h.1 _ _ _ k5).trans d5⟩
/-! CROSSING is symmetric -/
theorem bne_dec {P Q R S : Prop} [Decidable P] [Decidable Q] [Decidable R] [Decidable S] (h : (P ↔ Q) ↔ (R ↔ S)) : (decide P != decide Q) = (decide R != decide S) := by
  by_cases p : P <;> by_cases q : Q <;> by_cases r : R <;> by_cases s : S <;> simp [p, q, r, s] at h ⊢
theorem btw_sym {a b c d : Nat} (h1 : a ≠ b) (h2 : a ≠ c) (h3 : a ≠ d) (h4 : b ≠ c) (h5 : b ≠ d) (h6 : c ≠ d) : ((decide (min a b < c) && decide (c < max a b)) != (decide (min a b < d) && decide (d < max a b))) = ((decide (min c d < a) && decide (a < max c d)) != (decide (min c d < b) && decide (b < max c d))) := by
  rw [← Bool.decide_and, ← Bool.decide_and, ← Bool.decide_and, ← Bool.decide_and]
  refine bne_dec ?_
  omega
theorem crsT_sym {T : zTab} (hO : tOK T) {p q r t : Nat} (hp : p < tn T) (hq : q < tn T) (hr : r < tn T) (ht : t < tn T) (h1 : p ≠ q) (h2 : p ≠ r) (h3 : p ≠ t) (h4 : q ≠ r) (h5 : q ≠ t) (h6 : r ≠ t) : crsT T p q r t = crsT T r t p q := by
  have hi := hO.2.2.2.2.2.2.2
  unfold crsT
  rw [Bool.or_comm (hasT T p q 6), Bool.and_comm (hasT T p q 4)]
  refine congrArg _ (congrArg _ ?_)
  unfold btwT
  exact btw_sym (fun e => h1 (hi _ _ hp hq e)) (fun e => h2 (hi _ _ hp hr e)) (fun e => h3 (hi _ _ hp ht e)) (fun e => h4 (hi _ _ hq hr e)) (fun e => h5 (hi _ _ hq ht e)) (fun e => h6 (hi _ _ hr ht e))
theorem shr_sym (a b : zPr) : shr a b = shr b a := by
  unfold shr
  rw [Bool.eq_iff_iff]
  simp only [Bool.or_eq_true, decide_eq_true_eq]
  omega
theorem shr_f {a b : zPr} (h : shr a b = false) : a.1 ≠ b.1 ∧ a.1 ≠ b.2 ∧ a.2 ≠ b.1 ∧ a.2 ≠ b.2 := by
  unfold shr at h
  simp only [Bool.or_eq_false_iff, decide_eq_false_iff_not] at h
  exact h
/-- a pair of a table -/
def isP (T : zTab) (a : zPr) : Prop := a.1 < a.2 ∧ a.2 < tn T
theorem cfP_sym {T : zTab} (hO : tOK T) {a b : zPr} (ha : isP T a) (hb : isP T b) : cfP T a b = cfP T b a := by
  unfold cfP
  rw [shr_sym b a]
  cases hs : shr a b with
  | true => rfl
  | false =>
    obtain ⟨h1, h2, h3, h4⟩ := shr_f hs
    obtain ⟨a1, a2⟩ := ha
    obtain ⟨b1, b2⟩ := hb
    rw [Bool.false_or, Bool.false_or, crsT_sym hO (by omega) (by omega) (by omega) (by omega) (by omega) h1 h2 h3 h4 (by omega)]
theorem crP_sym {T : zTab} (hO : tOK T) {a b : zPr} (ha : isP T a) (hb : isP T b) : crP T a b = crP T b a := by
  unfold crP
  rw [shr_sym b a]
  cases hs : shr a b with
  | true => rfl
  | false =>
    obtain ⟨h1, h2, h3, h4⟩ := shr_f hs
    obtain ⟨a1, a2⟩ := ha
    obtain ⟨b1, b2⟩ := hb
    rw [crsT_sym hO (by omega) (by omega) (by omega) (by omega) (by omega) h1 h2 h3 h4 (by omega)]
theorem isP_pa {T : zTab} {i : Nat} (h : i < (pLs T).length) : isP T (pa (pLs T) i) := pLs_pa h
/-! the reference's LISTS -/
def lR (L : List zPr) (m : zMem) : Prop := m.1 64 0 30 = zi L.length ∧ ∀ i, i < L.length → m.1 81 0 i = zi (pa L i).1 ∧ m.1 82 0 i = zi (pa L i).2
def eL : zEx := fun c _ k => Nat.beq c 81 || (Nat.beq c 82 || (Nat.beq c 64 && Nat.beq k 30))
theorem tR_eL {g : zEx} {m m' : zMem} {T : zTab} (h : fr eL g m m') (hT : tR T m) : tR T m' := tR_fr h rfl rfl rfl (fun _ => ⟨rfl, rfl, rfl, rfl, rfl⟩) hT
section LS
variable {T : zTab} {m0 : zMem}
theorem lists_in (hO : tOK T) {p : Nat} (hp : p < tn T) {k7 : Int32 → zMem → Option (Int32 × zMem)}
    (hk : ∀ m', lR (pLr (wntT T) (tn T) (p + 1)) m' → tR T m' → fr eL e0 m0 m' → ∃ m'', k7 (zi (p + 1 : Nat)) m' = some (zi (pLs T).length, m'') ∧ lR (pLs T) m'' ∧ fr eL e0 m0 m'') :
    ∀ (d kf q : Nat) (m : zMem), q + d = tn T → d < kf → p < q → lR (pLr (wntT T) (tn T) p ++ rowL (wntT T) p q) m → tR T m → fr eL e0 m0 m → ∃ m'', s_X7_lists_L19 k7 kf (zi p) (zi q) m = some (zi (pLs T).length, m'') ∧ lR (pLs T) m'' ∧ fr eL e0 m0 m'' := by
  have hn := hO.1
  intro d
  induction d with
  | zero =>
    intro kf q m hq hkf hpq hl hT hf
    obtain ⟨kf, rfl⟩ : ∃ z, kf = z + 1 := ⟨kf - 1, by omega⟩
    obtain rfl : q = tn T := by omega
    unfold s_X7_lists_L19
    rw [hT.1, if_pos (by rw [zi_len (by omega) (by omega)]; omega), ln_1, zi_addn]
    rw [← pLr_succ] at hl
    exact hk m hl hT hf
  | succ d ih =>
    intro kf q m hq hkf hpq hl hT hf
    obtain ⟨kf, rfl⟩ : ∃ z, kf = z + 1 := ⟨kf - 1, by omega⟩
    unfold s_X7_lists_L19 s_X7_lists_L69
    rw [hT.1, if_neg (by rw [zi_len (by omega) (by omega)]; omega), wnt_R hT hO hp (by omega), zr_some, zif0, ln_1, zi_addn]
    cases hw : wntT T p q with
    | false =>
      rw [cond_false]
      refine ih kf (q + 1) m (by omega) (by omega) (by omega) ?_ hT hf
      rw [rowL_succ, hw, Bool.and_false, cond_false, List.append_nil]
      exact hl
    | true =>
      rw [cond_true]
      have h44 := pLr_44 (wntT T) hn hp hpq (show q < tn T by omega) hw
      generalize hL : pLr (wntT T) (tn T) p ++ rowL (wntT T) p q = L at hl h44
      obtain ⟨l1, l2⟩ := hl
      have e : pLr (wntT T) (tn T) p ++ rowL (wntT T) p (q + 1) = L ++ [(p, q)] := by
        rw [rowL_succ, hw, decide_eq_true hpq, Bool.and_true, cond_true, ← List.append_assoc, hL]
      simp only [zlet_eq, wI_1, l1, chk_zn h44 (by decide), ix_zn (show L.length < 2147483648 by omega), zi_addn, Nat.reduceEqDiff, false_and, and_false, if_false, true_and, and_self, if_true]
      refine ih kf (q + 1) _ (by omega) (by omega) (by omega) ?_ ?_ ?_
      · rw [e]
        refine ⟨?_, fun i hi => ?_⟩
        · rw [wI_1, if_pos ⟨rfl, rfl, rfl⟩, List.length_append]; rfl
        · rw [List.length_append] at hi
          simp only [List.length_cons, List.length_nil] at hi
          by_cases hi2 : i = L.length
          · subst hi2
            rw [pa_snoc]
            simp [wI_1]
          · rw [pa_app _ (show i < L.length by omega)]
            obtain ⟨a, b⟩ := l2 i (by omega)
            simp [wI_1, hi2, a, b]
      · exact tR_eL (g := e0) (m := m) (fr_wI (fr_wI (fr_wI (fr_refl _ _ _) rfl) rfl) rfl) hT
      · exact fr_wI (fr_wI (fr_wI hf rfl) rfl) rfl
theorem lists_out (hO : tOK T) : ∀ (d kf p : Nat) (m : zMem), p + d = tn T → d < kf → lR (pLr (wntT T) (tn T) p) m → tR T m → fr eL e0 m0 m → ∃ m'', s_X7_lists_L7 kf (zi p) m = some (zi (pLs T).length, m'') ∧ lR (pLs T) m'' ∧ fr eL e0 m0 m'' := by
  have hn := hO.1
  intro d
  induction d with
  | zero =>
    intro kf p m hp hkf hl hT hf
    obtain ⟨kf, rfl⟩ : ∃ z, kf = z + 1 := ⟨kf - 1, by omega⟩
    obtain rfl : p = tn T := by omega
    unfold s_X7_lists_L7
    rw [hT.1, if_pos (by rw [zi_len (by omega) (by omega)]; omega), hl.1]
    exact ⟨m, rfl, hl, hf⟩
  | succ d ih =>
    intro kf p m hp hkf hl hT hf
    obtain ⟨kf, rfl⟩ : ∃ z, kf = z + 1 := ⟨kf - 1, by omega⟩
    unfold s_X7_lists_L7
    rw [hT.1, if_neg (by rw [zi_len (by omega) (by omega)]; omega), ln_1, zi_addn]
    refine lists_in hO (m0 := m0) (show p < tn T by omega) (fun m' a b c => ih kf (p + 1) m' (by omega) (by omega) a b c) (tn T - (p + 1)) zF (p + 1) m (by omega) (by unfold zF; omega) (by omega) ?_ hT hf
    rw [rowL_nil _ _ _ (Nat.le_refl _), List.append_nil]
    exact hl
theorem lists_R (hO : tOK T) {m : zMem} (hT : tR T m) : ∃ m', s_X7_lists m = some (zi (pLs T).length, m') ∧ lR (pLs T) m' ∧ fr eL e0 m m' := by
  have hn := hO.1
  unfold s_X7_lists
  rw [zlet_eq]
  refine lists_out hO (m0 := m) (tn T) zF 0 _ (by omega) (by unfold zF; omega) ⟨?_, fun i hi => absurd hi (Nat.not_lt_zero _)⟩ ?_ (fr_wI (fr_refl _ _ _) rfl)
  · rw [wI_1, if_pos ⟨rfl, rfl, rfl⟩]; rfl
  · exact tR_eL (g := e0) (m := m) (fr_wI (fr_refl _ _ _) rfl) hT
end LS
