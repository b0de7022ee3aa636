/-! OPS: layers -/
section Z7
variable {T : zTab} {c r : zMem} {L : List zPr}
def hit (T : zTab) (L : List zPr) (f : Nat → Nat) (p l j : Nat) : Bool := decide (f j = l) && crP T (pa L p) (pa L j)
theorem ifz {α : Type} {x y : Nat} (hx : x < 100) (hy : y < 100) (A B : α) : (if zi (x : Nat) = zi (y : Nat) then A else B) = bif decide (x = y) then A else B := by
  rw [if_zi hx hy]
  by_cases e : x = y
  · rw [if_pos e, decide_eq_true e]; rfl
  · rw [if_neg e, decide_eq_false e]; rfl
theorem shared_R (hn : tn T ≤ 10) (hL : pOK T L) (hl : lR L r) {i j : Nat} (hi : i < L.length) (hj : j < L.length) : s_X7_isShared (zi i) (zi j) r = some (zo (shr (pa L i) (pa L j))) := by
  have h45 := hL.1
  obtain ⟨a1, a2⟩ := hL.2.2 i hi
  obtain ⟨b1, b2⟩ := hL.2.2 j hj
  unfold s_X7_isShared s_X7_isShared_L60
  rw [chk45 (by omega), chk45 (by omega), ix45 (by omega), ix45 (by omega), (hl.2 i hi).1, (hl.2 i hi).2, (hl.2 j hj).1, (hl.2 j hj).2, ifz (by omega) (by omega), ifz (by omega) (by omega), ifz (by omega) (by omega), ifz (by omega) (by omega)]
  unfold shr
  cases decide ((pa L i).1 = (pa L j).1) <;> cases decide ((pa L i).1 = (pa L j).2) <;> cases decide ((pa L i).2 = (pa L j).1) <;> cases decide ((pa L i).2 = (pa L j).2) <;> rfl
theorem hit_loop (hO : tOK T) (hL : pOK T L) (hT : tR T r) (hl : lR L r) {f : Nat → Nat} {p l : Nat} (hp : p < L.length) (hf : ∀ j, j < p → r.1 87 0 j = zi (f j) ∧ f j < 46) (hl46 : l < 46) {k9 : Int32 → Int32 → Int32 → zMem → Option (Int32 × zMem)} {k20 : Int32 → Int32 → Int32 → Int32 → Int32 → zMem → Option (Int32 × zMem)} {x1 x2 : Int32} : ∀ (d kf j : Nat), j + d = p → d < kf → ∃ b : Bool, s_X7_layers_L31 k9 k20 kf x1 x2 (zi p) (zi l) 1 (zi j) r = s_X7_layers_L110 k9 k20 x1 x2 (zi p) (zi l) (zo b) r ∧ (b = true ↔ ∀ i, j ≤ i → i < p → hit T L f p l i = false) := by
  have h45 := hL.1
  have hn := hO.1
  intro d
  induction d with
  | zero =>
    intro kf j hj hkf
    obtain ⟨kf, rfl⟩ : ∃ z, kf = z + 1 := ⟨kf - 1, by omega⟩
    refine ⟨true, ?_, ⟨fun _ i a b => by omega, fun _ => rfl⟩⟩
    unfold s_X7_layers_L31
    rw [if_pos ((zi_len (by omega) (by omega)).mpr (by omega))]
    rfl
  | succ d ih =>
    intro kf j hj hkf
    obtain ⟨kf, rfl⟩ : ∃ z, kf = z + 1 := ⟨kf - 1, by omega⟩
    obtain ⟨b, b1, b2⟩ := ih kf (j + 1) (by omega) (by omega)
    obtain ⟨e1, e2⟩ := hf j (by omega)
    obtain ⟨p1, p2⟩ := hL.2.2 p hp
    obtain ⟨j1, j2⟩ := hL.2.2 j (by omega)
    have hlt : ¬ zi (p : Nat) ≤ zi (j : Nat) := fun w => by rw [zi_len (by omega) (by omega)] at w; omega
    unfold s_X7_layers_L31 s_X7_layers_L97 s_X7_layers_L102
    rw [if_neg hlt, if_neg n10, chk45 (show j < 45 by omega), ix45 (show j < 45 by omega), e1, ifz (by omega) (by omega), shared_R hn hL hl hp (by omega), zr_some, zif0, chk45 (show p < 45 by omega), ix45 (show p < 45 by omega), (hl.2 p hp).1, (hl.2 p hp).2, (hl.2 j (by omega)).1, (hl.2 j (by omega)).2, crs_R hT hO (by omega) (by omega) (by omega) (by omega), zr_some, zif0, zi_s1, b1]
    have hh : hit T L f p l j = (decide (f j = l) && (!shr (pa L p) (pa L j) && crsT T (pa L p).1 (pa L p).2 (pa L j).1 (pa L j).2)) := rfl
    have go : hit T L f p l j = false → ∃ b' : Bool, s_X7_layers_L110 k9 k20 x1 x2 (zi p) (zi l) (zo b) r = s_X7_layers_L110 k9 k20 x1 x2 (zi p) (zi l) (zo b') r ∧ (b' = true ↔ ∀ i, j ≤ i → i < p → hit T L f p l i = false) := fun w =>
      ⟨b, rfl, ⟨fun q i a1 a2 => by
        by_cases e : i = j
        · subst e; exact w
        · exact b2.mp q i (by omega) a2, fun q => b2.mpr (fun i a1 a2 => q i (by omega) a2)⟩⟩
    cases x : decide (f j = l) with
    | false => exact go (by rw [hh, x]; rfl)
    | true =>
      cases y : shr (pa L p) (pa L j) with
      | true => exact go (by rw [hh, x, y]; rfl)
      | false =>
        cases z : crsT T (pa L p).1 (pa L p).2 (pa L j).1 (pa L j).2 with
        | false => exact go (by rw [hh, x, y, z]; rfl)
        | true =>
          refine ⟨false, ?_, ⟨fun w => (by cases w), fun q => by have := q j (Nat.le_refl _) (by omega); rw [hh, x, y, z] at this; cases this⟩⟩
          obtain ⟨kf, rfl⟩ : ∃ z, kf = z + 1 := ⟨kf - 1, by omega⟩
          simp only [cond_true, cond_false]
          unfold s_X7_layers_L31
          by_cases w : zi (p : Nat) ≤ zi (j + 1 : Nat)
          · rw [if_pos w]; rfl
          · rw [if_neg w, if_pos rfl]; rfl
theorem grp_zero {A B : Nat → Bool} {p n : Nat} (hpn : p ≤ n) : (bset A p &&& bset B n = 0) ↔ ∀ i, i < p → (A i && B i) = false := by
  constructor
  · intro e i hi
    have := congrArg (fun q : Nat => q.testBit i) e
    simp only [Nat.testBit_and, bset_test, Nat.zero_testBit, decide_eq_true hi, decide_eq_true (show i < n by omega), Bool.true_and] at this
    exact this
  · intro h
    refine Nat.eq_of_testBit_eq (fun i => ?_)
    rw [Nat.testBit_and, bset_test, bset_test, Nat.zero_testBit]
    by_cases hi : i < p
    · rw [decide_eq_true hi, decide_eq_true (show i < n by omega), Bool.true_and, Bool.true_and]; exact h i hi
    · rw [decide_eq_false hi]; rfl
theorem lay_step (hO : tOK T) (hL : pOK T L) (hC : pC T L c) (hT : tR T r) (hl : lR L r) {f : Nat → Nat} {p M : Nat} (hp : p < L.length) (hM : M ≤ p) (hg : ∀ l, l < M → c.2 16 0 l = zw (bset (fun j => decide (f j = l)) p)) (hf : ∀ j, j < p → r.1 87 0 j = zi (f j) ∧ f j < M) {k4 : Int32 → Int32 → zMem → Option (Int32 × zMem)} {k9 : Int32 → Int32 → Int32 → zMem → Option (Int32 × zMem)} {x1 : Int32} {R : Option (Int32 × zMem) → Option (Int32 × zMem) → Prop}
    (hend : ∀ l, l ≤ M → R (s_X2_makeLayers_L43 k4 (zi M) (zi p) (zi l) c) (if zi l + 1 ≤ zi M then k9 x1 (zi M) (zi p + 1) (wI r 87 0 p (zi l)) else k9 x1 (zi l + 1) (zi p + 1) (wI r 87 0 p (zi l)))) :
    ∀ (d kf kf' l : Nat), l + d = M → d < kf → d + 1 < kf' → R (s_X2_makeLayers_L14 k4 kf (zi M) (zi p) (zi l) c) (s_X7_layers_L20 k9 kf' x1 (zi M) (zi p) (zi l) 0 r) := by
  have h45 := hL.1
  have hf' : ∀ j, j < p → r.1 87 0 j = zi (f j) ∧ f j < 46 := fun j hj => ⟨(hf j hj).1, by have := (hf j hj).2; omega⟩
  have stop : ∀ l kf', l ≤ M → 0 < kf' → R (s_X2_makeLayers_L43 k4 (zi M) (zi p) (zi l) c) (s_X7_layers_L20 k9 kf' x1 (zi M) (zi p) (zi l) 1 r) := fun l kf' hl' hk => by
    obtain ⟨kf', rfl⟩ : ∃ z, kf' = z + 1 := ⟨kf' - 1, by omega⟩
    unfold s_X7_layers_L20 s_X7_layers_L145
    rw [if_neg n10, chk45 (show p < 45 by omega), zlet_eq, ix45 (show p < 45 by omega)]
    exact hend l hl'
  intro d
  induction d with
  | zero =>
    intro kf kf' l hld hkf hkf'
    obtain ⟨kf, rfl⟩ : ∃ z, kf = z + 1 := ⟨kf - 1, by omega⟩
    obtain ⟨kf', rfl⟩ : ∃ z, kf' = z + 1 := ⟨kf' - 1, by omega⟩
    obtain rfl : l = M := by omega
    obtain ⟨b, b1, b2⟩ := hit_loop hO hL hT hl hp hf' (show l < 46 by omega) (k9 := k9) (k20 := s_X7_layers_L20 k9 kf') (x1 := x1) (x2 := zi l) p zF 0 (by omega) (by unfold zF; omega)
    have hb : b = true := b2.mpr (fun i _ hi => by
      unfold hit
      rw [decide_eq_false (by have := (hf i hi).2; omega)]; rfl)
    subst hb
    unfold s_X2_makeLayers_L14 s_X7_layers_L20
    rw [if_pos ((zi_len (by omega) (by omega)).mpr (by omega)), if_pos rfl, show s_X7_layers_L31 k9 (s_X7_layers_L20 k9 kf') zF x1 (zi l) (zi p) (zi l) 1 0 r = _ from b1]
    unfold s_X7_layers_L110
    rw [zo_t, if_neg n10]
    exact stop l kf' (Nat.le_refl _) (by omega)
  | succ d ih =>
    intro kf kf' l hld hkf hkf'
    obtain ⟨kf, rfl⟩ : ∃ z, kf = z + 1 := ⟨kf - 1, by omega⟩
    obtain ⟨kf', rfl⟩ : ∃ z, kf' = z + 1 := ⟨kf' - 1, by omega⟩
    obtain ⟨b, b1, b2⟩ := hit_loop hO hL hT hl hp hf' (show l < 46 by omega) (k9 := k9) (k20 := s_X7_layers_L20 k9 kf') (x1 := x1) (x2 := zi M) p zF 0 (by omega) (by unfold zF; omega)
    have hlt : ¬ zi (M : Nat) ≤ zi (l : Nat) := fun w => by rw [zi_len (by omega) (by omega)] at w; omega
    have hcond : (lg_cmp (zw (bset (fun j => decide (f j = l)) p) &&& zw (bset (fX T L p) L.length)) 0 = 0) ↔ b = true := by
      rw [zw_and (bset63 _ (by omega)) (bset63 _ (by omega)), lg_cmp_0, show (0 : Int64) = zw 0 from rfl, zw_inj (Nat.lt_trans (Nat.lt_of_le_of_lt Nat.and_le_left (bset63 _ (by omega))) (by omega)) (by omega), grp_zero (by omega), b2]
      exact ⟨fun w i _ hi => w i hi, fun w i hi => w i (Nat.zero_le _) hi⟩
    unfold s_X2_makeLayers_L14 s_X7_layers_L20
    rw [if_neg hlt, chk45 (show l < 45 by omega), chk45 (show p < 45 by omega), ix45 (show l < 45 by omega), ix45 (show p < 45 by omega), hg l (by omega), (hC.2 p hp).2.2.2.1, if_pos rfl, show s_X7_layers_L31 k9 (s_X7_layers_L20 k9 kf') zF x1 (zi M) (zi p) (zi l) 1 0 r = _ from b1]
    unfold s_X7_layers_L110
    cases b with
    | true =>
      rw [if_pos (hcond.mpr rfl), zo_t, if_neg n10]
      exact stop l kf' (by omega) (by omega)
    | false =>
      rw [if_neg (fun w => by have := hcond.mp w; cases this), zo_f, if_pos rfl, zi_s1]
      exact ih kf kf' (l + 1) (by omega) (by omega) (by omega)
theorem bset_z {p : Nat → Bool} : ∀ {n : Nat}, (∀ i, i < n → p i = false) → bset p n = 0
  | 0, _ => rfl
  | n + 1, h => by rw [← bset_f (h n (by omega)), bset_z (fun i hi => h i (by omega))]
theorem pC_16 {k : Nat} {x : Int64} (hC : pC T L c) : pC T L (wL c 16 0 k x) := by
  obtain ⟨h1, h2⟩ := hC
  refine ⟨h1, fun i hi => ?_⟩
  obtain ⟨a1, a2, a3, a4, a5⟩ := h2 i hi
  exact ⟨a1, a2, a3, by simp [wL_2, a4], by simp [wL_2, a5]⟩
theorem lay_out (hO : tOK T) (hL : pOK T L) {c0 r0 : zMem} : ∀ (d kf kf' p M : Nat) (f : Nat → Nat) (c r : zMem), p + d = L.length → d < kf → d < kf' → M ≤ p → pC T L c → tR T r → lR L r → (∀ l, l < M → c.2 16 0 l = zw (bset (fun j => decide (f j = l)) p)) → (∀ j, j < p → r.1 87 0 j = zi (f j) ∧ f j < M) → fr sI sL c0 c → fr rI' rL r0 r → ∃ N c' r', s_X2_makeLayers_L4 kf (zi M) (zi p) c = some (zi (N : Nat), c') ∧ s_X7_layers_L9 kf' (zi L.length) (zi M) (zi p) r = some (zi (N : Nat), r') ∧ fr sI sL c0 c' ∧ fr rI' rL r0 r' := by
  have h45 := hL.1
  intro d
  induction d with
  | zero =>
    intro kf kf' p M f c r hp hkf hkf' hM hC hT hl hg hf f1 f2
    obtain ⟨kf, rfl⟩ : ∃ z, kf = z + 1 := ⟨kf - 1, by omega⟩
    obtain ⟨kf', rfl⟩ : ∃ z, kf' = z + 1 := ⟨kf' - 1, by omega⟩
    unfold s_X2_makeLayers_L4 s_X7_layers_L9
    rw [hC.1, if_pos ((zi_len (by omega) (by omega)).mpr (by omega)), if_pos ((zi_len (by omega) (by omega)).mpr (by omega))]
    exact ⟨M, c, r, rfl, rfl, f1, f2⟩
  | succ d ih =>
    intro kf kf' p M f c r hp hkf hkf' hM hC hT hl hg hf f1 f2
    obtain ⟨kf, rfl⟩ : ∃ z, kf = z + 1 := ⟨kf - 1, by omega⟩
    obtain ⟨kf', rfl⟩ : ∃ z, kf' = z + 1 := ⟨kf' - 1, by omega⟩
    have hlt : ¬ zi (L.length : Nat) ≤ zi (p : Nat) := fun w => by rw [zi_len (by omega) (by omega)] at w; omega
    have hz : (0 : Int32) = zi (0 : Nat) := rfl
    unfold s_X2_makeLayers_L4 s_X7_layers_L9
    rw [hC.1, if_neg hlt, if_neg hlt]
    refine lay_step hO hL hC hT hl (show p < L.length by omega) hM hg hf (k4 := s_X2_makeLayers_L4 kf) (k9 := s_X7_layers_L9 kf') (x1 := zi L.length) (R := fun x y => ∃ N c' r', x = some (zi (N : Nat), c') ∧ y = some (zi (N : Nat), r') ∧ fr sI sL c0 c' ∧ fr rI' rL r0 r') (fun l hlM => ?_) M zF zF 0 (by omega) (by unfold zF; omega) (by unfold zF; omega)
    have g2 : fr rI' rL r0 (wI r 87 0 p (zi l)) := fr_wI f2 rfl
    have t2 : tR T (wI r 87 0 p (zi l)) := by
      obtain ⟨a1, a2, a3, a4⟩ := hT
      refine ⟨by simp [wI_1, a1], by simp [wI_1, a2], by simp [wI_1, a3], fun g hg => ?_⟩
      simp [wI_1, a4 g hg]
    have l2 : lR L (wI r 87 0 p (zi l)) := by
      obtain ⟨a1, a2⟩ := hl
      refine ⟨by simp [wI_1, a1], fun i hi => ?_⟩
      simp [wI_1, a2 i hi]
    have h87 : ∀ M', M ≤ M' → l < M' → ∀ j, j < p + 1 → (wI r 87 0 p (zi l)).1 87 0 j = zi ((if j = p then l else f j : Nat)) ∧ (if j = p then l else f j) < M' := fun M' a1 a2 j hj => by
      by_cases e : j = p
      · subst e; rw [if_pos rfl]; exact ⟨by simp [wI_1], a2⟩
      · rw [if_neg e]
        obtain ⟨b1, b2⟩ := hf j (by omega)
        exact ⟨by simp [wI_1, e, b1], by omega⟩
    have hcg : ∀ q, bset (fun j => decide ((if j = p then l else f j) = q)) p = bset (fun j => decide (f j = q)) p := fun q => bset_congr p (fun i hi => by rw [if_neg (by omega)])
    rw [zi_s1, zi_s1]
    unfold s_X2_makeLayers_L43 s_X2_makeLayers_L58
    by_cases e : l = M
    · subst e
      rw [if_pos rfl, chk45 (show l < 45 by omega), zlet_eq, ix45 (show l < 45 by omega), chk45 (show l < 45 by omega), zlet_eq, if_neg (fun w => by rw [zi_len (by omega) (by omega)] at w; omega), zi_s1, zi_s1, zw_shl1 (show p < 63 by omega), show (wL c 16 0 l 0).2 16 0 l = zw 0 from by simp [wL_2]; rfl, zw_or (by omega) (two63 (show p ≤ 45 by omega))]
      refine ih kf kf' (p + 1) (l + 1) (fun j => if j = p then l else f j) _ _ (by omega) (by omega) (by omega) (by omega) (pC_16 (pC_16 hC)) t2 l2 (fun q hq => ?_) (h87 (l + 1) (by omega) (by omega)) (fr_wL (fr_wL f1 rfl) rfl) g2
      by_cases eq : q = l
      · subst eq
        rw [wL_2, if_pos ⟨rfl, rfl, rfl⟩, ← bset_t (by simp), hcg, bset_z (fun i hi => decide_eq_false (by have := (hf i hi).2; omega))]
      · rw [wL_2, if_neg (fun w => eq w.2.2), wL_2, if_neg (fun w => eq w.2.2), hg q (by omega), ← bset_f (by simp; omega), hcg]
    · rw [if_neg (fun w => e ((zi_eqn (by omega) (by omega)).mp w)), chk45 (show l < 45 by omega), zlet_eq, ix45 (show l < 45 by omega), if_pos ((zi_len (by omega) (by omega)).mpr (by omega)), zi_s1, zw_shl1 (show p < 63 by omega), hg l (by omega), zw_or (bset63 _ (by omega)) (two63 (show p ≤ 45 by omega))]
      refine ih kf kf' (p + 1) M (fun j => if j = p then l else f j) _ _ (by omega) (by omega) (by omega) (by omega) (pC_16 hC) t2 l2 (fun q hq => ?_) (h87 M (by omega) (by omega)) (fr_wL f1 rfl) g2
      by_cases eq : q = l
      · subst eq
        rw [wL_2, if_pos ⟨rfl, rfl, rfl⟩, ← bset_t (by simp), hcg]
      · rw [wL_2, if_neg (fun w => eq w.2.2), hg q hq, ← bset_f (by simp; omega), hcg]
theorem op_layers (h : Rel T c r) : OK2 (s_X6_layers c) (s_X7_layers r) := by
  have hO := h.1
  have h45 := pLs_45 hO
  obtain ⟨c1, a1, a2, a3⟩ := draw2 h
  obtain ⟨r1, b1, b2, b3⟩ := lists2 h
  have hT : tR T r1 := (Rel_fr (fr_refl _ _ _) b3 h).2.2.1
  obtain ⟨N, c2, r2, d1, d2, d3, d4⟩ := lay_out hO (pOK_pLs hO) (pLs T).length zF zF 0 0 (fun _ => 0) c1 r1 (by omega) (by unfold zF; omega) (by unfold zF; omega) (Nat.le_refl _) a2 hT b2 (fun l hl => absurd hl (Nat.not_lt_zero l)) (fun j hj => absurd hj (Nat.not_lt_zero j)) a3 b3
  unfold s_X6_layers s_X7_layers s_X2_makeLayers
  rw [a1, zr_some, show s_X2_makeLayers_L4 zF 0 0 c1 = _ from d1, zb_some, b1, zb_some, show s_X7_layers_L9 zF (zi (pLs T).length) 0 0 r1 = _ from d2]
  exact ok2_same (Rel_fr d3 d4 h) rfl
end Z7
