/-! the reference's search -/
section CH
variable {T : zTab} {L : List zPr}
def oT (T : zTab) (τ : List zPr) (y : zPr) : Bool := τ.all (fun c => !cfP T c y)
theorem oT_snoc (τ : List zPr) (x y : zPr) : oT T (τ ++ [x]) y = (oT T τ y && !cfP T x y) := by
  unfold oT
  rw [List.all_append]
  simp
/-- the first n of a row of places tell a list of pairs -/
def rI (L : List zPr) (τ : List zPr) (f : Nat → Int32) : Prop := ∀ k, k < τ.length → ∃ i, i < L.length ∧ f k = zi (i : Nat) ∧ pa L i = pa τ k
theorem crsT_cf {a b : zPr} (h : shr a b = false) : cfP T a b = crsT T a.1 a.2 b.1 b.2 := by unfold cfP; rw [h]; rfl
theorem cmpI {a b : Nat} (ha : a < 10) (hb : b < 10) : (zi a = zi b) ↔ (a = b) := zi_eqn (by omega) (by omega)
theorem fits_loop (hO : tOK T) (hL : pOK T L) {τ : List zPr} {m : zMem} (hT : tR T m) (hl : lR L m) (hc : rI L τ (m.1 83 0)) (h5 : τ.length ≤ 5) {i : Nat} (hi : i < L.length) :
    ∀ (d kf k : Nat), k + d = τ.length → d < kf → s_X7_fits_L2 kf (zi i) (zi τ.length) (zi k) m = some (zo (oT T (τ.drop k) (pa L i))) := by
  have hn := hO.1
  have h45 := hL.1
  obtain ⟨p1, p2⟩ := hL.2.2 i hi
  obtain ⟨r1, r2⟩ := hl.2 i hi
  intro d
  induction d with
  | zero =>
    intro kf k hk hkf
    obtain ⟨kf, rfl⟩ : ∃ z, kf = z + 1 := ⟨kf - 1, by omega⟩
    obtain rfl : k = τ.length := by omega
    unfold s_X7_fits_L2
    rw [if_pos (by rw [zi_len (by omega) (by omega)]; omega), List.drop_length]
    rfl
  | succ d ih =>
    intro kf k hk hkf
    obtain ⟨kf, rfl⟩ : ∃ z, kf = z + 1 := ⟨kf - 1, by omega⟩
    obtain ⟨c, c1, c2, c3⟩ := hc k (by omega)
    obtain ⟨q1, q2⟩ := hL.2.2 c c1
    obtain ⟨s1, s2⟩ := hl.2 c c1
    have hd := pa_drop (show k < τ.length by omega)
    unfold s_X7_fits_L2
    rw [if_neg (by rw [zi_len (by omega) (by omega)]; omega), chk_zn (show k < 5 by omega) (by decide), zlet_eq, ix_zn (show k < 2147483648 by omega), c2, chk45 (by omega), chk45 (by omega), ix45 (by omega), ix45 (by omega), r1, r2, s1, s2, zi_s1, ih kf (k + 1) (by omega) (by omega), crs_R hT hO (by omega) q2 (by omega) p2, zr_some, zif0, hd, ← c3]
    rw [show oT T (pa L c :: τ.drop (k + 1)) (pa L i) = (!cfP T (pa L c) (pa L i) && oT T (τ.drop (k + 1)) (pa L i)) from rfl]
    by_cases x1 : (pa L c).1 = (pa L i).1
    · rw [if_pos ((cmpI (by omega) (by omega)).mpr x1), cf_shr T _ _ (by unfold shr; rw [decide_eq_true x1]; rfl)]; rfl
    · rw [if_neg (fun w => x1 ((cmpI (by omega) (by omega)).mp w))]
      by_cases x2 : (pa L c).1 = (pa L i).2
      · rw [if_pos ((cmpI (by omega) (by omega)).mpr x2), cf_shr T _ _ (by unfold shr; rw [decide_eq_true x2]; simp)]; rfl
      · rw [if_neg (fun w => x2 ((cmpI (by omega) (by omega)).mp w))]
        by_cases x3 : (pa L c).2 = (pa L i).1
        · rw [if_pos ((cmpI (by omega) (by omega)).mpr x3), cf_shr T _ _ (by unfold shr; rw [decide_eq_true x3]; simp)]; rfl
        · rw [if_neg (fun w => x3 ((cmpI (by omega) (by omega)).mp w))]
          by_cases x4 : (pa L c).2 = (pa L i).2
          · rw [if_pos ((cmpI (by omega) (by omega)).mpr x4), cf_shr T _ _ (by unfold shr; rw [decide_eq_true x4]; simp)]; rfl
          · rw [if_neg (fun w => x4 ((cmpI (by omega) (by omega)).mp w)), crsT_cf (by unfold shr; rw [decide_eq_false x1, decide_eq_false x2, decide_eq_false x3, decide_eq_false x4]; rfl)]
            cases crsT T (pa L c).1 (pa L c).2 (pa L i).1 (pa L i).2 <;> rfl
theorem fits_R (hO : tOK T) (hL : pOK T L) {τ : List zPr} {m : zMem} (hT : tR T m) (hl : lR L m) (hc : rI L τ (m.1 83 0)) (h5 : τ.length ≤ 5) {i : Nat} (hi : i < L.length) : s_X7_fits (zi i) (zi τ.length) m = some (zo (oT T τ (pa L i))) := by
  unfold s_X7_fits
  exact fits_loop hO hL hT hl hc h5 hi τ.length zF 0 (by omega) (by unfold zF; omega)
/-- how many are best, how often, which; in the reference's memory -/
def bR (L : List zPr) (b : Nat × Nat × List zPr) (m : zMem) : Prop := m.1 64 0 33 = zi b.1 ∧ m.1 64 0 34 = zi b.2.1 ∧ b.2.2.length = b.1 ∧ b.1 ≤ 5 ∧ rI L b.2.2 (m.1 84 0)
def eH : zEx := fun c _ k => Nat.beq c 83 || (Nat.beq c 84 || (Nat.beq c 64 && (Nat.beq k 33 || Nat.beq k 34)))
theorem tR_eH {g : zEx} {m m' : zMem} (h : fr eH g m m') (hT : tR T m) : tR T m' := tR_fr h rfl rfl rfl (fun _ => ⟨rfl, rfl, rfl, rfl, rfl⟩) hT
theorem lR_eH {g : zEx} {m m' : zMem} (h : fr eH g m m') (hl : lR L m) : lR L m' := by
  refine ⟨(h.1 _ _ _ rfl).trans hl.1, fun i hi => ?_⟩
  obtain ⟨a, b⟩ := hl.2 i hi
  exact ⟨(h.1 _ _ _ rfl).trans a, (h.1 _ _ _ rfl).trans b⟩
theorem rI_snoc {τ : List zPr} {f : Nat → Int32} {i : Nat} (hi : i < L.length) (h : rI L τ f) : rI L (τ ++ [pa L i]) (zp f τ.length (zi i)) := by
  intro k hk
  rw [List.length_append] at hk
  simp only [List.length_cons, List.length_nil] at hk
  unfold zp
  by_cases q : k = τ.length
  · subst q
    rw [if_pos rfl, pa_snoc]
    exact ⟨i, hi, rfl, rfl⟩
  · obtain ⟨c, c1, c2, c3⟩ := h k (by omega)
    rw [if_neg q, pa_app _ (by omega)]
    exact ⟨c, c1, c2, c3⟩
theorem rI_pre {τ : List zPr} {x : zPr} {f : Nat → Int32} (h : rI L (τ ++ [x]) f) : rI L τ f := by
  intro k hk
  obtain ⟨c, c1, c2, c3⟩ := h k (by simp; omega)
  rw [pa_app _ hk] at c3
  exact ⟨c, c1, c2, c3⟩
/-- the copy of what is chosen -/
theorem copy_best {τ : List zPr} {slf : Int32 → Int32 → zMem → Option zMem} {x1 : Int32} (h5 : τ.length ≤ 5) : ∀ (d kf k : Nat) (m : zMem), k + d = τ.length → d < kf → (∀ j, j < k → m.1 84 0 j = m.1 83 0 j) → ∃ m', s_X7_chooses_L20 slf kf x1 (zi τ.length) (zi k) m = s_X7_chooses_L43 slf x1 (zi τ.length) m' ∧ (∀ j, j < τ.length → m'.1 84 0 j = m'.1 83 0 j) ∧ m'.1 83 = m.1 83 ∧ m'.1 64 = m.1 64 ∧ fr eH e0 m m' := by
  intro d
  induction d with
  | zero =>
    intro kf k m hk hkf hj
    obtain ⟨kf, rfl⟩ : ∃ z, kf = z + 1 := ⟨kf - 1, by omega⟩
    obtain rfl : k = τ.length := by omega
    unfold s_X7_chooses_L20
    rw [if_pos (by rw [zi_len (by omega) (by omega)]; omega)]
    exact ⟨m, rfl, hj, rfl, rfl, fr_refl _ _ _⟩
  | succ d ih =>
    intro kf k m hk hkf hj
    obtain ⟨kf, rfl⟩ : ∃ z, kf = z + 1 := ⟨kf - 1, by omega⟩
    unfold s_X7_chooses_L20
    rw [if_neg (by rw [zi_len (by omega) (by omega)]; omega), chk_zn (show k < 5 by omega) (by decide), ix_zn (show k < 2147483648 by omega), zlet_eq, zi_s1]
    obtain ⟨m', a, b, c, e, f⟩ := ih kf (k + 1) (wI m 84 0 k (m.1 83 0 k)) (by omega) (by omega) (fun j hj2 => by
      by_cases q : j = k
      · subst q; simp [wI_1]
      · have := hj j (by omega)
        simp [wI_1, q, this])
    refine ⟨m', a, b, ?_, ?_, fr_trans (fr_wI (fr_refl _ _ _) rfl) f⟩
    · rw [c]; funext j i; simp [wI_1]
    · rw [e]; funext j i; simp [wI_1]
def choP (T : zTab) (L : List zPr) (k : Nat) : Prop := ∀ (fm op free : Nat) (τ : List zPr) (b : Nat × Nat × List zPr) (m : zMem), 6 ≤ k + τ.length → τ.length ≤ 5 → fm ≤ L.length → opn L (oT T τ) fm op free → 2 * τ.length + bcnt free.testBit 10 ≤ 10 → tR T m → lR L m → rI L τ (m.1 83 0) → bR L b m →
  ∃ m', s_X7_chooses k (zi fm) (zi τ.length) m = some m' ∧ bR L ((frm τ ([] :: lpP (cfP T) (L.drop fm) (oT T τ))).foldl up3 b) m' ∧ rI L τ (m'.1 83 0) ∧ fr eH e0 m m'
theorem cho_loop (hO : tOK T) (hL : pOK T L) {k : Nat} (hk : choP T L k) {op free : Nat} {τ : List zPr} (h6 : 6 ≤ k + 1 + τ.length) (h5 : τ.length ≤ 5) (hc : 2 * τ.length + bcnt free.testBit 10 ≤ 10) :
    ∀ (d kf p : Nat) (b : Nat × Nat × List zPr) (m : zMem), p + d = L.length → d < kf → opn L (oT T τ) p op free → tR T m → lR L m → rI L τ (m.1 83 0) → bR L b m →
    ∃ m', s_X7_chooses_L63 (s_X7_chooses k) kf (zi τ.length) (zi p) m = some m' ∧ bR L ((frm τ (lpP (cfP T) (L.drop p) (oT T τ))).foldl up3 b) m' ∧ rI L τ (m'.1 83 0) ∧ fr eH e0 m m' := by
  have hn := hO.1
  have h45 := hL.1
  intro d
  induction d with
  | zero =>
    intro kf p b m hp hkf ho hT hl hr hb
    obtain ⟨kf, rfl⟩ : ∃ z, kf = z + 1 := ⟨kf - 1, by omega⟩
    obtain rfl : p = L.length := by omega
    unfold s_X7_chooses_L63
    rw [hl.1, if_pos (by rw [zi_len (by omega) (by omega)]; omega), List.drop_length]
    exact ⟨m, rfl, hb, hr, fr_refl _ _ _⟩
  | succ d ih =>
    intro kf p b m hp hkf ho hT hl hr hb
    obtain ⟨kf, rfl⟩ : ∃ z, kf = z + 1 := ⟨kf - 1, by omega⟩
    have hpl : p < L.length := by omega
    have hd := pa_drop hpl
    unfold s_X7_chooses_L63 s_X7_chooses_L100
    rw [hl.1, if_neg (by rw [zi_len (by omega) (by omega)]; omega), fits_R hO hL hT hl hr h5 hpl, zr_some, zif0, zi_s1]
    cases hop : oT T τ (pa L p) with
    | false =>
      have hl0 : lpP (cfP T) (L.drop p) (oT T τ) = lpP (cfP T) (L.drop (p + 1)) (oT T τ) := by rw [hd, lpP_cons, hop, cond_false, List.nil_append]
      rw [hl0, cond_false]
      exact ih kf (p + 1) b m (by omega) (by omega) (opn_mono ho (by omega)) hT hl hr hb
    | true =>
      obtain ⟨t1, t2⟩ := opn_take hn hL hpl ho hop
      have hl0 : lpP (cfP T) (L.drop p) (oT T τ) = (([] :: lpP (cfP T) (L.drop (p + 1)) (oT T (τ ++ [pa L p]))).map (fun t => pa L p :: t)) ++ lpP (cfP T) (L.drop (p + 1)) (oT T τ) := by
        rw [hd, lpP_cons, hop, cond_true, lpP_congr (o := oT T (τ ++ [pa L p])) (fun y _ => oT_snoc τ (pa L p) y)]
      have t1' : opn L (oT T (τ ++ [pa L p])) (p + 1) (andn op (bset (fB T L p) L.length)) (andn free (gsts (pa L p))) := by
        rw [show oT T (τ ++ [pa L p]) = fun y => oT T τ y && !cfP T (pa L p) y from funext (fun y => oT_snoc τ (pa L p) y)]
        exact t1
      have hf : fr eH e0 m (wI m 83 0 τ.length (zi p)) := fr_wI (fr_refl _ _ _) rfl
      have hr2 : rI L (τ ++ [pa L p]) ((wI m 83 0 τ.length (zi p)).1 83 0) := by
        have := rI_snoc hpl hr
        intro j hj
        obtain ⟨c, c1, c2, c3⟩ := this j hj
        refine ⟨c, c1, ?_, c3⟩
        rw [← c2, wI_1]
        unfold zp
        by_cases q : j = τ.length <;> simp [q]
      have hb2 : bR L b (wI m 83 0 τ.length (zi p)) := by
        obtain ⟨b1, b2, b3, b4, b5⟩ := hb
        refine ⟨by simp [wI_1, b1], by simp [wI_1, b2], b3, b4, fun j hj => ?_⟩
        obtain ⟨c, c1, c2, c3⟩ := b5 j hj
        exact ⟨c, c1, by simp [wI_1, c2], c3⟩
      rw [cond_true, chk_zn (show τ.length < 5 by omega) (by decide), ix_zn (show τ.length < 2147483648 by omega), zlet_eq, zi_s1, show τ.length + 1 = (τ ++ [pa L p]).length by simp]
      obtain ⟨m1, e1, e2, e3, e4⟩ := hk (p + 1) _ _ (τ ++ [pa L p]) b _ (by simp; omega) (by simp; omega) (by omega) t1' (by simp; omega) (tR_eH hf hT) (lR_eH hf hl) hr2 hb2
      rw [e1, zr_some]
      obtain ⟨m2, f1, f2, f3, f4⟩ := ih kf (p + 1) _ m1 (by omega) (by omega) (opn_mono ho (by omega)) (tR_eH e4 (tR_eH hf hT)) (lR_eH e4 (lR_eH hf hl)) (rI_pre e3) e2
      refine ⟨m2, f1, ?_, f3, fr_trans hf (fr_trans e4 f4)⟩
      rw [hl0, show frm τ ((([] :: lpP (cfP T) (L.drop (p + 1)) (oT T (τ ++ [pa L p]))).map (fun t => pa L p :: t)) ++ lpP (cfP T) (L.drop (p + 1)) (oT T τ)) = frm (τ ++ [pa L p]) ([] :: lpP (cfP T) (L.drop (p + 1)) (oT T (τ ++ [pa L p]))) ++ frm τ (lpP (cfP T) (L.drop (p + 1)) (oT T τ)) from by rw [← frm_cons]; exact List.map_append, List.foldl_append]
      exact f2
theorem chooses_R (hO : tOK T) (hL : pOK T L) : ∀ k, choP T L k
  | 0 => by
    intro fm op free τ b m h6 h5
    omega
  | k + 1 => by
    intro fm op free τ b m h6 h5 hfm ho hc hT hl hr hb
    have h45 := hL.1
    have hI := chooses_R hO hL k
    unfold s_X7_chooses
    have hcons : (frm τ ([] :: lpP (cfP T) (L.drop fm) (oT T τ))).foldl up3 b = (frm τ (lpP (cfP T) (L.drop fm) (oT T τ))).foldl up3 (up3 b τ) := by
      show List.foldl up3 b ((τ ++ []) :: frm τ (lpP (cfP T) (L.drop fm) (oT T τ))) = _
      rw [List.append_nil, List.foldl_cons]
    have loop := fun (b2 : Nat × Nat × List zPr) (m2 : zMem) (x1 : tR T m2) (x2 : lR L m2) (x3 : rI L τ (m2.1 83 0)) (x4 : bR L b2 m2) => cho_loop hO hL hI (show 6 ≤ k + 1 + τ.length by omega) h5 hc (L.length - fm) zF fm b2 m2 (by omega) (by unfold zF; omega) ho x1 x2 x3 x4
    rw [hcons]
    show ∃ m', (if zi τ.length ≤ m.1 64 0 33 then _ else _) = some m' ∧ _
    obtain ⟨b1, b2, b3, b4, b5⟩ := hb
    rw [b1]
    by_cases q : τ.length ≤ b.1
    · rw [if_pos ((zi_len (by omega) (by omega)).mpr q)]
      unfold s_X7_chooses_L43 s_X7_chooses_L61
      rw [b1]
      by_cases q2 : τ.length = b.1
      · rw [if_pos (by rw [q2]), zlet_eq, b2, zi_s1]
        have hf : fr eH e0 m (wI m 64 0 34 (zi (b.2.1 + 1 : Nat))) := fr_wI (fr_refl _ _ _) rfl
        rw [show up3 b τ = (b.1, b.2.1 + 1, b.2.2) from by unfold up3; rw [if_neg (by omega), if_pos q2]]
        obtain ⟨m', e1, e2, e3, e4⟩ := loop (b.1, b.2.1 + 1, b.2.2) _ (tR_eH hf hT) (lR_eH hf hl) (by intro j hj; simp [wI_1]; exact hr j hj) ⟨by simp [wI_1, b1], by simp [wI_1], b3, b4, by intro j hj; simp [wI_1]; exact b5 j hj⟩
        exact ⟨m', e1, e2, e3, fr_trans hf e4⟩
      · rw [if_neg (fun w => q2 ((zi_eqn (by omega) (by omega)).mp w)), show up3 b τ = b from by unfold up3; rw [if_neg (by omega), if_neg q2]]
        exact loop b m hT hl hr ⟨b1, b2, b3, b4, b5⟩
    · rw [if_neg (fun w => q ((zi_len (by omega) (by omega)).mp w)), zlet_eq, zlet_eq, show up3 b τ = (τ.length, 1, τ) from if_pos (by omega)]
      generalize hm : wI (wI m 64 0 33 (zi τ.length)) 64 0 34 0 = m1
      have hf : fr eH e0 m m1 := by rw [← hm]; exact fr_wI (fr_wI (fr_refl _ _ _) rfl) rfl
      obtain ⟨m2, a1, a2, a3, a4, a5⟩ := copy_best (τ := τ) (slf := s_X7_chooses k) (x1 := zi fm) h5 τ.length zF 0 m1 (by omega) (by unfold zF; omega) (fun j hj => absurd hj (Nat.not_lt_zero _))
      have h33 : m2.1 64 0 33 = zi τ.length := by rw [a4, ← hm]; simp [wI_1]
      have h34 : m2.1 64 0 34 = zi (0 : Nat) := by rw [a4, ← hm]; simp [wI_1]; rfl
      have h83 : ∀ j, m2.1 83 0 j = m.1 83 0 j := by intro j; rw [a3, ← hm]; simp [wI_1]
      show ∃ m', s_X7_chooses_L20 (s_X7_chooses k) zF (zi fm) (zi τ.length) (zi (0 : Nat)) m1 = some m' ∧ _
      rw [a1]
      unfold s_X7_chooses_L43 s_X7_chooses_L61
      rw [h33, if_pos rfl, zlet_eq, h34, zi_s1]
      have hf2 : fr eH e0 m2 (wI m2 64 0 34 (zi (0 + 1 : Nat))) := fr_wI (fr_refl _ _ _) rfl
      have hr2 : rI L τ (m2.1 83 0) := by intro j hj; rw [h83]; exact hr j hj
      obtain ⟨m', e1, e2, e3, e4⟩ := loop (τ.length, 1, τ) _ (tR_eH hf2 (tR_eH a5 (tR_eH hf hT))) (lR_eH hf2 (lR_eH a5 (lR_eH hf hl))) (by intro j hj; simp [wI_1]; exact hr2 j hj) ⟨by simp [wI_1, h33], by simp [wI_1], rfl, h5, by intro j hj; simp [wI_1]; rw [a2 j hj]; exact hr2 j hj⟩
      exact ⟨m', e1, e2, e3, fr_trans hf (fr_trans a5 (fr_trans hf2 e4))⟩
end CH
