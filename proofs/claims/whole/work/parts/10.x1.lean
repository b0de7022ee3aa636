/-! ROUNDS: what has been had goes from the wanted pairs -/
def tHs (T : zTab) (S : List zPr) : zTab := S.foldl (fun T p => tHad T p.1 p.2) T
section X1
theorem tHs_cons (T : zTab) (x : zPr) (S : List zPr) : tHs T (x :: S) = tHs (tHad T x.1 x.2) S := rfl
theorem cfP_had (T : zTab) (g h : Nat) : cfP (tHad T g h) = cfP T := rfl
theorem cfP_tHs : ∀ (S : List zPr) (T : zTab), cfP (tHs T S) = cfP T
  | [], _ => rfl
  | x :: S, T => by rw [tHs_cons, cfP_tHs S]; rfl
theorem tks_tHs : ∀ (S : List zPr) (T : zTab), tksT (tHs T S) = tksT T
  | [], _ => rfl
  | x :: S, T => by rw [tHs_cons, tks_tHs S]; rfl
theorem tn_tHs : ∀ (S : List zPr) (T : zTab), tn (tHs T S) = tn T
  | [], _ => rfl
  | x :: S, T => by rw [tHs_cons, tn_tHs S]; rfl
theorem pLs_mem {T : zTab} {x : zPr} : x ∈ pLs T ↔ x.1 < x.2 ∧ x.2 < tn T ∧ wntT T x.1 x.2 = true := by
  constructor
  · intro h
    obtain ⟨-, b, c, d⟩ := pLr_mem h
    exact ⟨b, c, d⟩
  · intro ⟨a, b, c⟩
    have := pLr_mem' (w := wntT T) (n := tn T) (p := tn T) (show x.1 < tn T by omega) a b c
    exact this
theorem pLs_had {T : zTab} {x : zPr} (hx : x ∈ pLs T) : pLs (tHad T x.1 x.2) = (pLs T).filter (fun y => decide (y ≠ x)) := by
  obtain ⟨x1, x2, x3⟩ := pLs_mem.mp hx
  obtain ⟨e, w2, w3⟩ := wnt_had x3
  have hf := pLr_filter (wntT T) (fun a b => decide ((a, b) ≠ x)) (tn T) (tn T)
  refine Eq.trans ?_ hf.symm
  refine pLr_congr (n := tn T) (tn T) (fun g h _ hgh hh => ?_)
  show (decide (g ≠ h) && (!(flp (tH T) x.1 x.2 g).testBit h && mayT T g h)) = (wntT T g h && decide ((g, h) ≠ x))
  rw [flp_test (tH T) e, decide_eq_false (show ¬ (g = x.2 ∧ h = x.1) by omega), Bool.or_false]
  by_cases q : g = x.1 ∧ h = x.2
  · obtain ⟨rfl, rfl⟩ := q
    rw [w2, decide_eq_true (show x.1 = x.1 ∧ x.2 = x.2 from ⟨rfl, rfl⟩), decide_eq_false (show ¬ (x.1, x.2) ≠ x from fun w => w rfl), Bool.and_false]
    simp
  · rw [decide_eq_false q, Bool.bne_false, decide_eq_true (show (g, h) ≠ x from fun w => q ⟨congrArg Prod.fst w, congrArg Prod.snd w⟩), Bool.and_true]
    rfl
theorem pLs_tHs : ∀ (S : List zPr) (T : zTab), S.Nodup → (∀ x, x ∈ S → x ∈ pLs T) → pLs (tHs T S) = (pLs T).filter (fun y => decide (y ∉ S))
  | [], T, _, _ => by
    rw [List.filter_eq_self.mpr (fun y _ => by simp)]; rfl
  | x :: S, T, hn, hS => by
    obtain ⟨h1, h2⟩ := List.nodup_cons.mp hn
    have hx := hS x List.mem_cons_self
    have e := pLs_had hx
    rw [tHs_cons, pLs_tHs S (tHad T x.1 x.2) h2 (fun y hy => by
      rw [e, List.mem_filter]
      exact ⟨hS y (List.mem_cons_of_mem _ hy), decide_eq_true (fun w => h1 (w ▸ hy))⟩), e, List.filter_filter]
    refine List.filter_congr (fun y _ => ?_)
    by_cases q : y = x
    · subst q; simp
    · by_cases q2 : y ∈ S <;> simp [q, q2]
theorem tHs_ok : ∀ (S : List zPr) (T : zTab), tOK T → (∀ x, x ∈ S → x.1 < tn T ∧ x.2 < tn T ∧ x.1 ≠ x.2) → tOK (tHs T S)
  | [], _, o, _ => o
  | x :: S, T, o, h => by
    obtain ⟨a, b, c⟩ := h x List.mem_cons_self
    rw [tHs_cons]
    exact tHs_ok S _ (had_ok o a b c) (fun y hy => h y (List.mem_cons_of_mem _ hy))
/-- how long the longest of a set takes -/
def lng (T : zTab) (a : Nat) (S : List zPr) : Nat := S.foldl (fun a p => max a (tksT T p.1 p.2)) a
theorem lng_cons (T : zTab) (a : Nat) (x : zPr) (S : List zPr) : lng T a (x :: S) = lng T (max a (tksT T x.1 x.2)) S := rfl
theorem tks_le {T : zTab} (o : tOK T) {g h : Nat} (hg : g < tn T) (hh : h < tn T) : 1 ≤ tksT T g h ∧ tksT T g h ≤ 20 := by
  have := slwT_le o hg
  have := slwT_le o hh
  unfold tksT
  simp only
  split <;> omega
theorem lng_le {T : zTab} (o : tOK T) : ∀ (S : List zPr) (a : Nat), a ≤ 20 → (∀ x, x ∈ S → x.1 < tn T ∧ x.2 < tn T) → lng T a S ≤ 20 ∧ a ≤ lng T a S
  | [], a, h, _ => ⟨h, Nat.le_refl a⟩
  | x :: S, a, h, hS => by
    obtain ⟨p, q⟩ := hS x List.mem_cons_self
    have := tks_le o p q
    rw [lng_cons]
    have := lng_le o S (max a (tksT T x.1 x.2)) (by omega) (fun y hy => hS y (List.mem_cons_of_mem _ hy))
    omega
theorem lng_pos {T : zTab} (o : tOK T) {S : List zPr} (h : S ≠ []) (hS : ∀ x, x ∈ S → x.1 < tn T ∧ x.2 < tn T) : 1 ≤ lng T 0 S := by
  cases S with
  | nil => exact absurd rfl h
  | cons x S =>
    obtain ⟨p, q⟩ := hS x List.mem_cons_self
    have := tks_le o p q
    rw [lng_cons]
    have := lng_le o S (max 0 (tksT T x.1 x.2)) (by omega) (fun y hy => hS y (List.mem_cons_of_mem _ hy))
    omega
def eQ : zEx := fun c j k => rM c j k || Nat.beq c 70
theorem fr_70 {r r' : zMem} (h : fr (fun x _ _ => Nat.beq x 70) e0 r r') : fr eQ e0 r r' := fr_mono h (fun x j k w => by
  unfold eQ at w
  rw [Bool.or_eq_false_iff] at w
  exact w.2) (fun _ _ _ _ => rfl)
theorem fr_rI {r r' : zMem} (h : fr rM e0 r r') : fr eQ e0 r r' := fr_mono h (fun x j k w => by
  unfold eQ at w
  rw [Bool.or_eq_false_iff] at w
  exact w.1) (fun _ _ _ w => w)
theorem lR_70 {g : zEx} {L : List zPr} {m m' : zMem} (h : fr (fun x _ _ => Nat.beq x 70) g m m') (hl : lR L m) : lR L m' := by
  refine ⟨(h.1 _ _ _ rfl).trans hl.1, fun i hi => ?_⟩
  obtain ⟨a, b⟩ := hl.2 i hi
  exact ⟨(h.1 _ _ _ rfl).trans a, (h.1 _ _ _ rfl).trans b⟩
/-- the loop of a ROUND: each of the set is had -/
theorem round_loop {T0 : zTab} (hO : tOK T0) {S : List zPr} (hS : S.Sublist (pLs T0)) (h5 : S.length ≤ 5) {m0 : zMem} :
    ∀ (d kf k lg : Nat) (m : zMem), k + d = S.length → d < kf → lg ≤ 20 → tR (tHs T0 (S.take k)) m → lR (pLs T0) m → rI (pLs T0) S (m.1 84 0) → fr eQ e0 m0 m → m.1 64 0 33 = m0.1 64 0 33 → ∃ m', s_X7_round_L9 kf (zi S.length) (zi lg) (zi k) m = some (zi (lng T0 lg (S.drop k)), m') ∧ tR (tHs T0 S) m' ∧ fr eQ e0 m0 m' ∧ m'.1 64 0 33 = m0.1 64 0 33 := by
  have hn := hO.1
  have h45 := pLs_45 hO
  have hnd : S.Nodup := (srt_nodup (pOK_pLs hO).2.1).sublist hS
  intro d
  induction d with
  | zero =>
    intro kf k lg m hk hkf hlg hT hl hr hf h33
    obtain ⟨kf, rfl⟩ : ∃ z, kf = z + 1 := ⟨kf - 1, by omega⟩
    obtain rfl : k = S.length := by omega
    unfold s_X7_round_L9
    rw [List.take_length] at hT
    rw [if_pos (by rw [zi_len (by omega) (by omega)]; omega), List.drop_length]
    exact ⟨m, rfl, hT, hf, h33⟩
  | succ d ih =>
    intro kf k lg m hk hkf hlg hT hl hr hf h33
    obtain ⟨kf, rfl⟩ : ∃ z, kf = z + 1 := ⟨kf - 1, by omega⟩
    have hk2 : k < S.length := by omega
    obtain ⟨i, i1, i2, i3⟩ := hr k hk2
    obtain ⟨l1, l2⟩ := hl.2 i i1
    obtain ⟨p1, p2⟩ := pLs_pa i1
    have hmem : pa S k ∈ pLs T0 := hS.subset (pa_mem hk2)
    have hd := pa_drop hk2
    have htk : S.take (k + 1) = S.take k ++ [pa S k] := by
      rw [pa_get hk2]; exact (List.take_append_getElem hk2).symm
    have hokk : tOK (tHs T0 (S.take k)) := tHs_ok _ _ hO (fun x hx => by
      obtain ⟨a, b, -⟩ := pLs_mem.mp (hS.subset (List.mem_of_mem_take hx))
      exact ⟨by omega, b, by omega⟩)
    have htn := tn_tHs (S.take k) T0
    have q1 : (pa (pLs T0) i).1 < tn (tHs T0 (S.take k)) := by rw [htn]; omega
    have q2 : (pa (pLs T0) i).2 < tn (tHs T0 (S.take k)) := by rw [htn]; omega
    have hlk := tks_le hO (show (pa (pLs T0) i).1 < tn T0 by omega) p2
    -- still wanted: the had bit is not set
    have hw : pa S k ∈ pLs (tHs T0 (S.take k)) := by
      rw [pLs_tHs _ _ (hnd.sublist (List.take_sublist k S)) (fun x hx => hS.subset (List.mem_of_mem_take hx)), List.mem_filter]
      refine ⟨hmem, decide_eq_true (fun w => ?_)⟩
      obtain ⟨j, j1, j2⟩ := List.mem_iff_getElem.mp w
      rw [List.length_take] at j1
      rw [List.getElem_take, ← pa_get (show j < S.length by omega)] at j2
      have hne := List.pairwise_iff_getElem.mp hnd j k (by omega) hk2 (by omega)
      rw [← pa_get (show j < S.length by omega), ← pa_get hk2] at hne
      exact hne j2
    obtain ⟨-, -, w3⟩ := pLs_mem.mp hw
    obtain ⟨we, w2, -⟩ := wnt_had w3
    unfold s_X7_round_L9 s_X7_round_L62
    rw [if_neg (by rw [zi_len (by omega) (by omega)]; omega), chk_zn (show k < 5 by omega) (by decide), ix_zn (show k < 2147483648 by omega), i2, chk45 (by omega), zlet_eq, zlet_eq, ix45 (by omega), l1, l2, tks_R hT hokk q1 q2, zr_some, tks_tHs, zi_s1]
    rw [← i3] at we w2
    have hnz : ¬ zo ((tH (tHs T0 (S.take k)) (pa (pLs T0) i).1).testBit (pa (pLs T0) i).2) = 1 := by rw [w2]; decide
    have step : ∃ m1, s_X7_puts_70 (zi (pa (pLs T0) i).1) (zi (pa (pLs T0) i).2) 1 m = some (1, m1) ∧ tR (tHs T0 (S.take (k + 1))) m1 ∧ fr (fun x _ _ => Nat.beq x 70) e0 m m1 := by
      rcases puts70_R hT hokk q1 q2 we 1 with ⟨u, -⟩ | ⟨-, m1, n1, n2, n3⟩
      · exact absurd u hnz
      · refine ⟨m1, n1, ?_, n3⟩
        rw [htk]
        unfold tHs
        rw [List.foldl_append]
        rw [← i3]
        exact n2
    obtain ⟨m1, n1, n2, n3⟩ := step
    have hr1 : rI (pLs T0) S (m1.1 84 0) := by
      intro j hj
      obtain ⟨x, y1, y2, y3⟩ := hr j hj
      exact ⟨x, y1, (n3.1 84 0 j rfl).trans y2, y3⟩
    have fin := fun (lg2 : Nat) (h2 : lg2 ≤ 20) => ih kf (k + 1) lg2 m1 (by omega) (by omega) h2 n2 (lR_70 n3 hl) hr1 (fr_trans hf (fr_70 n3)) ((n3.1 64 0 33 rfl).trans h33)
    rw [hd, lng_cons, ← i3]
    by_cases w : tksT T0 (pa (pLs T0) i).1 (pa (pLs T0) i).2 ≤ lg
    · rw [if_pos ((zi_len (by omega) (by omega)).mpr w), n1, zb_some, show max lg (tksT T0 (pa (pLs T0) i).1 (pa (pLs T0) i).2) = lg by omega]
      exact fin lg hlg
    · rw [if_neg (fun z => w ((zi_len (by omega) (by omega)).mp z)), n1, zb_some, show max lg (tksT T0 (pa (pLs T0) i).1 (pa (pLs T0) i).2) = tksT T0 (pa (pLs T0) i).1 (pa (pLs T0) i).2 by omega]
      exact fin _ hlk.2
def mS (T : zTab) : List zPr := (mst T (pLs T) (fun _ => true)).2
theorem round_R {T : zTab} (hO : tOK T) {m : zMem} (hT : tR T m) : ∃ m', s_X7_round m = some (zi (lng T 0 (mS T)), m') ∧ tR (tHs T (mS T)) m' ∧ fr eQ e0 m m' ∧ m'.1 64 0 33 = zi (mS T).length := by
  obtain ⟨m1, x1, x2, x3, x4, x5, x6⟩ := mostOf_T hO hT
  have hl := mst_len (T := T) (pLs T) (fun _ => true)
  have h5 := mst_5 (pOK_pLs hO) hO.1 (fun _ => true)
  unfold s_X7_round
  rw [x1, zb_some, ← hl]
  obtain ⟨m2, y1, y2, y3, y4⟩ := round_loop hO (mst_sub (T := T) (pLs T) (fun _ => true)) (by omega) (m0 := m1) _ zF 0 0 m1 (Nat.zero_add _) (by unfold zF; omega) (by omega) (tR_fr x6 rfl rfl rfl (fun _ => ⟨rfl, rfl, rfl, rfl, rfl⟩) hT) x2 x5 (fr_refl _ _ _) rfl
  exact ⟨m2, y1, y2, fr_trans (fr_rI x6) y3, by rw [y4, x3, ← hl]; rfl⟩
end X1
