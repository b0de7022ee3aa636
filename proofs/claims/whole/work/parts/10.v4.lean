/-! all, the guests in a set, the largest, the count of the largest: the class -/
theorem all_dec : ∀ n, n < 46 → jlshl 1 (zi (n : Nat)) - 1 = zw (2 ^ n - 1) := by decide +kernel
theorem all_C {T : zTab} {L : List zPr} {m : zMem} (h : pC T L m) (h45 : L.length ≤ 45) : s_X2_all m = some (zw (2 ^ L.length - 1)) := by
  unfold s_X2_all
  rw [h.1, all_dec _ (by omega)]
theorem all_test (n j : Nat) : (2 ^ n - 1).testBit j = decide (j < n) := Nat.testBit_two_pow_sub_one n j
section GI
variable {T : zTab} {L : List zPr}
theorem guestsIn_loop (hn : tn T ≤ 10) (hL : pOK T L) {m : zMem} (hC : pC T L m) {op : Nat} (ho : op < 2 ^ 63) :
    ∀ (d kf i a : Nat), i + d = L.length → d < kf → a < 1024 → (∀ j, j < i → op.testBit j = true → a.testBit (pa L j).1 = true ∧ a.testBit (pa L j).2 = true) → ∃ f, s_X2_guestsIn_L5 kf (zw op) (zi a) (zi i) m = some (zi (f : Nat)) ∧ f < 1024 ∧ ∀ j, j < L.length → op.testBit j = true → f.testBit (pa L j).1 = true ∧ f.testBit (pa L j).2 = true := by
  have h45 := hL.1
  intro d
  induction d with
  | zero =>
    intro kf i a hi hkf ha hj
    obtain ⟨kf, rfl⟩ : ∃ z, kf = z + 1 := ⟨kf - 1, by omega⟩
    obtain rfl : i = L.length := by omega
    unfold s_X2_guestsIn_L5
    rw [hC.1, if_pos (by rw [zi_len (by omega) (by omega)]; omega)]
    exact ⟨a, rfl, ha, hj⟩
  | succ d ih =>
    intro kf i a hi hkf ha hj
    obtain ⟨kf, rfl⟩ : ∃ z, kf = z + 1 := ⟨kf - 1, by omega⟩
    obtain ⟨q1, q2, -⟩ := hC.2 i (by omega)
    obtain ⟨p1, p2⟩ := hL.2.2 i (by omega)
    have hg : gsts (pa L i) < 2 ^ 10 := gsts_lt (by omega) (by omega)
    unfold s_X2_guestsIn_L5 s_X2_guestsIn_L34
    rw [hC.1, if_neg (by rw [zi_len (by omega) (by omega)]; omega), isIn_C ho (by omega), zr_some, zif0, zi_s1]
    cases hop : op.testBit i with
    | false =>
      rw [cond_false, ln_0, zi_or (by omega) (by omega), Nat.or_zero]
      refine ih kf (i + 1) a (by omega) (by omega) ha (fun j j1 j2 => ?_)
      by_cases e : j = i
      · rw [e, hop] at j2; cases j2
      · exact hj j (by omega) j2
    | true =>
      rw [cond_true, guestsOf_C (T := T) (c := 0) q1 q2 (by omega) (by omega) (by omega), zr_some, zi_or (by omega) (by omega)]
      refine ih kf (i + 1) _ (by omega) (by omega) (Nat.or_lt_two_pow (n := 10) ha hg) (fun j j1 j2 => ?_)
      rw [Nat.testBit_or, Nat.testBit_or, gsts_test, gsts_test]
      by_cases e : j = i
      · subst e; simp
      · obtain ⟨x, y⟩ := hj j (by omega) j2
        rw [x, y]; exact ⟨rfl, rfl⟩
theorem guestsIn_C (hn : tn T ≤ 10) (hL : pOK T L) {m : zMem} (hC : pC T L m) {op : Nat} (ho : op < 2 ^ 63) : ∃ f, s_X2_guestsIn (zw op) m = some (zi (f : Nat)) ∧ f < 1024 ∧ ∀ j, j < L.length → op.testBit j = true → f.testBit (pa L j).1 = true ∧ f.testBit (pa L j).2 = true := by
  have h45 := hL.1
  unfold s_X2_guestsIn
  exact guestsIn_loop hn hL hC ho L.length zF 0 0 (by omega) (by unfold zF; omega) (by omega) (fun j h => absurd h (Nat.not_lt_zero j))
/-- a mask tells of each pair of the list whether it is open -/
def mks (L : List zPr) (o : zPr → Bool) (op : Nat) : Prop := op < 2 ^ 63 ∧ ∀ j, j < L.length → op.testBit j = o (pa L j)
theorem mks_opn {o : zPr → Bool} {op f : Nat} (h : mks L o op) (hf : f < 1024) (hj : ∀ j, j < L.length → op.testBit j = true → f.testBit (pa L j).1 = true ∧ f.testBit (pa L j).2 = true) : opn L o 0 op f := ⟨h.1, hf, fun j _ j2 => ⟨h.2 j j2, fun q => hj j j2 (by rw [h.2 j j2]; exact q)⟩⟩
theorem mks_all : mks L (fun _ => true) (2 ^ L.length - 1) ∨ 45 < L.length := by
  by_cases h : 45 < L.length
  · exact Or.inr h
  · left
    have := two63 (show L.length ≤ 45 by omega)
    exact ⟨by omega, fun j hj => by rw [all_test, decide_eq_true hj]⟩
theorem largest_C (hn : tn T ≤ 10) (hL : pOK T L) {m : zMem} (hC : pC T L m) {op above : Nat} {o : zPr → Bool} (ho : mks L o op) (ha : above ≤ 100) :
    ∃ m', s_X2_largest (zw op) (zi above) m = some (zw (mk L ((lpP (cfP T) L o).foldl upC (above, [])).2), m') ∧ kS L ((lpP (cfP T) L o).foldl upC (above, [])) m' ∧ fr eK gK m m' := by
  unfold s_X2_largest
  have hf : fr eK gK m (wL (wI m 10 0 8 (zi above)) 10 0 9 0) := fr_wL (fr_wI (fr_refl _ _ _) rfl) rfl
  obtain ⟨f, f1, f2, f3⟩ := guestsIn_C hn hL (pC_eK hf hC) ho.1
  rw [zlet_eq, zlet_eq, f1, zr_some]
  have hle := bcnt_le f.testBit 10
  obtain ⟨m', e1, e2, e3⟩ := seek_C hn hL zF0 0 op f o [] (above, []) (wL (wI m 10 0 8 (zi above)) 10 0 9 0) (by decide) (by decide) (Nat.zero_le _) (mks_opn ho f2 f3) (by simp; omega) (pC_eK hf hC) ⟨by simp [wI_1, wL_1], by simp [wL_2, mk_nil]; rfl⟩ ha
  rw [mk_nil] at e1
  rw [show s_X2_seek zF0 0 (zw op) (zi f) 0 0 (wL (wI m 10 0 8 (zi above)) 10 0 9 0) = some m' from e1, zr_some]
  have hid : (frm [] ([] :: lpP (cfP T) (L.drop 0) o)).foldl upC (above, []) = (lpP (cfP T) L o).foldl upC (above, []) := by
    have : frm [] ([] :: lpP (cfP T) (L.drop 0) o) = [] :: lpP (cfP T) L o := by
      unfold frm
      rw [List.drop_zero]
      exact List.map_id _
    rw [this, List.foldl_cons, show upC (above, []) [] = (above, []) from if_neg (Nat.not_lt_zero _)]
  rw [hid] at e2
  exact ⟨m', by rw [e2.2], e2, fr_trans hf e3⟩
def cntP (T : zTab) (L : List zPr) (K k : Nat) : Prop := ∀ (fm op free sz : Nat) (o : zPr → Bool) (m : zMem), 6 ≤ k + sz → sz ≤ K → opn L o fm op free → fm ≤ L.length → pC T L m → m.1 10 0 8 = zi K → (∀ t, t ∈ lpP (cfP T) (L.drop fm) o → sz + t.length ≤ K) →
  s_X2_countSets k (zi fm) (zw op) (zi free) (zi sz) m = some (zi (([] :: lpP (cfP T) (L.drop fm) o).countP (fun t => decide (sz + t.length = K)) : Nat))
theorem countP_none {α : Type} {p : α → Bool} {S : List α} (h : ∀ t, t ∈ S → p t = false) : S.countP p = 0 := List.countP_eq_zero.mpr (fun t ht => by rw [h t ht]; simp)
theorem cnt_loop (hn : tn T ≤ 10) (hL : pOK T L) {k K : Nat} (hK : K ≤ 5) (hk : cntP T L K k) {op free sz : Nat} {o : zPr → Bool} {m : zMem} (hC : pC T L m) (h8 : m.1 10 0 8 = zi K) (h6 : 6 ≤ k + 1 + sz) (h5 : sz < K) :
    ∀ (d kf p acc : Nat), p + d = L.length → d < kf → opn L o p op free → (∀ t, t ∈ lpP (cfP T) (L.drop p) o → sz + t.length ≤ K) →
    s_X2_countSets_L23 (s_X2_countSets k) kf (zw op) (zi free) (zi sz) (zi acc) (zi p) m = some (zi (acc + (lpP (cfP T) (L.drop p) o).countP (fun t => decide (sz + t.length = K)) : Nat)) := by
  have h45 := hL.1
  intro d
  induction d with
  | zero =>
    intro kf p acc hp hkf ho hall
    obtain ⟨kf, rfl⟩ : ∃ z, kf = z + 1 := ⟨kf - 1, by omega⟩
    obtain rfl : p = L.length := by omega
    unfold s_X2_countSets_L23
    rw [hC.1, if_pos (by rw [zi_len (by omega) (by omega)]; omega), List.drop_length]
    rfl
  | succ d ih =>
    intro kf p acc hp hkf ho hall
    obtain ⟨kf, rfl⟩ : ∃ z, kf = z + 1 := ⟨kf - 1, by omega⟩
    have hpl : p < L.length := by omega
    obtain ⟨p1, p2⟩ := hL.2.2 p hpl
    obtain ⟨o1, o2⟩ := ho.2.2 p (Nat.le_refl _) hpl
    have hr := bcnt_le (fun g => free.testBit g && decide ((pa L p).1 ≤ g)) 10
    have hroom := fun t (ht : t ∈ lpP (cfP T) (L.drop p) o) => opn_room hn hL ho ht
    have h63 := ho.1
    have hfr := ho.2.1
    have hd := pa_drop hpl
    unfold s_X2_countSets_L23 s_X2_countSets_L103
    rw [hC.1, if_neg (by rw [zi_len (by omega) (by omega)]; omega), isIn_C h63 (by omega), zr_some, zif0, o1, zi_s1]
    cases hop : o (pa L p) with
    | false =>
      have hl0 : lpP (cfP T) (L.drop p) o = lpP (cfP T) (L.drop (p + 1)) o := by rw [hd, lpP_cons, hop, cond_false, List.nil_append]
      rw [hl0] at hall ⊢
      rw [cond_false]
      exact ih kf (p + 1) acc (by omega) (by omega) (opn_mono ho (by omega)) hall
    | true =>
      rw [cond_true, room_C hC hpl h45 (by omega) hfr, zr_some, h8, zi_addn]
      by_cases hlt : K ≤ sz + bcnt (fun g => free.testBit g && decide ((pa L p).1 ≤ g)) 10 / 2
      · obtain ⟨q1, q2, q3, q4, q5⟩ := hC.2 p hpl
        obtain ⟨t1, t2⟩ := opn_take hn hL hpl ho hop
        have hg : gsts (pa L p) < 2 ^ 10 := gsts_lt (by omega) (by omega)
        rw [if_pos ((zi_len (by omega) (by omega)).mpr hlt), chk45 (by omega), guestsOf_C (T := T) (c := 0) q1 q2 (by omega) (by omega) (by omega), zr_some, ix45 (by omega), q5, zw_andn h63 (bset63 _ (by omega)), zi_andn (by omega) (by omega), zi_s1]
        have hl : lpP (cfP T) (L.drop p) o = (([] :: lpP (cfP T) (L.drop (p + 1)) (fun y => o y && !cfP T (pa L p) y)).map (fun t => pa L p :: t)) ++ lpP (cfP T) (L.drop (p + 1)) o := by rw [hd, lpP_cons, hop, cond_true]
        rw [hl] at hall ⊢
        rw [hk (p + 1) _ _ (sz + 1) _ m (by omega) (by omega) t1 (by omega) hC h8 (fun t ht => by
          have := hall (pa L p :: t) (List.mem_append_left _ (List.mem_map_of_mem (List.mem_cons_of_mem _ ht)))
          rw [List.length_cons] at this; omega), zr_some, zi_addn, ih kf (p + 1) _ (by omega) (by omega) (opn_mono ho (by omega)) (fun t ht => hall t (List.mem_append_right _ ht)), List.countP_append, List.countP_map, Nat.add_assoc]
        refine congrArg (fun q : Nat => some (zi q)) (congrArg (acc + ·) (congrArg (· + _) (List.countP_congr (fun t _ => ?_))))
        simp only [Function.comp, List.length_cons, decide_eq_true_eq]
        omega
      · rw [if_neg (fun w => hlt ((zi_len (by omega) (by omega)).mp w)), countP_none (fun t ht => decide_eq_false (by have := hroom t ht; omega))]
        rfl
theorem countSets_C (hn : tn T ≤ 10) (hL : pOK T L) {K : Nat} (hK : K ≤ 5) : ∀ k, cntP T L K k
  | 0 => by
    intro fm op free sz o m h6 h5
    omega
  | k + 1 => by
    intro fm op free sz o m h6 h5 ho hfm hC h8 hall
    have h45 := hL.1
    unfold s_X2_countSets
    show (if m.1 10 0 8 ≤ zi sz then _ else _) = _
    rw [h8, List.countP_cons]
    by_cases q : K ≤ sz
    · rw [if_pos ((zi_len (by omega) (by omega)).mpr q), countP_none (fun t ht => decide_eq_false (by
        have h1 := hall t ht
        have h2 := List.length_pos_iff.mpr (lpP_ne ht)
        omega)), decide_eq_true (show sz + ([] : List zPr).length = K by simp; omega)]
      rfl
    · rw [if_neg (fun w => q ((zi_len (by omega) (by omega)).mp w)), if_pos (by rw [show (5 : Int32) = zi (5 : Nat) from rfl, zi_ltn (by omega) (by omega)]; omega), decide_eq_false (show ¬ sz + ([] : List zPr).length = K by simp; omega)]
      have h := cnt_loop hn hL hK (countSets_C hn hL hK k) hC h8 (by omega) (show sz < K by omega) (L.length - fm) zF fm 0 (by omega) (by unfold zF; omega) ho hall
      rw [show (0 : Int32) = zi ((0 : Nat) : Int) from rfl, h, Nat.zero_add]
      simp
end GI
