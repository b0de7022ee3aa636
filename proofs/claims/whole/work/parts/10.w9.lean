/-! a set told: the number of its pairs, its i-th; the MOST -/
section W9
variable {T : zTab} {c r : zMem} {L S : List zPr}
theorem srt_nodup (h : srt L) : L.Nodup := List.Pairwise.imp (fun q => q.2) h
theorem flt_sub : ∀ {S L : List zPr}, S.Sublist L → L.Nodup → L.filter (fun x => decide (x ∈ S)) = S := by
  intro S L h
  induction h with
  | slnil => intro _; rfl
  | @cons S L a hs ih =>
    intro hn
    obtain ⟨h1, h2⟩ := List.nodup_cons.mp hn
    rw [List.filter_cons, if_neg (by rw [decide_eq_true_eq]; exact fun w => h1 (hs.subset w))]
    exact ih h2
  | @cons_cons S L a hs ih =>
    intro hn
    obtain ⟨h1, h2⟩ := List.nodup_cons.mp hn
    rw [List.filter_cons, if_pos (by simp)]
    refine congrArg (a :: ·) ?_
    refine Eq.trans (List.filter_congr (fun x hx => ?_)) (ih h2)
    have : x ≠ a := fun e => h1 (e ▸ hx)
    simp [this]
theorem bcnt_flt (f : zPr → Bool) : ∀ (d i : Nat), i + d = L.length → bcnt (fun j => f (pa L j)) L.length = bcnt (fun j => f (pa L j)) i + ((L.drop i).filter f).length
  | 0, i, h => by
    obtain rfl : i = L.length := by omega
    rw [List.drop_length]; rfl
  | d + 1, i, h => by
    rw [bcnt_flt f d (i + 1) (by omega), bcnt_succ, pa_drop (show i < L.length by omega), List.filter_cons]
    cases f (pa L i)
    · simp
    · simp; omega
theorem mk_cnt (hL : srt L) (h45 : L.length ≤ 45) (hS : S.Sublist L) : bcnt (mk L S).testBit 45 = S.length := by
  have e1 : bcnt (mk L S).testBit (L.length + (45 - L.length)) = bcnt (mk L S).testBit L.length := bcnt_ext _ _ (fun i hi => by rw [mk_test, decide_eq_false (by omega)]; rfl)
  rw [show L.length + (45 - L.length) = 45 by omega] at e1
  rw [e1, bcnt_congr (q := fun j => decide (pa L j ∈ S)) _ (fun i hi => by rw [mk_test, decide_eq_true hi]; rfl), bcnt_flt (fun x => decide (x ∈ S)) L.length 0 (by omega), List.drop_zero, flt_sub hS (srt_nodup hL)]
  show 0 + _ = _
  omega
theorem mk_45 (h45 : L.length ≤ 45) : mk L S < 2 ^ 45 := bset_lt' _ h45
theorem pairAt_loop {m : zMem} (hC : pC T L m) (h45 : L.length ≤ 45) {op : Nat} (ho : op < 2 ^ 63) {f : zPr → Bool} (hf : ∀ j, j < L.length → op.testBit j = f (pa L j)) {i : Nat} (hi : i < 2147483648) :
    ∀ (d kf p ah : Nat), p + d = L.length → d < kf → ah ≤ i → ah ≤ p → (i - ah < ((L.drop p).filter f).length ∧ ∃ j, j < L.length ∧ s_X2_pairAt_L6 kf (zw op) (zi i) (zi ah) (zi p) m = some (zi (j : Nat)) ∧ pa L j = pa ((L.drop p).filter f) (i - ah)) ∨ (((L.drop p).filter f).length ≤ i - ah ∧ s_X2_pairAt_L6 kf (zw op) (zi i) (zi ah) (zi p) m = some (-1)) := by
  intro d
  induction d with
  | zero =>
    intro kf p ah hp hkf ha hap
    obtain ⟨kf, rfl⟩ : ∃ z, kf = z + 1 := ⟨kf - 1, by omega⟩
    obtain rfl : p = L.length := by omega
    right
    unfold s_X2_pairAt_L6
    rw [hC.1, if_pos (by rw [zi_len (by omega) (by omega)]; omega), List.drop_length]
    exact ⟨Nat.zero_le _, rfl⟩
  | succ d ih =>
    intro kf p ah hp hkf ha hap
    obtain ⟨kf, rfl⟩ : ∃ z, kf = z + 1 := ⟨kf - 1, by omega⟩
    have hpl : p < L.length := by omega
    unfold s_X2_pairAt_L6 s_X2_pairAt_L36
    rw [hC.1, if_neg (by rw [zi_len (by omega) (by omega)]; omega), isIn_C ho (by omega), zr_some, zif0, hf p hpl, zi_s1, zi_s1, pa_drop hpl, List.filter_cons]
    cases hfp : f (pa L p) with
    | false =>
      rw [cond_false, if_neg (by decide)]
      exact ih kf (p + 1) ah (by omega) (by omega) ha (by omega)
    | true =>
      rw [cond_true, if_pos rfl]
      by_cases e : ah = i
      · subst e
        left
        rw [if_pos rfl, Nat.sub_self]
        exact ⟨by simp, p, hpl, rfl, rfl⟩
      · rw [if_neg (fun w => e ((zi_eqn (by omega) (by omega)).mp w))]
        have h := ih kf (p + 1) (ah + 1) (by omega) (by omega) (by omega) (by omega)
        have e2 : i - ah = (i - (ah + 1)) + 1 := by omega
        rw [e2, List.length_cons]
        rcases h with ⟨a, j, b, x, y⟩ | ⟨a, x⟩
        · exact Or.inl ⟨by omega, j, b, x, by rw [y]; rfl⟩
        · exact Or.inr ⟨by omega, x⟩
theorem pairAt_neg {m : zMem} (hC : pC T L m) (h45 : L.length ≤ 45) {op : Nat} (ho : op < 2 ^ 63) {x : Int} (x1 : -2147483648 ≤ x) (x2 : x < 0) :
    ∀ (d kf p ah : Nat), p + d = L.length → d < kf → ah ≤ p → s_X2_pairAt_L6 kf (zw op) (zi x) (zi ah) (zi p) m = some (-1) := by
  intro d
  induction d with
  | zero =>
    intro kf p ah hp hkf hap
    obtain ⟨kf, rfl⟩ : ∃ z, kf = z + 1 := ⟨kf - 1, by omega⟩
    unfold s_X2_pairAt_L6
    rw [hC.1, if_pos (by rw [zi_len (by omega) (by omega)]; omega)]
  | succ d ih =>
    intro kf p ah hp hkf hap
    obtain ⟨kf, rfl⟩ : ∃ z, kf = z + 1 := ⟨kf - 1, by omega⟩
    unfold s_X2_pairAt_L6 s_X2_pairAt_L36
    rw [hC.1, if_neg (by rw [zi_len (by omega) (by omega)]; omega), isIn_C ho (by omega), zr_some, zif0, zi_s1, zi_s1, if_neg (fun w => by rw [zi_eq (by omega) (by omega) (by omega) (by omega)] at w; omega)]
    cases op.testBit p
    · exact ih kf (p + 1) ah (by omega) (by omega) (by omega)
    · exact ih kf (p + 1) (ah + 1) (by omega) (by omega) (by omega)
/-- a set told, on both sides -/
theorem told2 (h : Rel T c r) (hC : pC T (pLs T) c) (hS : S.Sublist (pLs T)) (a : Int32) {X : Option (Int32 × zMem)} (hX : ∀ i, i < S.length → a = zi (i : Nat) → X = some (cdP (pa S i), r)) :
    OK2 (zb (s_X6_pairOrCount (zw (mk (pLs T) S)) a c) (fun x m => some (x, m))) (if a = -1 then some (zi S.length, r) else if a < 0 then zb (s_X7_no (-5) r) (fun x m => some (x, m)) else if zi S.length ≤ a then zb (s_X7_no (-5) r) (fun x m => some (x, m)) else X) := by
  have hL := pOK_pLs h.1
  have h45 := hL.1
  have hl := hS.length_le
  have hR := ok2_ref h 5 (by omega) (by omega) (show (-5 : Int32) = zi (-((5 : Nat) : Int)) from rfl)
  have h63 : mk (pLs T) S < 2 ^ 63 := mk_lt h45
  have hfl := flt_sub hS (srt_nodup hL.2.1)
  unfold s_X6_pairOrCount s_X2_pairAt
  by_cases e : a = -1
  · rw [if_pos e, if_pos e, lbc (mk_45 h45), mk_cnt hL.2.1 h45 hS]
    exact ok2_same h rfl
  · rw [if_neg e, if_neg e]
    obtain ⟨x, rfl, x1, x2⟩ := zi_of a
    by_cases h1 : x < 0
    · have hp := pairAt_neg hC h45 h63 x1 h1 (pLs T).length zF 0 0 (by omega) (by unfold zF; omega) (by omega)
      rw [if_pos ((lt0 x1 x2).mpr h1), show s_X2_pairAt_L6 zF (zw (mk (pLs T) S)) (zi x) 0 0 c = some (-1) from hp, zr_some, if_pos rfl]
      exact hR
    · obtain ⟨i, rfl⟩ : ∃ i : Nat, x = i := ⟨x.toNat, by omega⟩
      rw [if_neg (fun w => h1 ((lt0 x1 x2).mp w))]
      have hp := pairAt_loop hC h45 h63 (f := fun y => decide (y ∈ S)) (fun j hj => by rw [mk_test, decide_eq_true hj]; rfl) (show i < 2147483648 by omega) (pLs T).length zF 0 0 (by omega) (by unfold zF; omega) (by omega) (by omega)
      rw [List.drop_zero, hfl, Nat.sub_zero] at hp
      rcases hp with ⟨p1, j, p2, p3, p4⟩ | ⟨p1, p3⟩
      · rw [show s_X2_pairAt_L6 zF (zw (mk (pLs T) S)) (zi (i : Nat)) 0 0 c = some (zi (j : Nat)) from p3, zr_some, if_neg (fun w => by rw [show (-1 : Int32) = zi (-1) from rfl, zi_eq (by omega) (by omega) (by omega) (by omega)] at w; omega), if_neg (fun w => by rw [zi_len (by omega) (by omega)] at w; omega), codeOf_C hC p2 h45, hX i p1 rfl, p4]
        exact ok2_same h rfl
      · rw [show s_X2_pairAt_L6 zF (zw (mk (pLs T) S)) (zi (i : Nat)) 0 0 c = some (-1) from p3, zr_some, if_pos rfl, if_pos ((zi_len (by omega) (by omega)).mpr p1)]
        exact hR
theorem op_most (h : Rel T c r) (a : Int32) : OK2 (s_X6_most a c) (s_X7_most a r) := by
  have hO := h.1
  have h45 := pLs_45 hO
  obtain ⟨c1, a1, a2, a3⟩ := draw2 h
  obtain ⟨c2, b1, b2, b3, b4⟩ := most_T (above := 0) hO a2 (mks_all' hO)
  obtain ⟨r1, x1, x2, x3, x4, x5, x6⟩ := mostOf_T hO h.2.2.1
  have h' := Rel_fr (fr_trans a3 (fr_eK b4)) (fr_rM x6) h
  have hl := mst_len (T := T) (pLs T) (fun _ => true)
  have h5 := mst_5 (pOK_pLs hO) hO.1 (fun _ => true)
  unfold s_X6_most s_X7_most s_X7_most_L34
  rw [a1, zr_some, all_C a2 h45, zr_some, b1, zb_some, x1, zb_some, ← hl]
  refine told2 h' b2 (mst_sub _ _) a (fun i hi ha => ?_)
  subst ha
  obtain ⟨j, j1, j2, j3⟩ := x5 i hi
  rw [chk_zn (show i < 5 by omega) (by decide), ix_zn (show i < 2147483648 by omega), j2, codeOf_R x2 j1 h45, j3]
  rfl
end W9
