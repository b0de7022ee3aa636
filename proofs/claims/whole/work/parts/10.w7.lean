/-! the MOST, on both sides; WAYS -/
def rM : zEx := fun c j k => eL c j k || eH c j k
theorem fr_ML {r r' : zMem} (h : fr eL e0 r r') : fr rM e0 r r' := fr_mono h (fun _ _ _ w => (Bool.or_eq_false_iff.mp w).1) (fun _ _ _ _ => rfl)
theorem fr_MH {r r' : zMem} (h : fr eH e0 r r') : fr rM e0 r r' := fr_mono h (fun _ _ _ w => (Bool.or_eq_false_iff.mp w).2) (fun _ _ _ _ => rfl)
theorem fr_rM {r r' : zMem} (h : fr rM e0 r r') : fr rI' rL r r' := fr_mono h (fun x j k w => by
  have h1 : fr eL e0 (fun _ _ _ => 0, fun _ _ _ => 0) (fun x j k => if eL x j k then 1 else 0, fun _ _ _ => 0) := ⟨fun c j k q => by show (if eL c j k = true then (1 : Int32) else 0) = 0; rw [q]; rfl, fun _ _ _ _ => rfl⟩
  have h2 : fr eH e0 (fun _ _ _ => 0, fun _ _ _ => 0) (fun x j k => if eH x j k then 1 else 0, fun _ _ _ => 0) := ⟨fun c j k q => by show (if eH c j k = true then (1 : Int32) else 0) = 0; rw [q]; rfl, fun _ _ _ _ => rfl⟩
  have a1 := (fr_eL h1).1 x j k w
  have a2 := (fr_eH h2).1 x j k w
  unfold rM
  cases e1 : eL x j k with
  | true => simp [e1] at a1
  | false =>
    cases e2 : eH x j k with
    | true => simp [e2] at a2
    | false => rfl) (fun _ _ _ _ => rfl)
section W7
variable {T : zTab} {c r : zMem}
theorem lp_sub {cf : zPr → zPr → Bool} : ∀ {L : List zPr} {o : zPr → Bool} {t : List zPr}, t ∈ lpP cf L o → t.Sublist L
  | [], _, _, h => by simp [lpP] at h
  | x :: L, o, t, h => by
    rw [lpP_cons, List.mem_append] at h
    rcases h with h | h
    · cases ho : o x with
      | false => rw [ho] at h; simp at h
      | true =>
        rw [ho] at h
        obtain ⟨u, hu, rfl⟩ := List.mem_map.mp h
        rcases List.mem_cons.mp hu with rfl | hu
        · exact List.Sublist.cons_cons x (List.nil_sublist L)
        · exact List.Sublist.cons_cons x (lp_sub hu)
    · exact (lp_sub h).trans (List.sublist_cons_self x L)
theorem lp_o {cf : zPr → zPr → Bool} : ∀ {L : List zPr} {o : zPr → Bool} {t : List zPr}, t ∈ lpP cf L o → ∀ y, y ∈ t → o y = true
  | [], _, _, h => by simp [lpP] at h
  | x :: L, o, t, h => by
    rw [lpP_cons, List.mem_append] at h
    rcases h with h | h
    · cases ho : o x with
      | false => rw [ho] at h; simp at h
      | true =>
        rw [ho] at h
        obtain ⟨u, hu, rfl⟩ := List.mem_map.mp h
        intro y hy
        rcases List.mem_cons.mp hy with rfl | hy
        · exact ho
        · rcases List.mem_cons.mp hu with rfl | hu
          · cases hy
          · have := lp_o hu y hy
            rw [Bool.and_eq_true] at this
            exact this.1
    · exact lp_o h
theorem opn_any {L : List zPr} (hL : pOK T L) (hn : tn T ≤ 10) (o : zPr → Bool) : opn L o 0 (bset (fun j => o (pa L j)) L.length) 1023 := by
  have h45 := hL.1
  refine ⟨bset63 _ (by omega), by omega, fun j _ hj => ⟨by rw [bset_test, decide_eq_true hj]; rfl, fun _ => ?_⟩⟩
  obtain ⟨a, b⟩ := hL.2.2 j hj
  have : ∀ i, i < 10 → Nat.testBit 1023 i = true := by decide
  exact ⟨this _ (by omega), this _ (by omega)⟩
theorem bc1023 : bcnt (Nat.testBit 1023) 10 = 10 := by decide
theorem lp_5 {L : List zPr} (hL : pOK T L) (hn : tn T ≤ 10) {o : zPr → Bool} {t : List zPr} (h : t ∈ lpP (cfP T) L o) : t.length ≤ 5 := by
  have := opn_room' hn hL (opn_any hL hn o) (t := t) (by rw [List.drop_zero]; exact h)
  rw [bc1023] at this
  omega
/-- the MOST of those that are open: how many, which -/
def mst (T : zTab) (L : List zPr) (o : zPr → Bool) : Nat × List zPr := (lpP (cfP T) L o).foldl upC (0, [])
theorem mst_in (L : List zPr) (o : zPr → Bool) : mst T L o = (0, []) ∨ ∃ t, t ∈ lpP (cfP T) L o ∧ mst T L o = (t.length, t) := upC_in _ _
theorem mst_len (L : List zPr) (o : zPr → Bool) : (mst T L o).2.length = (mst T L o).1 := by
  rcases mst_in (T := T) L o with h | ⟨t, -, h⟩ <;> rw [h] <;> rfl
theorem mst_5 {L : List zPr} (hL : pOK T L) (hn : tn T ≤ 10) (o : zPr → Bool) : (mst T L o).1 ≤ 5 := by
  rcases mst_in (T := T) L o with h | ⟨t, ht, h⟩ <;> rw [h]
  · exact Nat.zero_le _
  · exact lp_5 hL hn ht
theorem mst_sub (L : List zPr) (o : zPr → Bool) : (mst T L o).2.Sublist L := by
  rcases mst_in (T := T) L o with h | ⟨t, ht, h⟩ <;> rw [h]
  · exact List.nil_sublist L
  · exact lp_sub ht
theorem mst_o (L : List zPr) (o : zPr → Bool) : ∀ y, y ∈ (mst T L o).2 → o y = true := by
  rcases mst_in (T := T) L o with h | ⟨t, ht, h⟩ <;> rw [h]
  · intro y hy; cases hy
  · exact lp_o ht
def wys (T : zTab) (L : List zPr) : Nat := (lpP (cfP T) L (fun _ => true)).countP (fun t => decide (t.length = (mst T L (fun _ => true)).1)) + (if (mst T L (fun _ => true)).1 = 0 then 1 else 0)
theorem mostOf_T (hO : tOK T) {m : zMem} (hT : tR T m) : ∃ m', s_X7_mostOf m = some (zi (mst T (pLs T) (fun _ => true)).1, m') ∧ lR (pLs T) m' ∧ m'.1 64 0 33 = zi (mst T (pLs T) (fun _ => true)).1 ∧ m'.1 64 0 34 = zi (wys T (pLs T)) ∧ rI (pLs T) (mst T (pLs T) (fun _ => true)).2 (m'.1 84 0) ∧ fr rM e0 m m' := by
  have hn := hO.1
  have hL := pOK_pLs hO
  obtain ⟨m1, a1, a2, a3⟩ := lists_R hO hT
  unfold s_X7_mostOf
  rw [a1, zb_some, zlet_eq, zlet_eq]
  generalize hm : wI (wI m1 64 0 33 0) 64 0 34 0 = m2
  have f2 : fr eH e0 m1 m2 := by rw [← hm]; exact fr_wI (fr_wI (fr_refl _ _ _) rfl) rfl
  have ho : oT T [] = fun _ => true := rfl
  obtain ⟨m3, b1, b2, b3, b4⟩ := chooses_R hO hL zF0 0 _ 1023 [] (0, 0, []) m2 (by decide) (by decide) (Nat.zero_le _) (by rw [ho]; exact opn_any hL hn _) (by rw [bc1023]; decide) (tR_eH f2 (tR_eL a3 hT)) (lR_eH f2 a2) (fun k hk => absurd hk (Nat.not_lt_zero k)) ⟨by rw [← hm]; simp [wI_1]; rfl, by rw [← hm]; simp [wI_1]; rfl, rfl, by show 0 ≤ 5; omega, fun k hk => absurd hk (Nat.not_lt_zero k)⟩
  have hid : (frm [] ([] :: lpP (cfP T) ((pLs T).drop 0) (oT T []))).foldl up3 (0, 0, []) = (lpP (cfP T) (pLs T) (fun _ => true)).foldl up3 (0, 1, []) := by
    have : frm [] ([] :: lpP (cfP T) ((pLs T).drop 0) (oT T [])) = [] :: lpP (cfP T) (pLs T) (fun _ => true) := by
      unfold frm
      rw [List.drop_zero]
      exact List.map_id _
    rw [this, List.foldl_cons]
    rfl
  rw [hid] at b2
  have hC := up3_C (lpP (cfP T) (pLs T) (fun _ => true)) 0 1 []
  have hW := up3_ways (lpP (cfP T) (pLs T) (fun _ => true)) 0 1 []
  generalize (lpP (cfP T) (pLs T) (fun _ => true)).foldl up3 (0, 1, []) = b at b2 hC hW
  have h1 : b.1 = (mst T (pLs T) (fun _ => true)).1 := by have q := congrArg Prod.fst hC; exact q
  have h2 : b.2.2 = (mst T (pLs T) (fun _ => true)).2 := by have q := congrArg Prod.snd hC; exact q
  have h3 : b.2.1 = wys T (pLs T) := by rw [hW]; unfold wys; rw [Nat.add_comm]; rfl
  obtain ⟨d1, d2, d3, d4, d5⟩ := b2
  rw [h1] at d1
  rw [h3] at d2
  rw [h2] at d5
  rw [show s_X7_chooses zF0 0 0 m2 = some m3 from b1, zr_some, d1]
  exact ⟨m3, rfl, lR_eH b4 (lR_eH f2 a2), d1, d2, d5, fr_trans (fr_ML a3) (fr_trans (fr_MH f2) (fr_MH b4))⟩
theorem most_T (hO : tOK T) {m : zMem} {op above : Nat} {o : zPr → Bool} (hC : pC T (pLs T) m) (ho : mks (pLs T) o op) : ∃ m', s_X2_largest (zw op) 0 m = some (zw (mk (pLs T) (mst T (pLs T) o).2), m') ∧ pC T (pLs T) m' ∧ m'.1 10 0 8 = zi (mst T (pLs T) o).1 ∧ fr eK gK m m' := by
  have hn := hO.1
  have hL := pOK_pLs hO
  obtain ⟨m', a, b, d⟩ := largest_C hn hL hC ho (show 0 ≤ 100 by omega)
  exact ⟨m', a, pC_eK d hC, b.1, d⟩
theorem mks_all' (hO : tOK T) : mks (pLs T) (fun _ => true) (2 ^ (pLs T).length - 1) := by
  have h45 := pLs_45 hO
  rcases mks_all (L := pLs T) with h | h
  · exact h
  · omega
theorem op_ways (h : Rel T c r) : OK2 (s_X6_ways c) (s_X7_ways r) := by
  have hO := h.1
  have hn := hO.1
  have hL := pOK_pLs hO
  have h45 := pLs_45 hO
  obtain ⟨c1, a1, a2, a3⟩ := draw2 h
  obtain ⟨c2, b1, b2, b3, b4⟩ := most_T (above := 0) hO a2 (mks_all' hO)
  obtain ⟨r1, x1, x2, x3, x4, x5, x6⟩ := mostOf_T hO h.2.2.1
  obtain ⟨f, f1, f2, f3⟩ := guestsIn_C hn hL b2 (mks_all' hO).1
  have hle := bcnt_le f.testBit 10
  have hK := mst_5 hL hn (fun _ => true)
  have hcs := countSets_C hn hL hK zF0 0 _ f 0 _ c2 (by decide) (Nat.zero_le _) (mks_opn (mks_all' hO) f2 f3) (Nat.zero_le _) b2 b3 (fun t ht => by
    rw [List.drop_zero] at ht
    have := (upC_ge (lpP (cfP T) (pLs T) (fun _ => true)) (0, [])).2 t ht
    rw [Nat.zero_add]; exact this)
  unfold s_X6_ways s_X7_ways s_X2_countLargest
  rw [a1, zr_some, all_C a2 h45, zr_some, b1, zb_some, all_C b2 h45, zr_some, zr_some, f1, zr_some, show s_X2_countSets zF0 0 (zw (2 ^ (pLs T).length - 1)) (zi f) 0 c2 = _ from hcs, zr_some, zb_some, x1, zb_some, x4]
  refine ok2_same (Rel_fr (fr_trans a3 (fr_eK b4)) (fr_rM x6) h) ?_
  refine congrArg (fun q : Nat => zi q) ?_
  rw [List.drop_zero, List.countP_cons]
  unfold wys
  refine congr (congrArg _ (List.countP_congr (fun t _ => by rw [Nat.zero_add]))) ?_
  by_cases q : (mst T (pLs T) (fun _ => true)).1 = 0
  · rw [if_pos q, if_pos (decide_eq_true (show 0 + ([] : List zPr).length = _ by rw [q]; rfl))]
  · rw [if_neg q, if_neg (fun w => q (by have := of_decide_eq_true w; simp at this; omega))]
end W7
