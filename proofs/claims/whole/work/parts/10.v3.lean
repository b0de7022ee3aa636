/-! the search of the class -/
theorem zi_s1 (a : Nat) : zi a + 1 = zi ((a + 1 : Nat) : Int) := zi_addn a 1
def pOK (T : zTab) (L : List zPr) : Prop := L.length ≤ 45 ∧ srt L ∧ ∀ i, i < L.length → isP T (pa L i)
theorem pOK_pLs {T : zTab} (hO : tOK T) : pOK T (pLs T) := ⟨pLs_45 hO, pLr_sorted _ _ _, fun _ h => isP_pa h⟩
def eK : zEx := fun c _ k => Nat.beq c 10 && Nat.beq k 8
def gK : zEx := fun c _ k => Nat.beq c 10 && Nat.beq k 9
theorem pC_eK {m m' : zMem} {T : zTab} {L : List zPr} (h : fr eK gK m m') (hp : pC T L m) : pC T L m' := by
  obtain ⟨a, b⟩ := hp
  refine ⟨(h.1 _ _ _ rfl).trans a, fun i hi => ?_⟩
  obtain ⟨b1, b2, b3, b4, b5⟩ := b i hi
  exact ⟨(h.1 _ _ _ rfl).trans b1, (h.1 _ _ _ rfl).trans b2, (h.1 _ _ _ rfl).trans b3, (h.2 _ _ _ rfl).trans b4, (h.2 _ _ _ rfl).trans b5⟩
theorem room_C {T : zTab} {L : List zPr} {m : zMem} {p free : Nat} (hp : pC T L m) (h : p < L.length) (h45 : L.length ≤ 45) (h10 : (pa L p).1 < 10) (hf : free < 1024) : s_X2_roomFrom (zi p) (zi free) m = some (zi (bcnt (fun g => free.testBit g && decide ((pa L p).1 ≤ g)) 10 / 2 : Nat)) := by
  obtain ⟨b1, -⟩ := hp.2 p h
  have hc := bcnt_le (fun g => free.testBit g && decide ((pa L p).1 ≤ g)) 10
  unfold s_X2_roomFrom
  rw [chk45 (by omega), ix45 (by omega), b1, room_all _ h10 _ hf, zr_some, half_all _ (by omega)]
/-- what is open, and whose guests are free, from a place on -/
def opn (L : List zPr) (o : zPr → Bool) (fm op free : Nat) : Prop := op < 2 ^ 63 ∧ free < 1024 ∧ ∀ j, fm ≤ j → j < L.length → op.testBit j = o (pa L j) ∧ (o (pa L j) = true → free.testBit (pa L j).1 = true ∧ free.testBit (pa L j).2 = true)
theorem opn_mono {L : List zPr} {o : zPr → Bool} {f g op free : Nat} (h : opn L o f op free) (hfg : f ≤ g) : opn L o g op free := ⟨h.1, h.2.1, fun j a b => h.2.2 j (by omega) b⟩
theorem cf_shr (T : zTab) (x y : zPr) (h : shr x y = true) : cfP T x y = true := by unfold cfP; rw [h]; rfl
theorem opn_room {T : zTab} (hn : tn T ≤ 10) {L : List zPr} (hL : pOK T L) {o : zPr → Bool} {p op free : Nat} (h : opn L o p op free) {t : List zPr} (ht : t ∈ lpP (cfP T) (L.drop p) o) : 2 * t.length ≤ bcnt (fun g => free.testBit g && decide ((pa L p).1 ≤ g)) 10 := by
  refine lpP_room (cf_shr T) (fun x hx hox => ?_) ht
  obtain ⟨j, j1, j2, rfl⟩ := drop_pa hx
  obtain ⟨a1, a2⟩ := hL.2.2 j j2
  obtain ⟨-, a3⟩ := h.2.2 j j1 j2
  obtain ⟨a4, a5⟩ := a3 hox
  have hle : (pa L p).1 ≤ (pa L j).1 := by
    rcases Nat.lt_or_ge p j with q | q
    · exact (srt_lt hL.2.1 q j2).1
    · rw [show p = j by omega]; exact Nat.le_refl _
  refine ⟨a1, by omega, ?_, ?_⟩
  · show (free.testBit _ && decide _) = true
    rw [a4, decide_eq_true hle]; rfl
  · show (free.testBit _ && decide _) = true
    rw [a5, decide_eq_true (show (pa L p).1 ≤ (pa L j).2 by omega)]; rfl
theorem opn_room' {T : zTab} (hn : tn T ≤ 10) {L : List zPr} (hL : pOK T L) {o : zPr → Bool} {p op free : Nat} (h : opn L o p op free) {t : List zPr} (ht : t ∈ lpP (cfP T) (L.drop p) o) : 2 * t.length ≤ bcnt free.testBit 10 := by
  have h1 := opn_room hn hL h ht
  have h2 := bcnt_imp (p := fun g => free.testBit g && decide ((pa L p).1 ≤ g)) (q := free.testBit) 10 (fun i _ q => by rw [Bool.and_eq_true] at q; exact q.1)
  omega
/-- the pair at a place taken -/
theorem opn_take {T : zTab} (hn : tn T ≤ 10) {L : List zPr} (hL : pOK T L) {o : zPr → Bool} {p op free : Nat} (hp : p < L.length) (h : opn L o p op free) (ho : o (pa L p) = true) : opn L (fun y => o y && !cfP T (pa L p) y) (p + 1) (andn op (bset (fB T L p) L.length)) (andn free (gsts (pa L p))) ∧ bcnt (andn free (gsts (pa L p))).testBit 10 + 2 = bcnt free.testBit 10 := by
  obtain ⟨h1, h2, h3⟩ := h
  obtain ⟨a1, a2⟩ := hL.2.2 p hp
  refine ⟨⟨andn_lt h1, andn_lt (n := 10) h2, fun j j1 j2 => ?_⟩, ?_⟩
  · obtain ⟨b1, b2⟩ := h3 j (by omega) j2
    obtain ⟨c1, c2⟩ := hL.2.2 j j2
    refine ⟨?_, ?_⟩
    · rw [andn_test, b1, bset_test, decide_eq_true j2, Bool.true_and]
      unfold fB
      rw [decide_eq_true (show p ≠ j by omega), Bool.true_and]
    · intro hj
      rw [Bool.and_eq_true, Bool.not_eq_true'] at hj
      obtain ⟨d1, d2⟩ := b2 hj.1
      have hs : shr (pa L p) (pa L j) = false := by
        cases hs : shr (pa L p) (pa L j) with
        | false => rfl
        | true => rw [cf_shr T _ _ hs] at hj; cases hj.2
      obtain ⟨s1, s2, s3, s4⟩ := shr_f hs
      refine ⟨?_, ?_⟩
      · rw [andn_test, d1, gsts_test, decide_eq_false (Ne.symm s1), decide_eq_false (Ne.symm s3)]; rfl
      · rw [andn_test, d2, gsts_test, decide_eq_false (Ne.symm s2), decide_eq_false (Ne.symm s4)]; rfl
  · obtain ⟨-, b2⟩ := h3 p (Nat.le_refl _) hp
    obtain ⟨d1, d2⟩ := b2 ho
    rw [← bcnt_rem2 (p := free.testBit) (n := 10) (a := (pa L p).1) (b := (pa L p).2) (by omega) (by omega) (by omega) d1 d2]
    refine congrArg (· + 2) (bcnt_congr 10 (fun i _ => ?_))
    rw [andn_test, gsts_test, Bool.and_assoc]
    refine congrArg _ ?_
    by_cases x : i = (pa L p).1 <;> by_cases y : i = (pa L p).2 <;> simp [x, y]
def kS (L : List zPr) (b : Nat × List zPr) (m : zMem) : Prop := m.1 10 0 8 = zi b.1 ∧ m.2 10 0 9 = zw (mk L b.2)
def frm (τ : List zPr) (S : List (List zPr)) : List (List zPr) := S.map (fun t => τ ++ t)
theorem frm_cons (τ : List zPr) (x : zPr) (S : List (List zPr)) : frm τ (S.map (fun t => x :: t)) = frm (τ ++ [x]) S := by
  unfold frm
  rw [List.map_map]
  refine List.map_congr_left (fun t _ => ?_)
  simp
theorem upC_100 {S : List (List zPr)} {b : Nat × List zPr} (hb : b.1 ≤ 100) (hS : ∀ t, t ∈ S → t.length ≤ 100) : (S.foldl upC b).1 ≤ 100 := by
  rcases upC_in S b with h | ⟨t, ht, h⟩
  · rw [h]; exact hb
  · rw [h]; exact hS t ht
section SK
variable {T : zTab} {L : List zPr}
def seekP (T : zTab) (L : List zPr) (k : Nat) : Prop := ∀ (fm op free : Nat) (o : zPr → Bool) (τ : List zPr) (b : Nat × List zPr) (m : zMem), 6 ≤ k + τ.length → τ.length ≤ 5 → fm ≤ L.length → opn L o fm op free → 2 * τ.length + bcnt free.testBit 10 ≤ 10 → pC T L m → kS L b m → b.1 ≤ 100 →
  ∃ m', s_X2_seek k (zi fm) (zw op) (zi free) (zw (mk L τ)) (zi τ.length) m = some m' ∧ kS L ((frm τ ([] :: lpP (cfP T) (L.drop fm) o)).foldl upC b) m' ∧ fr eK gK m m'
theorem seek_loop (hn : tn T ≤ 10) (hL : pOK T L) {k : Nat} (hk : seekP T L k) {op free : Nat} {o : zPr → Bool} {τ : List zPr} (h6 : 6 ≤ k + 1 + τ.length) (h5 : τ.length < 5) (hc : 2 * τ.length + bcnt free.testBit 10 ≤ 10) :
    ∀ (d kf p : Nat) (b : Nat × List zPr) (m : zMem), p + d = L.length → d < kf → opn L o p op free → pC T L m → kS L b m → b.1 ≤ 100 →
    ∃ m', s_X2_seek_L31 (s_X2_seek k) kf (zw op) (zi free) (zw (mk L τ)) (zi τ.length) (zi p) m = some m' ∧ kS L ((frm τ (lpP (cfP T) (L.drop p) o)).foldl upC b) m' ∧ fr eK gK m m' := by
  have h45 := hL.1
  intro d
  induction d with
  | zero =>
    intro kf p b m hp hkf ho hC hS hb
    obtain ⟨kf, rfl⟩ : ∃ z, kf = z + 1 := ⟨kf - 1, by omega⟩
    obtain rfl : p = L.length := by omega
    unfold s_X2_seek_L31
    rw [hC.1, if_pos (by rw [zi_len (by omega) (by omega)]; omega), List.drop_length]
    exact ⟨m, rfl, hS, fr_refl _ _ _⟩
  | succ d ih =>
    intro kf p b m hp hkf ho hC hS hb
    obtain ⟨kf, rfl⟩ : ∃ z, kf = z + 1 := ⟨kf - 1, by omega⟩
    have hpl : p < L.length := by omega
    obtain ⟨p1, p2⟩ := hL.2.2 p hpl
    obtain ⟨o1, o2⟩ := ho.2.2 p (Nat.le_refl _) hpl
    have hr := bcnt_le (fun g => free.testBit g && decide ((pa L p).1 ≤ g)) 10
    have hroom := fun t (ht : t ∈ lpP (cfP T) (L.drop p) o) => opn_room hn hL ho ht
    have h63 := ho.1
    have hfr := ho.2.1
    unfold s_X2_seek_L31 s_X2_seek_L111
    rw [hC.1, if_neg (by rw [zi_len (by omega) (by omega)]; omega), isIn_C h63 (by omega), zr_some, zif0, o1, zi_s1]
    have hd := pa_drop hpl
    cases hop : o (pa L p) with
    | false =>
      rw [cond_false, hd, lpP_cons, hop, cond_false, List.nil_append]
      exact ih kf (p + 1) b m (by omega) (by omega) (opn_mono ho (by omega)) hC hS hb
    | true =>
      rw [cond_true, room_C hC hpl h45 (by omega) hfr, zr_some, hS.1, zi_addn]
      by_cases hlt : b.1 < τ.length + bcnt (fun g => free.testBit g && decide ((pa L p).1 ≤ g)) 10 / 2
      · obtain ⟨q1, q2, q3, q4, q5⟩ := hC.2 p hpl
        obtain ⟨t1, t2⟩ := opn_take hn hL hpl ho hop
        have hg : gsts (pa L p) < 2 ^ 10 := gsts_lt (by omega) (by omega)
        rw [if_pos ((zi_ltn (by omega) (by omega)).mpr hlt), chk45 (by omega), guestsOf_C (T := T) (c := 0) q1 q2 (by omega) (by omega) (by omega), zr_some, zi_s1, ix45 (by omega), q5, zw_andn h63 (bset63 _ (by omega)), zi_andn (by omega) (by omega), zw_shl1 (by omega), zw_or (mk_lt h45) (two63 (by omega)), mk_snoc hL.2.1 hpl, show τ.length + 1 = (τ ++ [pa L p]).length by simp]
        obtain ⟨m1, e1, e2, e3⟩ := hk (p + 1) _ _ _ (τ ++ [pa L p]) b m (by simp; omega) (by simp; omega) (by omega) t1 (by simp; omega) hC hS hb
        rw [e1, zr_some]
        have hb2 : ((frm (τ ++ [pa L p]) ([] :: lpP (cfP T) (L.drop (p + 1)) (fun y => o y && !cfP T (pa L p) y))).foldl upC b).1 ≤ 100 := by
          refine upC_100 hb (fun t ht => ?_)
          obtain ⟨u, hu, rfl⟩ := List.mem_map.mp ht
          rcases List.mem_cons.mp hu with rfl | hu
          · simp; omega
          · have := opn_room' hn hL t1 hu
            simp; omega
        obtain ⟨m2, f1, f2, f3⟩ := ih kf (p + 1) _ m1 (by omega) (by omega) (opn_mono ho (by omega)) (pC_eK e3 hC) e2 hb2
        refine ⟨m2, f1, ?_, fr_trans e3 f3⟩
        rw [hd, lpP_cons, hop, cond_true]
        rw [show frm τ ((([] :: lpP (cfP T) (L.drop (p + 1)) (fun y => o y && !cfP T (pa L p) y)).map (fun t => pa L p :: t)) ++ lpP (cfP T) (L.drop (p + 1)) o) = frm (τ ++ [pa L p]) ([] :: lpP (cfP T) (L.drop (p + 1)) (fun y => o y && !cfP T (pa L p) y)) ++ frm τ (lpP (cfP T) (L.drop (p + 1)) o) from by rw [← frm_cons]; exact List.map_append, List.foldl_append]
        exact f2
      · rw [if_neg (fun w => hlt ((zi_ltn (by omega) (by omega)).mp w))]
        refine ⟨m, rfl, ?_, fr_refl _ _ _⟩
        rw [upC_small _ _ (fun t ht => by
          obtain ⟨u, hu, rfl⟩ := List.mem_map.mp ht
          have := hroom u hu
          simp; omega)]
        exact hS
theorem seek_C (hn : tn T ≤ 10) (hL : pOK T L) : ∀ k, seekP T L k
  | 0 => by
    intro fm op free o τ b m h6 h5
    omega
  | k + 1 => by
    intro fm op free o τ b m h6 h5 hfm ho hc hC hS hb
    have h45 := hL.1
    have hI := seek_C hn hL k
    unfold s_X2_seek
    have body : ∀ (m2 : zMem) (b2 : Nat × List zPr), pC T L m2 → kS L b2 m2 → b2.1 ≤ 100 → τ.length ≤ b2.1 → ∃ m', s_X2_seek_L21 (s_X2_seek k) (zi fm) (zw op) (zi free) (zw (mk L τ)) (zi τ.length) m2 = some m' ∧ kS L ((frm τ (lpP (cfP T) (L.drop fm) o)).foldl upC b2) m' ∧ fr eK gK m2 m' := by
      intro m2 b2 hC2 hS2 hb2 hle
      unfold s_X2_seek_L21
      by_cases q : τ.length < 5
      · rw [if_pos (by rw [show (5 : Int32) = zi (5 : Nat) from rfl, zi_ltn (by omega) (by omega)]; exact q)]
        exact seek_loop hn hL hI (by omega) q hc (L.length - fm) zF fm b2 m2 (by omega) (by unfold zF; omega) ho hC2 hS2 hb2
      · rw [if_neg (by rw [show (5 : Int32) = zi (5 : Nat) from rfl, zi_ltn (by omega) (by omega)]; exact q)]
        refine ⟨m2, rfl, ?_, fr_refl _ _ _⟩
        rw [upC_small _ _ (fun t ht => by
          obtain ⟨u, hu, rfl⟩ := List.mem_map.mp ht
          have := opn_room' hn hL ho hu
          have h1 : u.length = 0 := by omega
          simp; omega)]
        exact hS2
    have hcons : (frm τ ([] :: lpP (cfP T) (L.drop fm) o)).foldl upC b = (frm τ (lpP (cfP T) (L.drop fm) o)).foldl upC (upC b τ) := by
      show List.foldl upC b ((τ ++ []) :: frm τ (lpP (cfP T) (L.drop fm) o)) = _
      rw [List.append_nil, List.foldl_cons]
    rw [hcons]
    show ∃ m', (if zi τ.length ≤ m.1 10 0 8 then _ else _) = some m' ∧ _
    rw [hS.1]
    by_cases q : τ.length ≤ b.1
    · rw [if_pos ((zi_len (by omega) (by omega)).mpr q), show upC b τ = b from if_neg (by omega)]
      exact body m b hC hS hb q
    · rw [if_neg (fun w => q ((zi_len (by omega) (by omega)).mp w)), show upC b τ = (τ.length, τ) from if_pos (by omega), zlet_eq, zlet_eq]
      have hf : fr eK gK m (wL (wI m 10 0 8 (zi τ.length)) 10 0 9 (zw (mk L τ))) := fr_wL (fr_wI (fr_refl _ _ _) rfl) rfl
      obtain ⟨m', e1, e2, e3⟩ := body (wL (wI m 10 0 8 (zi τ.length)) 10 0 9 (zw (mk L τ))) (τ.length, τ) (pC_eK hf hC) ⟨by simp [wI_1, wL_1], by simp [wL_2]⟩ (by show τ.length ≤ 100; omega) (Nat.le_refl _)
      exact ⟨m', e1, e2, fr_trans hf e3⟩
end SK
