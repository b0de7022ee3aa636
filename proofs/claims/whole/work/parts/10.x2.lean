/-! ROUNDS: the class's groups; both count them -/
def tK' (T : zTab) : Nat → zTab
  | 0 => T
  | k + 1 => tHs (tK' T k) (mS (tK' T k))
def Ls (T : zTab) (k : Nat) : List zPr := pLs (tK' T k)
section X2
variable {T : zTab} {c r : zMem}
theorem tK'_succ (T : zTab) (k : Nat) : tK' T (k + 1) = tHs (tK' T k) (mS (tK' T k)) := rfl
theorem mS_sub (T : zTab) : (mS T).Sublist (pLs T) := mst_sub _ _
theorem mS_ok (hO : tOK T) : tOK (tHs T (mS T)) := tHs_ok _ _ hO (fun x hx => by
  obtain ⟨a, b, -⟩ := pLs_mem.mp ((mS_sub T).subset hx)
  exact ⟨by omega, b, by omega⟩)
theorem mS_len5 (hO : tOK T) : (mS T).length ≤ 5 := by
  have h1 := mst_len (T := T) (pLs T) (fun _ => true)
  have h2 := mst_5 (pOK_pLs hO) hO.1 (fun _ => true)
  unfold mS
  omega
theorem tK'_ok (hO : tOK T) : ∀ k, tOK (tK' T k)
  | 0 => hO
  | k + 1 => mS_ok (tK'_ok hO k)
theorem tK'_cf (T : zTab) : ∀ k, cfP (tK' T k) = cfP T
  | 0 => rfl
  | k + 1 => by rw [tK'_succ, cfP_tHs, tK'_cf T k]
theorem tK'_tks (T : zTab) : ∀ k, tksT (tK' T k) = tksT T
  | 0 => rfl
  | k + 1 => by rw [tK'_succ, tks_tHs, tK'_tks T k]
theorem tK'_tn (T : zTab) : ∀ k, tn (tK' T k) = tn T
  | 0 => rfl
  | k + 1 => by rw [tK'_succ, tn_tHs, tK'_tn T k]
theorem pLs_nd (hO : tOK T) : (pLs T).Nodup := srt_nodup (pOK_pLs hO).2.1
theorem Ls_succ (hO : tOK T) (k : Nat) : Ls T (k + 1) = (Ls T k).filter (fun y => decide (y ∉ mS (tK' T k))) := by
  have ho := tK'_ok hO k
  exact pLs_tHs _ _ ((pLs_nd ho).sublist (mS_sub _)) (fun x hx => (mS_sub _).subset hx)
theorem Ls_sub (hO : tOK T) : ∀ k, (Ls T k).Sublist (pLs T)
  | 0 => List.Sublist.refl _
  | k + 1 => by rw [Ls_succ hO]; exact List.filter_sublist.trans (Ls_sub hO k)
theorem mst_Ls (hO : tOK T) (k : Nat) : mst T (pLs T) (fun y => decide (y ∈ Ls T k)) = mst (tK' T k) (pLs (tK' T k)) (fun _ => true) := by
  unfold mst
  rw [tK'_cf, show pLs (tK' T k) = Ls T k from rfl]
  refine congrArg (fun z => List.foldl upC (0, []) z) ?_
  have e := flt_sub (Ls_sub hO k) (pLs_nd hO)
  conv => rhs; rw [← e]
  rw [lpP_filter]
  exact lpP_congr (fun y _ => (Bool.and_true _).symm)
theorem mS_ne (hO : tOK T) (h : pLs T ≠ []) : mS T ≠ [] := by
  intro e
  have h1 := mst_len (T := T) (pLs T) (fun _ => true)
  have e' : (mst T (pLs T) (fun _ => true)).2 = [] := e
  rw [e'] at h1
  cases hp : pLs T with
  | nil => exact h hp
  | cons x L =>
    have hge := (upC_ge (lpP (cfP T) (pLs T) (fun _ => true)) (0, [])).2 [x] (by
      rw [hp, lpP_cons, cond_true]
      exact List.mem_append_left _ (List.mem_map.mpr ⟨[], List.mem_cons_self, rfl⟩))
    have : (mst T (pLs T) (fun _ => true)).1 = 0 := h1.symm
    unfold mst at this
    rw [this] at hge
    simp at hge
theorem Ls_len (hO : tOK T) : ∀ k, (Ls T k).length + k ≤ 45 ∨ Ls T k = []
  | 0 => Or.inl (pLs_45 hO)
  | k + 1 => by
    rcases Ls_len hO k with h | h
    · by_cases e : Ls T k = []
      · right; rw [Ls_succ hO, e]; rfl
      · left
        have ho := tK'_ok hO k
        have hne := mS_ne ho e
        have hs := Ls_succ hO k
        obtain ⟨x, hx⟩ := List.exists_mem_of_ne_nil _ hne
        have hlt : (Ls T (k + 1)).length < (Ls T k).length := by
          rw [hs]
          refine Nat.lt_of_le_of_ne (List.length_filter_le _ _) (fun w => ?_)
          have := List.length_filter_eq_length_iff.mp w x ((mS_sub _).subset hx)
          simp [hx] at this
        omega
    · right; rw [Ls_succ hO, h]; rfl
theorem Ls_45 (hO : tOK T) : Ls T 45 = [] := by
  rcases Ls_len hO 45 with h | h
  · exact List.eq_nil_of_length_eq_zero (by omega)
  · exact h
theorem mk_andn {L A : List zPr} {S : List zPr} : andn (mk L A) (mk L S) = mk L (A.filter (fun y => decide (y ∉ S))) := by
  apply Nat.eq_of_testBit_eq
  intro i
  rw [andn_test, mk_test, mk_test, mk_test]
  by_cases hi : i < L.length
  · rw [decide_eq_true hi]
    by_cases a : pa L i ∈ A <;> by_cases s : pa L i ∈ S <;> simp [a, s]
  · rw [decide_eq_false hi]; rfl
theorem mk_zero {L A : List zPr} (hA : A.Sublist L) : mk L A = 0 ↔ A = [] := by
  constructor
  · intro h
    cases A with
    | nil => rfl
    | cons x A =>
      obtain ⟨i, hi, e⟩ := List.mem_iff_getElem.mp (hA.subset List.mem_cons_self)
      have := mk_test L (x :: A) i
      rw [h, Nat.zero_testBit, decide_eq_true hi, pa_get hi, e] at this
      simp at this
  · intro h; rw [h, mk_nil]
theorem mk_self (hO : tOK T) : 2 ^ (pLs T).length - 1 = mk (pLs T) (pLs T) := by
  apply Nat.eq_of_testBit_eq
  intro i
  rw [all_test, mk_test]
  by_cases hi : i < (pLs T).length
  · rw [decide_eq_true hi, decide_eq_true (pa_mem hi)]; rfl
  · rw [decide_eq_false hi]; rfl
def gRp (T : zTab) (M : Nat) (m : zMem) : Prop := ∀ j, j < M → m.2 16 0 j = zw (mk (pLs T) (mS (tK' T j)))
/-- so many ROUNDS are made: as asked, or all there are -/
def made (T : zTab) (lim M : Nat) : Prop := M ≤ lim ∧ M ≤ 45 ∧ (∀ j, j < M → Ls T j ≠ []) ∧ (M = lim ∨ Ls T M = [])
theorem makeR_loop (hO : tOK T) {lim : Nat} (hlim : lim ≤ 1000) {m0 : zMem} : ∀ (d kf k : Nat) (m : zMem), k + d = 45 → d < kf → k ≤ lim → (∀ j, j < k → Ls T j ≠ []) → pC T (pLs T) m → gRp T k m → fr sI sL m0 m → ∃ M m', s_X2_makeRounds_L8 kf (zi lim) (zw (mk (pLs T) (Ls T k))) (zi k) m = some (zi (M : Nat), m') ∧ made T lim M ∧ pC T (pLs T) m' ∧ gRp T M m' ∧ fr sI sL m0 m' := by
  have h45 := pLs_45 hO
  intro d
  induction d with
  | zero =>
    intro kf k m hk hkf hkl hj hC hg hf
    obtain ⟨kf, rfl⟩ : ∃ z, kf = z + 1 := ⟨kf - 1, by omega⟩
    obtain rfl : k = 45 := by omega
    refine ⟨45, m, ?_, ⟨hkl, Nat.le_refl _, hj, Or.inr (Ls_45 hO)⟩, hC, hg, hf⟩
    unfold s_X2_makeRounds_L8
    by_cases e : lim ≤ 45
    · rw [if_pos ((zi_len (by omega) (by omega)).mpr e)]
    · rw [if_neg (fun w => e ((zi_len (by omega) (by omega)).mp w)), if_pos (by decide)]
  | succ d ih =>
    intro kf k m hk hkf hkl hj hC hg hf
    obtain ⟨kf, rfl⟩ : ∃ z, kf = z + 1 := ⟨kf - 1, by omega⟩
    have h63 : mk (pLs T) (Ls T k) < 2 ^ 63 := mk_lt h45
    have hcond : lg_cmp (zw (mk (pLs T) (Ls T k))) 0 = 0 ↔ Ls T k = [] := by
      rw [lg_cmp_0, show (0 : Int64) = zw 0 from rfl, zw_inj (by omega) (by omega)]
      exact mk_zero (Ls_sub hO k)
    unfold s_X2_makeRounds_L8
    by_cases e : lim ≤ k
    · rw [if_pos ((zi_len (by omega) (by omega)).mpr e)]
      exact ⟨k, m, rfl, ⟨hkl, by omega, hj, Or.inl (by omega)⟩, hC, hg, hf⟩
    · rw [if_neg (fun w => e ((zi_len (by omega) (by omega)).mp w)), if_neg (fun w => by rw [show (45 : Int32) = zi (45 : Nat) from rfl, zi_len (by omega) (by omega)] at w; omega)]
      by_cases z : Ls T k = []
      · rw [if_pos (hcond.mpr z)]
        exact ⟨k, m, rfl, ⟨hkl, by omega, hj, Or.inr z⟩, hC, hg, hf⟩
      · rw [if_neg (fun w => z (hcond.mp w))]
        obtain ⟨m1, a1, a2, a3, a4⟩ := most_T (above := 0) hO hC (o := fun y => decide (y ∈ Ls T k)) (op := mk (pLs T) (Ls T k)) ⟨h63, fun j hj => by rw [mk_test, decide_eq_true hj, Bool.true_and]⟩
        rw [mst_Ls hO k] at a1
        have a1' : s_X2_largest (zw (mk (pLs T) (Ls T k))) 0 m = some (zw (mk (pLs T) (mS (tK' T k))), m1) := a1
        rw [a1', zb_some, chk45 (by omega), ix45 (by omega), zlet_eq, zlet_eq, wL_2, if_pos ⟨rfl, rfl, rfl⟩, zw_andn h63 (mk_lt h45), mk_andn, zi_s1, ← Ls_succ hO k]
        have f1 : fr sI sL m1 (wL m1 16 0 k (zw (mk (pLs T) (mS (tK' T k))))) := fr_wL (fr_refl _ _ _) rfl
        refine ih kf (k + 1) _ (by omega) (by omega) (by omega) (fun j hj2 => ?_) ?_ (fun j hj2 => ?_) (fr_trans hf (fr_trans (fr_eK a4) f1))
        · by_cases q : j = k
          · rw [q]; exact z
          · exact hj j (by omega)
        · obtain ⟨b1, b2⟩ := a2
          refine ⟨b1, fun i hi => ?_⟩
          obtain ⟨c1, c2, c3, c4, c5⟩ := b2 i hi
          exact ⟨c1, c2, c3, by rw [wL_2, if_neg (by omega)]; exact c4, by rw [wL_2, if_neg (by omega)]; exact c5⟩
        · rw [wL_2]
          by_cases q : j = k
          · subst q; rw [if_pos ⟨rfl, rfl, rfl⟩]
          · rw [if_neg (fun w => q w.2.2)]
            exact (a4.2 16 0 j rfl).trans (hg j (by omega))
theorem makeRounds_C (hO : tOK T) {lim : Nat} (hlim : lim ≤ 1000) {m : zMem} (hC : pC T (pLs T) m) : ∃ M m', s_X2_makeRounds (zi lim) m = some (zi (M : Nat), m') ∧ made T lim M ∧ pC T (pLs T) m' ∧ gRp T M m' ∧ fr sI sL m m' := by
  unfold s_X2_makeRounds
  rw [all_C hC (pLs_45 hO), zr_some, mk_self hO]
  exact makeR_loop hO hlim 45 zF 0 m (by omega) (by unfold zF; omega) (Nat.zero_le _) (fun j h => absurd h (Nat.not_lt_zero j)) hC (fun j h => absurd h (Nat.not_lt_zero j)) (fr_refl _ _ _)
end X2
