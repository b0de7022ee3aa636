/-! a told evening, on both sides -/
section Z9
variable {T : zTab} {c r : zMem}
theorem zi_div2 {k n : Nat} (hk : k < 2147483648) (hn : n < 2147483648) (hn1 : 1 ≤ n) : (zi k : Int32) / zi n = zi (k / n : Nat) := by
  have h1 : k / n ≤ k := Nat.div_le_self k n
  have e : (k : Int).tdiv (n : Int) = ((k / n : Nat) : Int) := (Int.ofNat_tdiv k n).symm
  generalize k / n = q at h1 e
  apply Int32.toInt_inj.mp
  rw [Int32.toInt_div, zi_toInt (by omega) (by omega), zi_toInt (by omega) (by omega), zi_toInt (by omega) (by omega), e]
  exact Int.bmod_eq_of_le (by omega) (by omega)
theorem div100 {k : Nat} (hk : k < 2147483648) : (zi k : Int32) / 100 = zi (k / 100 : Nat) := zi_div2 (n := 100) hk (by omega) (by omega)
theorem rem100 {k : Nat} (hk : k < 2147483648) : jrem (zi k) 100 = zi (k % 100 : Nat) := by
  unfold jrem
  rw [div100 hk, show (100 : Int32) = zi (100 : Nat) from rfl, zi_muln, zi_subn (by omega)]
  exact congrArg (fun q : Nat => zi q) (by omega)
theorem cdP_inj {x y : zPr} (hx1 : x.1 < 10) (hx2 : x.2 < 10) (hy1 : y.1 < 10) (hy2 : y.2 < 10) (h : cdP x = cdP y) : x = y := by
  unfold cdP at h
  rw [zi_eqn (by omega) (by omega)] at h
  exact Prod.ext (by omega) (by omega)
theorem told_pair {L A : List zPr} (hL : pOK T L) (hC : pC T L c) (v : Int32) : ∀ (d kf p : Nat), p + d = L.length → d < kf → (∃ q, p ≤ q ∧ q < L.length ∧ pa L q ∈ A ∧ cdP (pa L q) = v ∧ s_X2_pairOfCode_L3 kf (zw (mk L A)) v (zi p) c = some (zi (q : Nat))) ∨ (s_X2_pairOfCode_L3 kf (zw (mk L A)) v (zi p) c = some (-1) ∧ ∀ q, p ≤ q → q < L.length → pa L q ∈ A → cdP (pa L q) ≠ v) := by
  have h45 := hL.1
  intro d
  induction d with
  | zero =>
    intro kf p hp hkf
    obtain ⟨kf, rfl⟩ : ∃ z, kf = z + 1 := ⟨kf - 1, by omega⟩
    refine Or.inr ⟨?_, fun q a b => by omega⟩
    unfold s_X2_pairOfCode_L3
    rw [hC.1, if_pos ((zi_len (by omega) (by omega)).mpr (by omega))]
  | succ d ih =>
    intro kf p hp hkf
    obtain ⟨kf, rfl⟩ : ∃ z, kf = z + 1 := ⟨kf - 1, by omega⟩
    have hlt : ¬ zi (L.length : Nat) ≤ zi (p : Nat) := fun w => by rw [zi_len (by omega) (by omega)] at w; omega
    unfold s_X2_pairOfCode_L3 s_X2_pairOfCode_L34
    rw [hC.1, if_neg hlt, isIn_C (mk_lt h45) (by omega), zr_some, zif0, codeOf_C hC (show p < L.length by omega) h45, zr_some, zi_s1, mk_test, decide_eq_true (show p < L.length by omega), Bool.true_and]
    have nx := ih kf (p + 1) (by omega) (by omega)
    have nxt : ¬ (pa L p ∈ A ∧ cdP (pa L p) = v) → ∀ z, z = s_X2_pairOfCode_L3 kf (zw (mk L A)) v (zi (p + 1 : Nat)) c → (∃ q, p ≤ q ∧ q < L.length ∧ pa L q ∈ A ∧ cdP (pa L q) = v ∧ z = some (zi (q : Nat))) ∨ (z = some (-1) ∧ ∀ q, p ≤ q → q < L.length → pa L q ∈ A → cdP (pa L q) ≠ v) := fun w z hz => by
      subst hz
      rcases nx with ⟨q, q1, q2, q3, q4, q5⟩ | ⟨q1, q2⟩
      · exact Or.inl ⟨q, by omega, q2, q3, q4, q5⟩
      · refine Or.inr ⟨q1, fun q a1 a2 a3 a4 => ?_⟩
        by_cases e : q = p
        · subst e; exact w ⟨a3, a4⟩
        · exact q2 q (by omega) a2 a3 a4
    by_cases e1 : pa L p ∈ A
    · rw [decide_eq_true e1, cond_true]
      by_cases e2 : cdP (pa L p) = v
      · rw [if_pos e2]
        exact Or.inl ⟨p, Nat.le_refl _, by omega, e1, e2, rfl⟩
      · rw [if_neg e2]
        exact nxt (fun w => e2 w.2) _ rfl
    · rw [decide_eq_false e1, cond_false]
      exact nxt (fun w => e1 w.1) _ rfl
def eY0 : zEx := fun c _ k => Nat.beq c 70 || (Nat.beq c 64 && Nat.beq k 37)
/-- which the rounds of an evening are, told by the row -/
def rhQ (V : Nat → Int32) (fs i : Nat) (ρ : List zPr) : Prop := (∀ k, fs ≤ k → k < i → ∃ x, x ∈ ρ ∧ V k = cdP x) ∧ ∀ x, x ∈ ρ → ∃ k, fs ≤ k ∧ k < i ∧ V k = cdP x
theorem bl10 (hn : tn T ≤ 10) {x : zPr} (h : x ∈ pLs T) : x.1 < 10 ∧ x.2 < 10 := by
  have := pLs_mem.mp h
  omega
theorem cf_loop {T0 : zTab} (hO : tOK T) (hT : tR T r) {s o l n i fs : Nat} {V : Nat → Int32} (hs : s < 8) (q : shR s o l c r) (hV : ∀ k, k < n → nm s k c = V k) (hnl : n ≤ l) (hi : i ≤ n) {ρ : List zPr} (hρ : rhQ V fs i ρ) (hρ0 : ∀ x, x ∈ ρ → x ∈ pLs T0) (h0 : tn T0 = tn T) {y : zPr} (hy : y ∈ pLs T) {k18 : Int32 → Int32 → Int32 → Int32 → zMem → Option (Int32 × zMem)} {x2 : Int32} :
    ∀ (d kf k : Nat), k + d = i → d < kf → fs ≤ k → ∃ b : Bool, s_X7_wrongIn_L109 k18 kf (zi s) x2 (zi fs) (zi i) (zi y.1) (zi y.2) (zi k) r = (bif b then some (zi (i : Nat), r) else zb (s_X7_puts_70 (zi y.1) (zi y.2) 1 r) (fun _ m => s_X7_wrongIn_L206 k18 (zi s) x2 (zi fs) (zi i) m)) ∧ (b = true ↔ ∃ k' x, k ≤ k' ∧ k' < i ∧ x ∈ ρ ∧ V k' = cdP x ∧ cfP T x y = true) := by
  have hn := hO.1
  have l1 := q.2.1
  obtain ⟨y1, y2⟩ := bl10 hn hy
  have ym := pLs_mem.mp hy
  intro d
  induction d with
  | zero =>
    intro kf k hk hkf hfk
    obtain ⟨kf, rfl⟩ : ∃ z, kf = z + 1 := ⟨kf - 1, by omega⟩
    refine ⟨false, ?_, ⟨fun w => (by cases w), fun ⟨k', x, a1, a2, _⟩ => by omega⟩⟩
    unfold s_X7_wrongIn_L109
    rw [if_pos ((zi_len (by omega) (by omega)).mpr (by omega))]
    rfl
  | succ d ih =>
    intro kf k hk hkf hfk
    obtain ⟨kf, rfl⟩ : ∃ z, kf = z + 1 := ⟨kf - 1, by omega⟩
    have hlt : ¬ zi (i : Nat) ≤ zi (k : Nat) := fun w => by rw [zi_len (by omega) (by omega)] at w; omega
    obtain ⟨b, b1, b2⟩ := ih kf (k + 1) (by omega) (by omega) (by omega)
    obtain ⟨x, x1, x2'⟩ := hρ.1 k hfk (by omega)
    have xm := pLs_mem.mp (hρ0 x x1)
    rw [h0] at xm
    have hv : nm s k c = zi (100 * x.1 + x.2 : Nat) := (hV k (by omega)).trans x2'
    unfold s_X7_wrongIn_L109
    rw [if_neg hlt, num_R hs q (show k < l by omega), zr_some, zr_some, hv, div100 (by omega), rem100 (by omega), show (100 * x.1 + x.2) / 100 = x.1 by omega, show (100 * x.1 + x.2) % 100 = x.2 by omega, ifz (by omega) (by omega), ifz (by omega) (by omega), ifz (by omega) (by omega), ifz (by omega) (by omega), crs_R hT hO (by omega) (by omega) (by omega) (by omega), zr_some, zif0, zi_s1, b1]
    have hcf : cfP T x y = (shr x y || crsT T x.1 x.2 y.1 y.2) := rfl
    have hsh : shr x y = (decide (x.1 = y.1) || (decide (x.1 = y.2) || (decide (x.2 = y.1) || decide (x.2 = y.2)))) := rfl
    have yes : cfP T x y = true → ∀ z, z = some (zi (i : Nat), r) → ∃ b' : Bool, z = (bif b' then some (zi (i : Nat), r) else zb (s_X7_puts_70 (zi y.1) (zi y.2) 1 r) (fun _ m => s_X7_wrongIn_L206 k18 (zi s) x2 (zi fs) (zi i) m)) ∧ (b' = true ↔ ∃ k' x, k ≤ k' ∧ k' < i ∧ x ∈ ρ ∧ V k' = cdP x ∧ cfP T x y = true) := fun w z hz => ⟨true, hz, ⟨fun _ => ⟨k, x, Nat.le_refl _, by omega, x1, x2', w⟩, fun _ => rfl⟩⟩
    have no : cfP T x y = false → ∃ b' : Bool, (bif b then some (zi (i : Nat), r) else zb (s_X7_puts_70 (zi y.1) (zi y.2) 1 r) (fun _ m => s_X7_wrongIn_L206 k18 (zi s) x2 (zi fs) (zi i) m)) = (bif b' then some (zi (i : Nat), r) else zb (s_X7_puts_70 (zi y.1) (zi y.2) 1 r) (fun _ m => s_X7_wrongIn_L206 k18 (zi s) x2 (zi fs) (zi i) m)) ∧ (b' = true ↔ ∃ k' x, k ≤ k' ∧ k' < i ∧ x ∈ ρ ∧ V k' = cdP x ∧ cfP T x y = true) := fun w => ⟨b, rfl, ⟨fun e => by
      obtain ⟨k', x', a1, a2⟩ := b2.mp e
      exact ⟨k', x', by omega, a2⟩, fun ⟨k', x', a1, a2, a3, a4, a5⟩ => by
      by_cases e : k' = k
      · subst e
        have x'm := pLs_mem.mp (hρ0 x' a3)
        rw [h0] at x'm
        have : x' = x := cdP_inj (by omega) (by omega) (by omega) (by omega) (a4.symm.trans x2')
        subst this
        rw [w] at a5; cases a5
      · exact b2.mpr ⟨k', x', by omega, a2, a3, a4, a5⟩⟩⟩
    cases z1 : decide (x.1 = y.1) with
    | true => exact yes (by rw [hcf, hsh, z1]; rfl) _ rfl
    | false =>
      cases z2 : decide (x.1 = y.2) with
      | true => exact yes (by rw [hcf, hsh, z1, z2]; rfl) _ rfl
      | false =>
        cases z3 : decide (x.2 = y.1) with
        | true => exact yes (by rw [hcf, hsh, z1, z2, z3]; rfl) _ rfl
        | false =>
          cases z4 : decide (x.2 = y.2) with
          | true => exact yes (by rw [hcf, hsh, z1, z2, z3, z4]; rfl) _ rfl
          | false =>
            cases z5 : crsT T x.1 x.2 y.1 y.2 with
            | true => exact yes (by rw [hcf, hsh, z1, z2, z3, z4, z5]; rfl) _ rfl
            | false => exact no (by rw [hcf, hsh, z1, z2, z3, z4, z5]; rfl)
/-- what holds within an evening -/
def HI (T T' : zTab) (ρ : List zPr) : Prop := tOK T' ∧ cfP T' = cfP T ∧ tn T' = tn T ∧ (pLs T').Sublist (pLs T) ∧ ∀ x, x ∈ ρ → x ∈ pLs T ∧ x ∉ pLs T'
theorem HI_nil {T' : zTab} {ρ : List zPr} (h : HI T T' ρ) : HI T T' [] := ⟨h.1, h.2.1, h.2.2.1, h.2.2.2.1, fun _ hx => by cases hx⟩
theorem HI_had {T' : zTab} {ρ : List zPr} (h : HI T T' ρ) {y : zPr} (hy : y ∈ pLs T') : HI T (tHad T' y.1 y.2) (ρ ++ [y]) := by
  have ym := pLs_mem.mp hy
  refine ⟨had_ok h.1 (by omega) (by omega) (by omega), (cfP_had _ _ _).trans h.2.1, h.2.2.1, ?_, fun x hx => ?_⟩
  · rw [pLs_had hy]; exact List.filter_sublist.trans h.2.2.2.1
  · rw [pLs_had hy]
    rcases List.mem_append.mp hx with hx | hx
    · obtain ⟨a1, a2⟩ := h.2.2.2.2 x hx
      exact ⟨a1, fun w => a2 (List.mem_filter.mp w).1⟩
    · have : x = y := by simpa using hx
      subst this
      exact ⟨h.2.2.2.1.subset hy, fun w => by have := (List.mem_filter.mp w).2; simp at this⟩
theorem mk_one {L : List zPr} (hL : srt L) {p : Nat} (hp : p < L.length) : 2 ^ p = mk L [pa L p] := by
  have := mk_snoc (τ := []) hL hp
  rw [mk_nil, Nat.zero_or] at this
  exact this
theorem pC_18 {L : List zPr} {x : Int64} (hC : pC T L c) : pC T L (wL c 18 0 0 x) := by
  obtain ⟨h1, h2⟩ := hC
  refine ⟨h1, fun i hi => ?_⟩
  obtain ⟨a1, a2, a3, a4, a5⟩ := h2 i hi
  exact ⟨a1, a2, a3, by simp [wL_2, a4], by simp [wL_2, a5]⟩
theorem pC_18' {L : List zPr} {x : Int32} (hC : pC T L c) : pC T L (wI c 18 0 1 x) := by
  obtain ⟨h1, h2⟩ := hC
  refine ⟨by simp [wI_1, h1], fun i hi => ?_⟩
  obtain ⟨a1, a2, a3, a4, a5⟩ := h2 i hi
  exact ⟨by simp [wI_1, a1], by simp [wI_1, a2], by simp [wI_1, a3], a4, a5⟩
theorem hear_loop (hO : tOK T) {c0 r0 : zMem} {s o l n : Nat} (hs : s < 8) (q0 : shR s o l c0 r0) (hnl : n ≤ l) : ∀ (d kf kf' i fs : Nat) (T' : zTab) (ρ : List zPr) (c r : zMem), i + d = n → d < kf → d < kf' → fs ≤ i → HI T T' ρ → rhQ (fun k => nm s k c0) fs i ρ → pC T (pLs T) c → tR T' r → c.2 18 0 0 = zw (mk (pLs T) (pLs T')) → c.1 18 0 1 = r.1 64 0 37 → fr sI sL c0 c → fr eY0 e0 r0 r → ∃ x c' r' T'', s_X1_firstWrong_L27 kf s (zi n) (zw (mk (pLs T) ρ)) (zi i) c = some (x, c') ∧ s_X7_wrongIn_L18 kf' (zi s) (zi n) (zi fs) (zi i) r = some (x, r') ∧ HI T T'' [] ∧ tR T'' r' ∧ c'.2 18 0 0 = zw (mk (pLs T) (pLs T'')) ∧ c'.1 18 0 1 = r'.1 64 0 37 ∧ fr sI sL c0 c' ∧ fr eY0 e0 r0 r' := by
  have hn := hO.1
  have hL := pOK_pLs hO
  have h45 := hL.1
  have l1 := q0.2.1
  intro d
  induction d with
  | zero =>
    intro kf kf' i fs T' ρ c r hi hkf hkf' hfs hH hρ hC hT hl hw f1 f2
    obtain ⟨kf, rfl⟩ : ∃ z, kf = z + 1 := ⟨kf - 1, by omega⟩
    obtain ⟨kf', rfl⟩ : ∃ z, kf' = z + 1 := ⟨kf' - 1, by omega⟩
    unfold s_X1_firstWrong_L27 s_X7_wrongIn_L18
    rw [if_pos ((zi_len (by omega) (by omega)).mpr (by omega)), if_pos ((zi_len (by omega) (by omega)).mpr (by omega))]
    exact ⟨_, c, r, T', rfl, rfl, HI_nil hH, hT, hl, hw, f1, f2⟩
  | succ d ih =>
    intro kf kf' i fs T' ρ c r hi hkf hkf' hfs hH hρ hC hT hl hw f1 f2
    obtain ⟨kf, rfl⟩ : ∃ z, kf = z + 1 := ⟨kf - 1, by omega⟩
    obtain ⟨kf', rfl⟩ : ∃ z, kf' = z + 1 := ⟨kf' - 1, by omega⟩
    have hlt : ¬ zi (n : Nat) ≤ zi (i : Nat) := fun w => by rw [zi_len (by omega) (by omega)] at w; omega
    have q : shR s o l c r := shR_fr f1 f2 ⟨rfl, rfl⟩ (fun _ _ => rfl) ⟨rfl, rfl, rfl⟩ (fun _ _ => rfl) q0
    have hV : ∀ k, nm s k c = nm s k c0 := fun k => by unfold nm; rw [f1.2 9 s k rfl]
    have hn' : tn T' ≤ 10 := by rw [hH.2.2.1]; exact hn
    have stop : ∀ x : Int32, ∃ x' c' r' T'', some (x, c) = some (x', c') ∧ some (x, r) = some (x', r') ∧ HI T T'' [] ∧ tR T'' r' ∧ c'.2 18 0 0 = zw (mk (pLs T) (pLs T'')) ∧ c'.1 18 0 1 = r'.1 64 0 37 ∧ fr sI sL c0 c' ∧ fr eY0 e0 r0 r' := fun x => ⟨x, c, r, T', rfl, rfl, HI_nil hH, hT, hl, hw, f1, f2⟩
    have hV0 := hV i
    unfold s_X1_firstWrong_L27 s_X7_wrongIn_L18 s_X1_firstWrong_L125
    rw [if_neg hlt, if_neg hlt, num_C q (show i < l by omega), num_R hs q (show i < l by omega), zr_some, zr_some, zr_some, hV0, zi_s1]
    by_cases e1 : nm s i c0 = -1
    · rw [if_pos e1, if_pos e1, zlet_eq, zlet_eq, hw]
      unfold s_X7_wrongIn_L206
      rw [zi_s1]
      have hz : (0 : Int64) = zw (mk (pLs T) []) := by rw [mk_nil]; rfl
      rw [hz]
      refine ih kf kf' (i + 1) (i + 1) T' [] _ _ (by omega) (by omega) (by omega) (Nat.le_refl _) (HI_nil hH) ⟨fun k a b => by omega, fun x hx => by cases hx⟩ (pC_18' hC) ?_ hl (by simp [wI_1]) (fr_wI f1 rfl) (fr_wI f2 rfl)
      obtain ⟨a1, a2, a3, a4⟩ := hT
      refine ⟨by simp [wI_1, a1], by simp [wI_1, a2], by simp [wI_1, a3], fun g hg => ?_⟩
      simp [wI_1, a4 g hg]
    rw [if_neg e1, if_neg e1, hl]
    have tp := told_pair (A := pLs T') hL hC (nm s i c0) (pLs T).length zF 0 (by omega) (by unfold zF; omega)
    rw [show s_X2_pairOfCode (zw (mk (pLs T) (pLs T'))) (nm s i c0) c = s_X2_pairOfCode_L3 zF (zw (mk (pLs T) (pLs T'))) (nm s i c0) (zi (0 : Nat)) c from rfl]
    obtain ⟨v, hv, v1, v2⟩ := zi_of (nm s i c0)
    rw [hv] at tp e1 ⊢
    rcases tp.symm with ⟨t1, t2⟩ | ⟨p, -, p1, p2, p3, p4⟩
    · -- not WANTED
      rw [t1, zr_some, if_pos rfl]
      have hbad : ∀ y : zPr, y ∈ pLs T' → cdP y ≠ zi v := fun y hy => by
        have hy' := hH.2.2.2.1.subset hy
        obtain ⟨j, j1, j2⟩ := List.mem_iff_getElem.mp hy'
        have : pa (pLs T) j = y := by rw [pa_get j1]; exact j2
        rw [← this]
        exact t2 j (Nat.zero_le _) j1 (by rw [this]; exact hy)
      by_cases w1 : v < 0
      · rw [if_pos ((lt0 v1 v2).mpr w1)]; exact stop _
      rw [if_neg (fun w => w1 ((lt0 v1 v2).mp w))]
      obtain ⟨u, rfl⟩ : ∃ u : Nat, v = u := ⟨v.toNat, by omega⟩
      rw [div100 (by omega), rem100 (by omega), hT.1]
      by_cases w2 : u % 100 ≤ u / 100
      · rw [if_pos ((zi_len (by omega) (by omega)).mpr w2)]; exact stop _
      rw [if_neg (fun w => w2 ((zi_len (by omega) (by omega)).mp w))]
      by_cases w3 : tn T' ≤ u % 100
      · rw [if_pos ((zi_len (by omega) (by omega)).mpr w3)]; exact stop _
      rw [if_neg (fun w => w3 ((zi_len (by omega) (by omega)).mp w)), wnt_R hT hH.1 (by omega) (by omega), zr_some, zif0]
      cases hw' : wntT T' (u / 100) (u % 100) with
      | false => exact stop _
      | true =>
        refine absurd ?_ (hbad (u / 100, u % 100) (pLs_mem.mpr ⟨by show u / 100 < u % 100; omega, by show u % 100 < tn T'; omega, hw'⟩))
        show zi (100 * (u / 100) + u % 100 : Nat) = zi u
        exact congrArg (fun q : Nat => zi q) (by omega)
    · -- WANTED
      have hpp : ¬ zi (p : Nat) = -1 := fun w => by rw [li_m1, zi_eq (by omega) (by omega) (by omega) (by omega)] at w; omega
      have ym := pLs_mem.mp p2
      have yb := bl10 hn' p2
      rw [p4, zr_some, if_neg hpp, chk45 (show p < 45 by omega), ix45 (show p < 45 by omega), (hC.2 p p1).2.2.2.2, ← p3]
      unfold cdP
      have hu : ¬ zi (100 * (pa (pLs T) p).1 + (pa (pLs T) p).2 : Nat) < 0 := fun w => by have := (lt0 (by omega) (by omega)).mp w; omega
      have w2 : ¬ zi ((pa (pLs T) p).2 : Nat) ≤ zi ((pa (pLs T) p).1 : Nat) := fun w => by rw [zi_len (by omega) (by omega)] at w; omega
      have w3 : ¬ zi (tn T' : Nat) ≤ zi ((pa (pLs T) p).2 : Nat) := fun w => by rw [zi_len (by omega) (by omega)] at w; omega
      rw [if_neg hu, div100 (by omega), rem100 (by omega), show (100 * (pa (pLs T) p).1 + (pa (pLs T) p).2) / 100 = (pa (pLs T) p).1 by omega, show (100 * (pa (pLs T) p).1 + (pa (pLs T) p).2) % 100 = (pa (pLs T) p).2 by omega, if_neg w2, hT.1, if_neg w3, wnt_R hT hH.1 (by omega) (by omega), ym.2.2, zr_some, zo_t, if_neg n10]
      obtain ⟨b, b1, b2⟩ := cf_loop (T0 := T) (k18 := s_X7_wrongIn_L18 kf') (x2 := zi n) hH.1 hT hs q (fun k _ => hV k) hnl (show i ≤ n by omega) hρ (fun x hx => (hH.2.2.2.2 x hx).1) hH.2.2.1.symm p2 (i - fs) zF fs (by omega) (by unfold zF; omega) (Nat.le_refl _)
      rw [b1]
      have hcond : (lg_cmp (zw (bset (fB T (pLs T) p) (pLs T).length) &&& zw (mk (pLs T) ρ)) 0 = 0) ↔ b = false := by
        rw [zw_and (bset63 _ (by omega)) (mk_lt h45), lg_cmp_0, show (0 : Int64) = zw 0 from rfl, zw_inj (Nat.lt_trans (Nat.lt_of_le_of_lt Nat.and_le_left (bset63 _ (by omega))) (by omega)) (by omega)]
        unfold mk
        rw [grp_zero (Nat.le_refl _)]
        constructor
        · intro w
          cases hb : b with
          | false => rfl
          | true =>
            obtain ⟨k', x, a1, a2, a3, a4, a5⟩ := b2.mp hb
            obtain ⟨x1, x2⟩ := hH.2.2.2.2 x a3
            obtain ⟨j, j1, j2⟩ := List.mem_iff_getElem.mp x1
            have hx : pa (pLs T) j = x := by rw [pa_get j1]; exact j2
            have := w j j1
            have hne : p ≠ j := fun e => x2 (by rw [← hx, ← e]; exact p2)
            rw [hx, decide_eq_true a3, Bool.and_true] at this
            unfold fB at this
            rw [decide_eq_true hne, hx, Bool.true_and, cfP_sym hO (isP_pa p1) (by have := isP_pa j1; rwa [hx] at this), ← hH.2.1, a5] at this
            cases this
        · intro hb j j1
          cases hd : (fB T (pLs T) p j && decide (pa (pLs T) j ∈ ρ)) with
          | false => rfl
          | true =>
            obtain ⟨d1, d2⟩ := Bool.and_eq_true_iff.mp hd
            unfold fB at d1
            obtain ⟨-, d1⟩ := Bool.and_eq_true_iff.mp d1
            have d2 := of_decide_eq_true d2
            obtain ⟨k', a1, a2, a3⟩ := hρ.2 _ d2
            have : b = true := b2.mpr ⟨k', _, a1, a2, d2, a3, by rw [hH.2.1, cfP_sym hO (isP_pa j1) (isP_pa p1)]; exact d1⟩
            rw [this] at hb; cases hb
      cases b with
      | true =>
        rw [if_neg (fun w => by have := hcond.mp w; cases this), cond_true]
        exact stop _
      | false =>
        rw [if_pos (hcond.mpr rfl), cond_false, zlet_eq, zlet_eq]
        have hf : (tH T' (pa (pLs T) p).1).testBit (pa (pLs T) p).2 = false := (wnt_had ym.2.2).2.1
        rcases puts70_R hT hH.1 (show (pa (pLs T) p).1 < tn T' by omega) (show (pa (pLs T) p).2 < tn T' by omega) (show (pa (pLs T) p).1 ≠ (pa (pLs T) p).2 by omega) 1 with ⟨e, -⟩ | ⟨-, r1, e2, e3, e4⟩
        · rw [hf] at e; exact absurd e (by decide)
        · rw [e2, zb_some]
          unfold s_X7_wrongIn_L206
          rw [zi_s1, zw_shl1 (show p < 63 by omega), zw_or (mk_lt h45) (two63 (show p ≤ 45 by omega)), mk_snoc hL.2.1 p1, zw_andn (mk_lt h45) (two63 (show p ≤ 45 by omega)), mk_one hL.2.1 p1, mk_andn]
          have hfl : (pLs T').filter (fun y => decide (y ∉ [pa (pLs T) p])) = pLs (tHad T' (pa (pLs T) p).1 (pa (pLs T) p).2) := by
            rw [pLs_had p2]
            exact List.filter_congr (fun y _ => by simp)
          rw [hfl]
          have f3 : fr eY0 e0 r0 r1 := fr_trans f2 (fr_mono e4 (fun _ _ _ w => (Bool.or_eq_false_iff.mp w).1) (fun _ _ _ _ => rfl))
          refine ih kf kf' (i + 1) fs _ (ρ ++ [pa (pLs T) p]) _ r1 (by omega) (by omega) (by omega) (by omega) (HI_had hH p2) ⟨fun k a1 a2 => ?_, fun x hx => ?_⟩ (pC_18 hC) e3 (by simp [wL_2]) (by rw [e4.1 64 0 37 rfl]; exact hw) (fr_wL f1 rfl) f3
          · by_cases e : k = i
            · subst e
              exact ⟨pa (pLs T) p, by simp, hv.trans p3.symm⟩
            · obtain ⟨x, x1, x2⟩ := hρ.1 k a1 (by omega)
              exact ⟨x, List.mem_append_left _ x1, x2⟩
          · rcases List.mem_append.mp hx with hx | hx
            · obtain ⟨k, k1, k2, k3⟩ := hρ.2 x hx
              exact ⟨k, k1, by omega, k3⟩
            · have : x = pa (pLs T) p := by simpa using hx
              subst this
              exact ⟨i, by omega, by omega, hv.trans p3.symm⟩
end Z9
