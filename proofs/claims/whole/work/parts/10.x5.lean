/-! OPS: roundOf -/
section X5
variable {T : zTab} {c r : zMem}
theorem rof_loop (hO : tOK T) {m0 : zMem} {R : Nat} (hR : R < 2147483648) {b : Int32} : ∀ (d kf k : Nat) (m : zMem), k + d = 45 → d + 1 < kf → k ≤ R → (∀ j, j < k → Ls T j ≠ []) → tR (tK' T k) m → fr eB e0 m0 m → (∀ j, j < 10 → m.1 85 0 j = m0.1 70 0 j) → ∃ m' on, s_X7_roundOf_L25 kf (zi R) b 1 (zi k) m = s_X7_roundOf_L54 b on m' ∧ fr eB e0 m0 m' ∧ (∀ j, j < 10 → m'.1 85 0 j = m0.1 70 0 j) ∧ ((on = 1 ∧ (∀ j, j < R → Ls T j ≠ []) ∧ tR (tK' T R) m') ∨ (on = 0 ∧ ∃ j, j < R ∧ Ls T j = [])) := by
  intro d
  induction d with
  | zero =>
    intro kf k m hk hkf hkR hj hT hf h85
    obtain ⟨kf, rfl⟩ : ∃ z, kf = z + 2 := ⟨kf - 2, by omega⟩
    obtain rfl : k = 45 := by omega
    by_cases e : R = 45
    · subst e
      unfold s_X7_roundOf_L25
      rw [if_pos (by rw [zi_len (by omega) (by omega)]; omega)]
      exact ⟨m, 1, rfl, hf, h85, Or.inl ⟨rfl, hj, hT⟩⟩
    · obtain ⟨m1, a1, a2, a3, -⟩ := round_k hO hT
      obtain ⟨l1, l2⟩ := lng_0 hO 45
      unfold s_X7_roundOf_L25 s_X7_roundOf_L47
      rw [if_neg (by rw [zi_len (by omega) (by omega)]; omega), if_neg n10, a1, zb_some, l2.mpr (Ls_45 hO), if_pos (by decide), zi_s1]
      unfold s_X7_roundOf_L25
      have hx : (if zi (R : Nat) ≤ zi (45 + 1 : Nat) then s_X7_roundOf_L54 b 0 m1 else s_X7_roundOf_L54 b 0 m1) = s_X7_roundOf_L54 b 0 m1 := by split <;> rfl
      refine ⟨m1, 0, ?_, fr_trans hf (fr_BQ a3), fun j hj2 => (a3.1 85 0 j rfl).trans (h85 j hj2), Or.inr ⟨rfl, 45, by omega, Ls_45 hO⟩⟩
      rw [if_pos (show (0 : Int32) = 0 from rfl)]
      exact hx
  | succ d ih =>
    intro kf k m hk hkf hkR hj hT hf h85
    obtain ⟨kf, rfl⟩ : ∃ z, kf = z + 2 := ⟨kf - 2, by omega⟩
    by_cases e : R = k
    · subst e
      unfold s_X7_roundOf_L25
      rw [if_pos (by rw [zi_len (by omega) (by omega)]; omega)]
      exact ⟨m, 1, rfl, hf, h85, Or.inl ⟨rfl, hj, hT⟩⟩
    · obtain ⟨m1, a1, a2, a3, -⟩ := round_k hO hT
      obtain ⟨l1, l2⟩ := lng_0 hO k
      have hle : zi (lng T 0 (mS (tK' T k)) : Nat) ≤ (0 : Int32) ↔ lng T 0 (mS (tK' T k)) ≤ 0 := zi_len (b := 0) (by omega) (by omega)
      unfold s_X7_roundOf_L25 s_X7_roundOf_L47
      rw [if_neg (by rw [zi_len (by omega) (by omega)]; omega), if_neg n10, a1, zb_some, zi_s1]
      by_cases z : Ls T k = []
      · rw [if_pos (hle.mpr (by rw [l2.mpr z]; omega))]
        unfold s_X7_roundOf_L25
        have hx : (if zi (R : Nat) ≤ zi (k + 1 : Nat) then s_X7_roundOf_L54 b 0 m1 else s_X7_roundOf_L54 b 0 m1) = s_X7_roundOf_L54 b 0 m1 := by split <;> rfl
        refine ⟨m1, 0, ?_, fr_trans hf (fr_BQ a3), fun j hj2 => (a3.1 85 0 j rfl).trans (h85 j hj2), Or.inr ⟨rfl, k, by omega, z⟩⟩
        rw [if_pos (show (0 : Int32) = 0 from rfl)]
        exact hx
      · rw [if_neg (fun w => z (l2.mp (by have := hle.mp w; omega)))]
        refine ih (kf + 1) (k + 1) m1 (by omega) (by omega) (by omega) (fun j hj2 => ?_) a2 (fr_trans hf (fr_BQ a3)) (fun j hj2 => (a3.1 85 0 j rfl).trans (h85 j hj2))
        by_cases q : j = k
        · rw [q]; exact z
        · exact hj j (by omega)
/-- the end, where nothing is wanted any more -/
theorem rof_none (h : Rel T c r) {b : Int32} (hb : -1 ≤ b) {m : zMem} (hf : fr eB e0 r m) (h85 : ∀ j, j < 10 → m.1 85 0 j = r.1 70 0 j) : OK2 (zb (s_X6_refuse (-5) c) (fun x m => some (x, m))) (s_X7_roundOf_L66 b 0 m) := by
  obtain ⟨m2, b1, b2, b3⟩ := brings_R m
  have h' : Rel T c m2 := Rel_back h (fr_refl _ _ _) (fr_trans hf (fr_B70 b3)) (fun j hj => (b2 j hj).trans (h85 j hj))
  have hR := ok2_ref h' 5 (by omega) (by omega) (show (-5 : Int32) = zi (-((5 : Nat) : Int)) from rfl)
  unfold s_X7_roundOf_L66 s_X7_roundOf_L98 s_X7_roundOf_L115
  rw [b1, zr_some, zr_some]
  obtain ⟨x, rfl, x1, x2⟩ := zi_of b
  have e1 : zi x = -1 ↔ x = -1 := by rw [li_m1]; exact zi_eq x1 x2 (by omega) (by omega)
  have l1 : -1 ≤ zi x ↔ -1 ≤ x := by rw [li_m1]; exact zi_le (by omega) (by omega) x1 x2
  have l0 : 0 ≤ zi x ↔ 0 ≤ x := zi_le (a := 0) (by omega) (by omega) x1 x2
  have hx := l1.mp hb
  by_cases e : x = -1
  · rw [if_pos (e1.mpr e), if_pos rfl]; exact hR
  · rw [if_neg (fun w => e (e1.mp w)), if_pos (l0.mpr (by omega)), if_pos rfl]; exact hR
theorem op_roundOf (h : Rel T c r) (a b : Int32) : OK2 (s_X6_roundOf a b c) (s_X7_roundOf a b r) := by
  have hO := h.1
  have h45 := pLs_45 hO
  have hR := ok2_ref h 5 (by omega) (by omega) (show (-5 : Int32) = zi (-((5 : Nat) : Int)) from rfl)
  unfold s_X6_roundOf s_X7_roundOf s_X6_roundOf_L10 s_X7_roundOf_L9
  obtain ⟨x, rfl, x1, x2⟩ := zi_of a
  by_cases h0 : x < 0
  · rw [if_pos ((lt0 x1 x2).mpr h0), if_pos ((lt0 x1 x2).mpr h0)]; exact hR
  obtain ⟨R, rfl⟩ : ∃ R : Nat, x = R := ⟨x.toNat, by omega⟩
  rw [if_neg (fun w => h0 ((lt0 x1 x2).mp w)), if_neg (fun w => h0 ((lt0 x1 x2).mp w))]
  obtain ⟨c1, a1, a2, a3⟩ := draw2 h
  have l45 : zi (R : Nat) < (45 : Int32) ↔ R < 45 := zi_ltn (b := 45) (by omega) (by omega)
  by_cases hb : -1 ≤ b
  · rw [if_pos hb]
    obtain ⟨r1, y1, y2, y3⟩ := keeps_R r
    obtain ⟨r2, on, z1, z2, z3, z4⟩ := rof_loop hO (m0 := r) (R := R) (by omega) (b := b) 45 zF 0 r1 (by omega) (by unfold zF; omega) (Nat.zero_le _) (fun j hj => absurd hj (Nat.not_lt_zero j)) (tR_fr (T := T) y3 rfl rfl rfl (fun _ => ⟨rfl, rfl, rfl, rfl, rfl⟩) h.2.2.1) (fr_B85 y3) y2
    rw [y1, zr_some, show s_X7_roundOf_L25 zF (zi (R : Nat)) b 1 0 r1 = _ from z1]
    -- where too few ROUNDS are: both refuse
    have few : ∀ m, fr eB e0 r m → (∀ j, j < 10 → m.1 85 0 j = r.1 70 0 j) → (R < 45 → ∃ j, j ≤ R ∧ Ls T j = []) → OK2 (if zi (R : Nat) < (45 : Int32) then zr (s_X2_draw 0 c) (fun (m5 : zMem) => zb (s_X2_makeRounds (zi (R : Nat) + 1) m5) (fun (r7 : Int32) (m8 : zMem) => if zi (R : Nat) < r7 then chk (zi (R : Nat)) 45 ( zb (s_X6_pairOrCount (m8.2 16 0 (ix (zi (R : Nat)))) b m8) (fun (r12 : Int32) (m13 : zMem) => some (r12, m13))) else zb (s_X6_refuse (-5) m8) (fun (r15 : Int32) (m16 : zMem) => some (r15, m16)))) else zb (s_X6_refuse (-5) c) (fun x m => some (x, m))) (s_X7_roundOf_L66 b 0 m) := by
      intro m g1 g2 g3
      by_cases q : R < 45
      · obtain ⟨M, c2, b1, b2, b3, b4, b5⟩ := makeRounds_C hO (show R + 1 ≤ 1000 by omega) a2
        have h' : Rel T c2 r := Rel_fr (fr_trans a3 b5) (fr_refl _ _ _) h
        obtain ⟨j, j1, j2⟩ := g3 q
        have hM := b2.2.1
        have w : ¬ R < M := fun w => b2.2.2.1 j (by omega) j2
        rw [if_pos (l45.mpr q), a1, zr_some, zi_s1, b1, zb_some, if_neg (fun z => w ((zi_ltn (by omega) (by omega)).mp z))]
        exact rof_none h' hb g1 g2
      · rw [if_neg (fun z => q (l45.mp z))]
        exact rof_none h hb g1 g2
    rcases z4 with ⟨rfl, g1, g2⟩ | ⟨rfl, j, j1, j2⟩
    · have hoR := tK'_ok hO R
      obtain ⟨r3, u1, u2, u3, u4, u5, u6⟩ := mostOf_T hoR g2
      have hl := mst_len (T := tK' T R) (pLs (tK' T R)) (fun _ => true)
      have h5 := mS_len5 hoR
      have f3 : fr eB e0 r r3 := fr_trans z2 (fr_BM u6)
      have k3 : ∀ j, j < 10 → r3.1 85 0 j = r.1 70 0 j := fun j hj => (u6.1 85 0 j rfl).trans (z3 j hj)
      unfold s_X7_roundOf_L54
      rw [if_neg n10, u1, zb_some]
      by_cases z : Ls T R = []
      · have : (mst (tK' T R) (pLs (tK' T R)) (fun _ => true)).1 = 0 := by
          have e1 : mS (tK' T R) = [] := List.sublist_nil.mp (z ▸ mS_sub (tK' T R))
          have e2 : (mst (tK' T R) (pLs (tK' T R)) (fun _ => true)).2 = [] := e1
          rw [← hl, e2]; rfl
        rw [this]
        exact few r3 f3 k3 (fun _ => ⟨R, Nat.le_refl _, z⟩)
      · have q : R < 45 := by
          rcases Nat.lt_or_ge R 45 with q | q
          · exact q
          · rcases Nat.lt_or_ge 45 R with q2 | q2
            · exact absurd (Ls_45 hO) (g1 45 q2)
            · exact absurd (show Ls T R = [] by rw [show R = 45 by omega]; exact Ls_45 hO) z
        obtain ⟨M, c2, b1, b2, b3, b4, b5⟩ := makeRounds_C hO (show R + 1 ≤ 1000 by omega) a2
        have hM : M = R + 1 := by
          obtain ⟨m1, m2, m3, m4⟩ := b2
          rcases m4 with e | e
          · exact e
          · rcases Nat.lt_trichotomy M R with q3 | q3 | q3
            · exact absurd e (g1 M q3)
            · exact absurd (q3 ▸ e) z
            · omega
        obtain ⟨r4, v1, v2, v3⟩ := brings_R r3
        have h' : Rel T c2 r4 := Rel_back h (fr_trans a3 b5) (fr_trans f3 (fr_B70 v3)) (fun j hj => (v2 j hj).trans (k3 j hj))
        rw [if_pos (l45.mpr q), a1, zr_some, zi_s1, b1, zb_some, if_pos ((zi_ltn (by omega) (by omega)).mpr (show R < M by omega)), chk45 (by omega), ix45 (by omega), b4 R (by omega), ← hl]
        have hpos : 1 ≤ (mS (tK' T R)).length := List.length_pos_iff.mpr (mS_ne hoR z)
        have ht := told2 h' b3 (mS_tK hO R) b (X := some (cdP (pa (mS (tK' T R)) (ix b)), r4)) (fun i hi hbi => by rw [hbi, ix_zn (by omega)])
        have hK : (mst (tK' T R) (pLs (tK' T R)) (fun _ => true)).2 = mS (tK' T R) := rfl
        rw [hK]
        unfold s_X7_roundOf_L66 s_X7_roundOf_L98 s_X7_roundOf_L115
        rw [v1, zr_some, zr_some]
        have nz : ¬ zi (mS (tK' T R)).length = 0 := fun w => by
          have := (zi_eqn (b := 0) (by omega) (by omega)).mp w; omega
        have nm : ¬ zi (mS (tK' T R)).length = -1 := fun w => by
          rw [li_m1, zi_eq (by omega) (by omega) (by omega) (by omega)] at w; omega
        by_cases e : b = -1
        · rw [if_pos e, if_neg nz, if_neg nm]
          rw [if_pos e] at ht
          exact ht
        · rw [if_neg e]
          rw [if_neg e] at ht
          obtain ⟨y, rfl, w1, w2⟩ := zi_of b
          have hy : 0 ≤ y := by
            rw [li_m1, zi_le (by omega) (by omega) w1 w2] at hb
            rcases Int.lt_or_le y 0 with q4 | q4
            · exact absurd (show zi y = -1 by rw [show y = -1 by omega]; rfl) e
            · exact q4
          rw [if_neg (fun w => by have := (lt0 w1 w2).mp w; omega)] at ht
          by_cases e2 : zi (mS (tK' T R)).length ≤ zi y
          · rw [if_pos e2, if_neg nz, if_pos rfl]
            rw [if_pos e2] at ht
            exact ht
          · rw [if_neg e2]
            rw [if_neg e2] at ht
            obtain ⟨i, rfl⟩ : ∃ i : Nat, y = i := ⟨y.toNat, by omega⟩
            have hi : i < (mS (tK' T R)).length := by
              rw [zi_len (by omega) (by omega)] at e2; omega
            obtain ⟨j, j1, j2, j3⟩ := u5 i hi
            rw [ix_zn (by omega)] at ht
            rw [chk_zn (show i < 5 by omega) (by decide), ix_zn (show i < 2147483648 by omega), j2, codeOf_R u2 j1 (pLs_45 hoR), zr_some, zr_some, if_neg nz, j3, if_neg (fun w => by
              have hb := pLs_mem.mp ((mS_sub (tK' T R)).subset (pa_mem hi))
              have hn := hoR.1
              have w' : zi (100 * (pa (mS (tK' T R)) i).1 + (pa (mS (tK' T R)) i).2 : Nat) = -1 := w
              rw [li_m1, zi_eq (by omega) (by omega) (by omega) (by omega)] at w'
              omega)]
            exact ht
    · unfold s_X7_roundOf_L54
      rw [if_pos rfl]
      exact few r2 z2 z3 (fun _ => ⟨j, by omega, j2⟩)
  · rw [if_neg hb]
    by_cases q : R < 45
    · obtain ⟨M, c2, b1, b2, b3, b4, b5⟩ := makeRounds_C hO (show R + 1 ≤ 1000 by omega) a2
      have h' : Rel T c2 r := Rel_fr (fr_trans a3 b5) (fr_refl _ _ _) h
      have hR' := ok2_ref h' 5 (by omega) (by omega) (show (-5 : Int32) = zi (-((5 : Nat) : Int)) from rfl)
      have hM := b2.2.1
      rw [if_pos (l45.mpr q), a1, zr_some, zi_s1, b1, zb_some]
      by_cases w : R < M
      · rw [if_pos ((zi_ltn (by omega) (by omega)).mpr w), chk45 (by omega), ix45 (by omega), b4 R w]
        have ht := told2 h' b3 (mS_tK hO R) b (X := none) (fun i hi hbi => absurd (by rw [hbi, show (-1 : Int32) = zi (-1) from rfl, zi_le (by omega) (by omega) (by omega) (by have := mS_len5 (tK'_ok hO R); omega)]; omega) hb)
        rw [if_neg (fun z => hb (by rw [z]; decide)), if_pos (by
          obtain ⟨y, rfl, y1, y2⟩ := zi_of b
          rw [lt0 y1 y2]
          rw [show (-1 : Int32) = zi (-1) from rfl, zi_le (by omega) (by omega) y1 y2] at hb
          omega)] at ht
        exact ht
      · rw [if_neg (fun z => w ((zi_ltn (by omega) (by omega)).mp z))]; exact hR'
    · rw [if_neg (fun z => q (l45.mp z))]; exact hR
end X5
