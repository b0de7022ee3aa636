/-! OPS: says -/
section Z3
variable {T : zTab} {c r : zMem}
theorem may_loop (h : Rel T c r) {g : Nat} (hg : g < tn T) : ∀ (d kf i n : Nat), i + d = tn T → d < kf → ∃ v, s_X5_mayOf_L4 kf 0 (zi g) (zi n) (zi i) c = some v ∧ s_X7_says_L186 kf (zi g) (zi n) (zi i) r = some (v, r) := by
  have hn := h.1.1
  intro d
  induction d with
  | zero =>
    intro kf i n hi hkf
    obtain ⟨kf, rfl⟩ : ∃ z, kf = z + 1 := ⟨kf - 1, by omega⟩
    unfold s_X5_mayOf_L4 s_X7_says_L186
    rw [h.2.1.1, h.2.2.1.1, if_pos ((zi_len (by omega) (by omega)).mpr (by omega)), if_pos ((zi_len (by omega) (by omega)).mpr (by omega))]
    exact ⟨_, rfl, rfl⟩
  | succ d ih =>
    intro kf i n hi hkf
    obtain ⟨kf, rfl⟩ : ∃ z, kf = z + 1 := ⟨kf - 1, by omega⟩
    unfold s_X5_mayOf_L4 s_X7_says_L186 s_X5_mayOf_L31 s_X5_mayOf_L32 s_X7_says_L214
    have hlt : ¬ zi (tn T : Nat) ≤ zi (i : Nat) := fun w => by rw [zi_len (by omega) (by omega)] at w; omega
    rw [h.2.1.1, h.2.2.1.1, if_neg hlt, if_neg hlt, show zi (n : Nat) + 0 = zi (n : Nat) from zi_addn n 0, show zi (n : Nat) + 1 = zi (n + 1 : Nat) from zi_addn n 1, zi_s1]
    by_cases e : i = g
    · subst e
      rw [if_pos rfl, if_pos rfl]
      exact ih kf (i + 1) n (by omega) (by omega)
    · have ne : ¬ zi (i : Nat) = zi (g : Nat) := fun w => e ((zi_eqn (by omega) (by omega)).mp w)
      rw [if_neg ne, if_neg ne, may_C h.2.1 h.1 hg (by omega), may_R h.2.2.1 h.1 hg (by omega), zr_some, zr_some, zif0, zif0]
      cases mayT T g i with
      | false => exact ih kf (i + 1) n (by omega) (by omega)
      | true => exact ih kf (i + 1) (n + 1) (by omega) (by omega)
theorem lt7 {a : Nat} (h : a < 7) : a = 0 ∨ a = 1 ∨ a = 2 ∨ a = 3 ∨ a = 4 ∨ a = 5 ∨ a = 6 := by omega
theorem saysK {α : Type} (A B : α) : ∀ a, a < 7 → ∀ k, k < 7 → (if k = 1 then if a = 3 then (if k = 0 then A else if k = a then A else if (1 : Nat) = 0 then B else A) else (if k = 2 then if a = 5 then (if k = 0 then A else if k = a then A else if (1 : Nat) = 0 then B else A) else (if k = 4 then if a = 6 then (if k = 0 then A else if k = a then A else if (1 : Nat) = 0 then B else A) else (if k = 0 then A else if k = a then A else if True then B else A) else (if k = 0 then A else if k = a then A else if True then B else A)) else (if k = 4 then if a = 6 then (if k = 0 then A else if k = a then A else if (1 : Nat) = 0 then B else A) else (if k = 0 then A else if k = a then A else if True then B else A) else (if k = 0 then A else if k = a then A else if True then B else A))) else (if k = 2 then if a = 5 then (if k = 0 then A else if k = a then A else if (1 : Nat) = 0 then B else A) else (if k = 4 then if a = 6 then (if k = 0 then A else if k = a then A else if (1 : Nat) = 0 then B else A) else (if k = 0 then A else if k = a then A else if True then B else A) else (if k = 0 then A else if k = a then A else if True then B else A)) else (if k = 4 then if a = 6 then (if k = 0 then A else if k = a then A else if (1 : Nat) = 0 then B else A) else (if k = 0 then A else if k = a then A else if True then B else A) else (if k = 0 then A else if k = a then A else if True then B else A)))) = bif kin a k then A else B := by
  intro a ha k hk
  rcases lt7 ha with rfl | rfl | rfl | rfl | rfl | rfl | rfl <;> rcases lt7 hk with rfl | rfl | rfl | rfl | rfl | rfl | rfl <;> rfl
theorem op_says (h : Rel T c r) (a b : Int32) : OK2 (s_X6_says a b c) (s_X7_says a b r) := by
  have hn := h.1.1
  have R1 := ok2_ref h 1 (by omega) (by omega) (show (-1 : Int32) = zi (-((1 : Nat) : Int)) from rfl)
  have R2 := ok2_ref h 2 (by omega) (by omega) (show (-2 : Int32) = zi (-((2 : Nat) : Int)) from rfl)
  have R3 := ok2_ref h 3 (by omega) (by omega) (show (-3 : Int32) = zi (-((3 : Nat) : Int)) from rfl)
  unfold s_X6_says s_X7_says s_X6_says_L14 s_X7_says_L18 s_X6_says_L72 s_X6_isKind
  rcases (shelf2 a).symm with ⟨s3, s4⟩ | ⟨s, p1, p2, s3, s4⟩
  · rw [s3, s4]; exact R1
  subst p2
  rw [s3, s4, zr_some, zr_some, ite_10, ite_10]
  obtain ⟨x, rfl, x1, x2⟩ := zi_of b
  have l7 : 7 ≤ zi x ↔ 7 ≤ x := zi_le (a := 7) (by omega) (by omega) x1 x2
  have l6 : zi x ≤ 6 ↔ x ≤ 6 := zi_le (b := 6) x1 x2 (by omega) (by omega)
  by_cases h1 : x < 0
  · rw [if_pos ((lt0 x1 x2).mpr h1), if_pos ((lt0 x1 x2).mpr h1)]; exact R1
  rw [if_neg (fun w => h1 ((lt0 x1 x2).mp w)), if_neg (fun w => h1 ((lt0 x1 x2).mp w))]
  by_cases h2 : 7 ≤ x
  · rw [if_pos (l7.mpr h2), if_neg (fun w => by have := l6.mp w; omega)]; exact R1
  rw [if_neg (fun w => h2 (l7.mp w)), if_pos (l6.mpr (by omega)), zr_some, ite_10]
  obtain ⟨k, rfl⟩ : ∃ k : Nat, x = k := ⟨x.toNat, by omega⟩
  have hk : k < 7 := by omega
  simp only [chk_zn p1 (show (8 : Nat) < 2147483648 by decide), ix_zn (show s < 2147483648 by omega)]
  rcases h.2.2.2.2.2.1 s p1 with P | ⟨g, P⟩ | ⟨o, l, P⟩
  · rw [show s_X4_isEmpty s c = some 1 from by unfold s_X4_isEmpty; rw [P.1]; rfl, zr_some, ite_10, P.2.2, if_neg n01, if_pos y00]; exact R3
  · have hg := P.1
    have he : s_X5_exists 0 (zi (g : Nat)) c = some 1 := by
      unfold s_X5_exists
      rw [h.2.1.1, if_neg (fun w => by have := (lt0 (by omega) (by omega)).mp w; omega), if_neg (fun w => by rw [zi_len (by omega) (by omega)] at w; omega)]
    obtain ⟨k1, k2, k3, k4, k5, k6, k7, k8⟩ := h.1.g hg
    obtain ⟨d1, d2, d3, d4, d5⟩ := h.2.1.2.2.2 g hg
    obtain ⟨e1, e2, e3, e4, e5⟩ := h.2.2.1.2.2.2 g hg
    rw [show s_X4_isEmpty s c = some 0 from by unfold s_X4_isEmpty; rw [P.2.1, if_neg (fun w => by rw [li_m1, zi_eq (by omega) (by omega) (by omega) (by omega)] at w; omega)], zr_some, ite_00, P.2.1, zlet_eq, he, zr_some, ite_10, isOf_C h.2.1 h.1 hg (show k < 32 by omega), zr_some, P.2.2.2.1, if_neg n21, if_neg n20, P.2.2.2.2, zlet_eq, chk_zn (show g < 10 by omega) (by decide), ix_zn (show g < 2147483648 by omega), e1, zlet_eq, zif0]
    unfold s_X7_says_L86 s_X7_says_L97 s_X7_says_L109 s_X7_says_L113 s_X7_says_L114
    generalize hA : s_X7_says_L138 (zi (k : Nat)) (zi (g : Nat)) 0 r = A
    generalize hB : zb (s_X7_no (-2) r) (fun (r29 : Int32) (m30 : zMem) => some (r29, m30)) = B at R2 ⊢
    have hE := saysK A B (tK T g) k1 k hk
    have z0 : ∀ (u v : Nat), u < 7 → v < 7 → (zi (u : Nat) = zi (v : Nat)) = (u = v) := fun u v hu hv => propext (zi_eqn (by omega) (by omega))
    rw [show (0 : Int32) = zi (0 : Nat) from rfl, show (1 : Int32) = zi (1 : Nat) from rfl, show (2 : Int32) = zi (2 : Nat) from rfl, show (3 : Int32) = zi (3 : Nat) from rfl, show (4 : Int32) = zi (4 : Nat) from rfl, show (5 : Int32) = zi (5 : Nat) from rfl, show (6 : Int32) = zi (6 : Nat) from rfl]
    simp only [z0 k 0 hk (by decide), z0 k 1 hk (by decide), z0 k 2 hk (by decide), z0 k 4 hk (by decide), z0 (tK T g) 3 k1 (by decide), z0 (tK T g) 5 k1 (by decide), z0 (tK T g) 6 k1 (by decide), z0 k (tK T g) hk k1, z0 1 0 (by decide) (by decide), z0 0 0 (by decide) (by decide)]
    rw [hE]
    cases hK : kin (tK T g) k with
    | false => exact R2
    | true =>
      simp only [cond_true]
      rw [← hA]
      obtain ⟨v, v1, v2⟩ := may_loop h hg (tn T) zF 0 0 (by omega) (by unfold zF; omega)
      have m1 : s_X5_mayOf 0 (zi (g : Nat)) c = some v := v1
      have m2 : s_X7_says_L186 zF (zi (g : Nat)) 0 0 r = some (v, r) := v2
      unfold s_X6_wordsOf s_X7_says_L138
      rw [m1, m2, chk_zn (show g < 10 by omega) (by decide), chk_zn (show g < 10 by omega) (by decide), chk_zn (show g < 10 by omega) (by decide), chk_zn (show g < 10 by omega) (by decide), chk_zn (show g < 10 by omega) (by decide), ix_zn (show g < 2147483648 by omega), d2, d3, e2, e3, slw_C h.2.1 h.1 hg, wants_C h.2.1 h.1 hg, lacks_R h.2.2.1 h.1 hg]
      simp only [zr_some, count_R hn]
      rcases lt7 hk with rfl | rfl | rfl | rfl | rfl | rfl | rfl
      · exact ok2_same h rfl
      · exact ok2_same h rfl
      · refine ok2_same h ?_
        unfold slwT
        rw [hK]; rfl
      · exact ok2_same h rfl
      · exact ok2_same h rfl
      · exact ok2_same h rfl
      · exact ok2_same h rfl
  · rw [show s_X4_isEmpty s c = some 0 from by
        have w1 := P.1
        unfold s_X4_isEmpty; rw [P.2.2.1, if_neg (fun w => by rw [li_m1, zi_eq (by omega) (by omega) (by omega) (by omega)] at w; omega)], zr_some, ite_00, P.2.2.1, zlet_eq, show s_X5_exists 0 (zi (100 + o : Nat)) c = some 0 from by
        have w1 := P.1
        unfold s_X5_exists
        rw [h.2.1.1, if_neg (fun w => by have := (lt0 (by omega) (by omega)).mp w; omega), if_pos (by rw [zi_len (by omega) (by omega)]; omega)], zr_some, ite_00, P.2.2.2.2.1, if_pos y11]
    exact R2
end Z3
