/-! OPS: act -/
section Z6
variable {T : zTab} {c r c0 r0 : zMem}
def fA : zEx := fun c _ k => (Nat.beq c 20 && Nat.ble 1 k) || Nat.beq c 21
def fA' : zEx := fun c _ k => (Nat.beq c 64 && Nat.beq k 40) || Nat.beq c 88
def acI (B : Nat) (c r : zMem) : Prop := ∃ k, k ≤ B ∧ c.1 20 0 1 = zi (k : Nat) ∧ r.1 64 0 40 = zi (k : Nat) ∧ ∀ i, i < 20 → c.1 21 0 i = r.1 88 0 i
/-- within an act(): KIND a, number g, amount u -/
def AS (a g u : Nat) (c0 r0 : zMem) (B : Nat) (c r : zMem) : Prop := c.1 20 0 2 = zLN.getD a 0 ∧ c.1 20 0 3 = zi (g : Nat) ∧ c.1 20 0 4 = zi (u : Nat) ∧ r.1 66 0 g = zi (a : Nat) ∧ r.1 67 0 g = zi (u : Nat) ∧ acI B c r ∧ fr fA e0 c0 c ∧ fr fA' e0 r0 r
section AA
variable {a g u B : Nat}
theorem is_A (ha : a < 7) (h : AS a g u c0 r0 B c r) {k : Nat} (hk : k < 32) {kk : Int32} (hkk : kk = zi (k : Nat)) : s_X0_is kk c = some (zo (kin a k)) := by
  obtain ⟨l1, l2⟩ := kin_LN a ha
  subst hkk
  unfold s_X0_is
  rw [h.1, l1, zi_bit l2 hk, zif0, zsome_zo]
  rfl
theorem begin2 (h : AS a g u c0 r0 B c r) (hB : B < 1000) (x : Int32) : ∃ c' r', s_X0_begin x c = some c' ∧ s_X7_body x r = some r' ∧ AS a g u c0 r0 (B + 1) c' r' := by
  obtain ⟨q1, q2, q3, q4, q5, ⟨k, k1, k2, k3, k4⟩, q7, q8⟩ := h
  unfold s_X0_begin s_X7_body s_X0_begin_L19 s_X7_body_L19
  rw [k2, k3, show (20 : Int32) = zi (20 : Nat) from rfl]
  by_cases e : 20 ≤ k
  · rw [if_pos ((zi_len (by omega) (by omega)).mpr e), if_pos ((zi_len (by omega) (by omega)).mpr e), zlet_eq, zlet_eq, zi_s1]
    exact ⟨_, _, rfl, rfl, q1, q2, q3, q4, q5, ⟨k + 1, by omega, by simp [wI_1], by simp [wI_1], fun i hi => by simp [wI_1]; exact k4 i hi⟩, fr_wI q7 rfl, fr_wI q8 rfl⟩
  · rw [if_neg (fun w => e ((zi_len (by omega) (by omega)).mp w)), if_neg (fun w => e ((zi_len (by omega) (by omega)).mp w)), chk_zn (show k < 20 by omega) (by decide), chk_zn (show k < 20 by omega) (by decide), zlet_eq, zlet_eq, zlet_eq, zlet_eq, ix_zn (show k < 2147483648 by omega), show (wI c 21 0 k x).1 20 0 1 = zi (k : Nat) from by simp [wI_1, k2], show (wI r 88 0 k x).1 64 0 40 = zi (k : Nat) from by simp [wI_1, k3], zi_s1]
    refine ⟨_, _, rfl, rfl, by simp [wI_1, q1], by simp [wI_1, q2], by simp [wI_1, q3], by simp [wI_1, q4], by simp [wI_1, q5], ⟨k + 1, by omega, by simp [wI_1], by simp [wI_1], fun i hi => ?_⟩, fr_wI (fr_wI q7 rfl) rfl, fr_wI (fr_wI q8 rfl) rfl⟩
    by_cases ei : i = k
    · subst ei; simp [wI_1]
    · simp [wI_1, ei]; exact k4 i hi
theorem AS_up (h : AS a g u c0 r0 B c r) : AS a g u c0 r0 (B + 1) c r := by
  obtain ⟨q1, q2, q3, q4, q5, ⟨k, k1, k2⟩, q7, q8⟩ := h
  exact ⟨q1, q2, q3, q4, q5, ⟨k, by omega, k2⟩, q7, q8⟩
theorem bif2 (ha : a < 7) (h : AS a g u c0 r0 B c r) (hB : B < 1000) {k : Nat} (hk : k < 32) {kk : Int32} (hkk : kk = zi (k : Nat)) (x : Int32) : ∃ c' r', s_X0_beginIf kk x c = some c' ∧ (bif kin a k then s_X7_body x r else some r) = some r' ∧ AS a g u c0 r0 (B + 1) c' r' := by
  unfold s_X0_beginIf
  rw [is_A ha h hk hkk, zr_some, zif0]
  cases kin a k with
  | false => exact ⟨c, r, rfl, rfl, AS_up h⟩
  | true =>
    obtain ⟨c', r', a1, a2, a3⟩ := begin2 h hB x
    rw [a1, a2]
    exact ⟨c', r', rfl, rfl, a3⟩
theorem if_zi {α : Type} {a b : Nat} (ha : a < 100) (hb : b < 100) (X Y : α) : (if zi (a : Nat) = zi (b : Nat) then X else Y) = if a = b then X else Y := by
  by_cases e : a = b
  · rw [if_pos e, if_pos (by rw [e])]
  · rw [if_neg e, if_neg (fun w => e ((zi_eqn (by omega) (by omega)).mp w))]
theorem L19_eq (ha : a < 7) (x1 x2 : Int32) (m : zMem) : s_X7_clinking_L19 x1 x2 (zi (a : Nat)) m = zr (bif kin a 4 then s_X7_body 51 m else some m) (fun m => s_X7_clinking_L36 x1 x2 (zi (a : Nat)) m) := by
  unfold s_X7_clinking_L19 s_X7_clinking_L30
  rw [show (4 : Int32) = zi (4 : Nat) from rfl, show (6 : Int32) = zi (6 : Nat) from rfl, if_zi (by omega) (by omega), if_zi (by omega) (by omega)]
  rcases lt7 ha with rfl | rfl | rfl | rfl | rfl | rfl | rfl <;> rfl
theorem L36_eq (ha : a < 7) (x1 x2 : Int32) (m : zMem) : s_X7_clinking_L36 x1 x2 (zi (a : Nat)) m = zr (bif kin a 1 then s_X7_body 20 m else some m) (fun m => s_X7_clinking_L52 x1 x2 (zi (a : Nat)) m) := by
  unfold s_X7_clinking_L36 s_X7_clinking_L46
  rw [show (1 : Int32) = zi (1 : Nat) from rfl, show (3 : Int32) = zi (3 : Nat) from rfl, if_zi (by omega) (by omega), if_zi (by omega) (by omega)]
  rcases lt7 ha with rfl | rfl | rfl | rfl | rfl | rfl | rfl <;> rfl
theorem clink_eq (ha : a < 7) (hg : g < 10) {m : zMem} (h66 : m.1 66 0 g = zi (a : Nat)) (x : Int32) : s_X7_clinking (zi (g : Nat)) x m = zr (bif kin a 6 then s_X7_body 70 m else some m) (fun m => s_X7_clinking_L19 (zi (g : Nat)) x (zi (a : Nat)) m) := by
  unfold s_X7_clinking
  rw [chk_zn hg (by decide), ix_zn (by omega), h66, zlet_eq, show (6 : Int32) = zi (6 : Nat) from rfl, if_zi (by omega) (by omega)]
  rcases lt7 ha with rfl | rfl | rfl | rfl | rfl | rfl | rfl <;> rfl
def cv (a g u : Nat) (x : Int32) : Int32 := bif kin a 6 then (bif kin a 4 then (bif kin a 1 then x + zi g + zi u else x + zi g) - zi g else (bif kin a 1 then x + zi g + zi u else x + zi g)) * 2 else (bif kin a 4 then (bif kin a 1 then x + zi g + zi u else x + zi g) - zi g else (bif kin a 1 then x + zi g + zi u else x + zi g))
theorem clkR_val (ha : a < 7) (hg : g < 10) {m : zMem} (h67 : m.1 67 0 g = zi (u : Nat)) (x : Int32) : (if zi (a : Nat) = 1 then s_X7_clinking_L73 (zi (g : Nat)) (zi (a : Nat)) (x + zi (g : Nat)) m else if zi (a : Nat) = 3 then s_X7_clinking_L73 (zi (g : Nat)) (zi (a : Nat)) (x + zi (g : Nat)) m else s_X7_clinking_L84 (zi (g : Nat)) (zi (a : Nat)) (x + zi (g : Nat)) m) = some (cv a g u x, m) := by
  unfold s_X7_clinking_L73 s_X7_clinking_L84 s_X7_clinking_L95 s_X7_clinking_L101 cv
  rw [chk_zn hg (by decide), ix_zn (by omega), h67, zlet_eq, show (1 : Int32) = zi (1 : Nat) from rfl, show (3 : Int32) = zi (3 : Nat) from rfl, show (4 : Int32) = zi (4 : Nat) from rfl, show (6 : Int32) = zi (6 : Nat) from rfl]
  simp only [if_zi (show a < 100 by omega) (show 1 < 100 by omega), if_zi (show a < 100 by omega) (show 3 < 100 by omega), if_zi (show a < 100 by omega) (show 4 < 100 by omega), if_zi (show a < 100 by omega) (show 6 < 100 by omega)]
  rcases lt7 ha with rfl | rfl | rfl | rfl | rfl | rfl | rfl <;> rfl
theorem clkC_val (ha : a < 7) (h : AS a g u c0 r0 B c r) (x : Int32) : zr (s_X0_is 1 c) (fun (r15 : Int32) => if r15 = 0 then s_X0_clinksOf_L52 (x + zi (g : Nat)) 0 c else s_X0_clinksOf_L52 (x + zi (g : Nat)) (c.1 20 0 4) c) = some (cv a g u x, c) := by
  unfold s_X0_clinksOf_L52 s_X0_clinksOf_L71 cv
  rw [is_A ha h (show 1 < 32 by omega) (kk := 1) rfl, is_A ha h (show 4 < 32 by omega) (kk := 4) rfl, is_A ha h (show 6 < 32 by omega) (kk := 6) rfl, h.2.1, h.2.2.1]
  simp only [zr_some, zif0]
  cases kin a 1 <;> cases kin a 4 <;> cases kin a 6 <;> simp only [cond_true, cond_false, Int32.add_zero, Int32.sub_zero, Int32.mul_comm]
theorem clinks2 (ha : a < 7) (hg : g < 10) (h : AS a g u c0 r0 B c r) (hB : B < 900) (x : Int32) : ∃ v c' r', s_X0_clinksOf x c = some (v, c') ∧ s_X7_clinking (zi (g : Nat)) x r = some (v, r') ∧ AS a g u c0 r0 (B + 4) c' r' := by
  obtain ⟨c1, r1, a1, a2, a3⟩ := bif2 ha h (by omega) (k := 6) (kk := 6) (by omega) rfl 70
  obtain ⟨c2, r2, b1, b2, b3⟩ := bif2 ha a3 (by omega) (k := 4) (kk := 4) (by omega) rfl 51
  obtain ⟨c3, r3, d1, d2, d3⟩ := bif2 ha b3 (by omega) (k := 1) (kk := 1) (by omega) rfl 20
  obtain ⟨c4, r4, e1, e2, e3⟩ := begin2 d3 (by omega) 10
  refine ⟨cv a g u x, c4, r4, ?_, ?_, e3⟩
  · unfold s_X0_clinksOf
    rw [a1, zr_some, b1, zr_some, d1, zr_some, e1, zr_some, zlet_eq, e3.2.1]
    exact clkC_val ha e3 x
  · rw [clink_eq ha hg h.2.2.2.1, a2, zr_some, L19_eq ha, b2, zr_some, L36_eq ha, d2, zr_some]
    unfold s_X7_clinking_L52
    rw [e2, zr_some]
    exact clkR_val ha hg e3.2.2.2.2.1 x
def wy (a u : Nat) (x : Int32) : Int32 := bif kin a 3 then x + 1 else bif kin a 6 then x - zi u else x
theorem wait_eq (ha : a < 7) (hg : g < 10) {m : zMem} (h66 : m.1 66 0 g = zi (a : Nat)) (x : Int32) (h67 : ∀ m', s_X7_body 71 m = some m' → m'.1 67 0 g = zi (u : Nat)) : s_X7_waiting (zi (g : Nat)) x m = zr (bif kin a 6 then s_X7_body 71 m else some m) (fun m => zr (bif kin a 3 then s_X7_body 40 m else some m) (fun m => zr (bif kin a 2 then s_X7_body 30 m else some m) (fun m => s_X7_waiting_L76 (zi (g : Nat)) (wy a u x) (zo (kin a 2)) m))) := by
  unfold s_X7_waiting s_X7_waiting_L32 s_X7_waiting_L48 s_X7_waiting_L58 s_X7_waiting_L63 wy
  rw [chk_zn hg (by decide), ix_zn (by omega), h66, zlet_eq, show (6 : Int32) = zi (6 : Nat) from rfl, show (3 : Int32) = zi (3 : Nat) from rfl, show (2 : Int32) = zi (2 : Nat) from rfl, show (5 : Int32) = zi (5 : Nat) from rfl]
  simp only [if_zi (show a < 100 by omega) (show 2 < 100 by omega), if_zi (show a < 100 by omega) (show 3 < 100 by omega), if_zi (show a < 100 by omega) (show 5 < 100 by omega), if_zi (show a < 100 by omega) (show 6 < 100 by omega)]
  cases hb : s_X7_body 71 m with
  | none => rcases lt7 ha with rfl | rfl | rfl | rfl | rfl | rfl | rfl <;> rfl
  | some m' =>
    have hm := h67 m' hb
    simp only [zr_some, zlet_eq, hm]
    rcases lt7 ha with rfl | rfl | rfl | rfl | rfl | rfl | rfl <;> rfl
theorem waits2 (ha : a < 7) (hg : g < 10) (h : AS a g u c0 r0 B c r) (hB : B < 800) (x : Int32) : ∃ v c' r', s_X0_waitsOf x c = some (v, c') ∧ s_X7_waiting (zi (g : Nat)) x r = some (v, r') ∧ AS a g u c0 r0 (B + 8) c' r' := by
  obtain ⟨c1, r1, a1, a2, a3⟩ := bif2 ha h (by omega) (k := 6) (kk := 6) (by omega) rfl 71
  obtain ⟨c2, r2, b1, b2, b3⟩ := bif2 ha a3 (by omega) (k := 3) (kk := 3) (by omega) rfl 40
  obtain ⟨c3, r3, d1, d2, d3⟩ := bif2 ha b3 (by omega) (k := 2) (kk := 2) (by omega) rfl 30
  obtain ⟨c4, r4, e1, e2, e3⟩ := begin2 d3 (by omega) 11
  obtain ⟨v, c5, r5, f1, f2, f3⟩ := clinks2 ha hg e3 (by omega) (wy a u x)
  refine ⟨bif kin a 2 then v * 2 * 3 else v * 2, c5, r5, ?_, ?_, f3⟩
  · have key : zr (s_X0_is 3 c4) (fun (r14 : Int32) => if r14 = 0 then s_X0_waitsOf_L44 x 0 c4 else s_X0_waitsOf_L44 x 1 c4) = zb (s_X0_clinksOf (wy a u x) c4) (fun (r20 : Int32) (m21 : zMem) => zr (s_X0_is 2 m21) (fun (r23 : Int32) => if r23 = 0 then some ((r20 * 2), m21) else some ((3 * (r20 * 2)), m21))) := by
      unfold s_X0_waitsOf_L44 s_X0_waitsOf_L64 wy
      rw [is_A ha e3 (show 3 < 32 by omega) (kk := 3) rfl, is_A ha e3 (show 6 < 32 by omega) (kk := 6) rfl, e3.2.2.1]
      simp only [zr_some, zif0]
      rcases lt7 ha with rfl | rfl | rfl | rfl | rfl | rfl | rfl
      all_goals (simp only [show kin 0 3 = false from rfl, show kin 1 3 = false from rfl, show kin 2 3 = false from rfl, show kin 3 3 = true from rfl, show kin 4 3 = false from rfl, show kin 5 3 = false from rfl, show kin 6 3 = false from rfl, show kin 0 6 = false from rfl, show kin 1 6 = false from rfl, show kin 2 6 = false from rfl, show kin 3 6 = false from rfl, show kin 4 6 = false from rfl, show kin 5 6 = false from rfl, show kin 6 6 = true from rfl, cond_true, cond_false, Int32.add_zero, Int32.sub_zero])
    unfold s_X0_waitsOf
    rw [a1, zr_some, b1, zr_some, d1, zr_some, e1, zr_some, key, f1, zb_some, is_A ha f3 (show 2 < 32 by omega) (kk := 2) rfl, zr_some, zif0]
    cases kin a 2 with
    | false => rfl
    | true => rw [cond_true, cond_true, Int32.mul_comm 3]
  · rw [wait_eq (u := u) ha hg h.2.2.2.1 x (fun m' hm => by
      obtain ⟨cc, rr, _, y2, y3⟩ := begin2 h (by omega) 71
      rw [hm] at y2
      cases y2
      exact y3.2.2.2.2.1), a2, zr_some, b2, zr_some, d2, zr_some]
    unfold s_X7_waiting_L76
    rw [e2, zr_some, f2, zb_some, zif0]
    cases kin a 2 <;> rfl
theorem look_eq (ha : a < 7) (hg : g < 10) {m : zMem} (h66 : m.1 66 0 g = zi (a : Nat)) (x : Int32) : s_X7_looking (zi (g : Nat)) x m = zr (bif kin a 5 then s_X7_body 60 m else some m) (fun m => zr (bif kin a 4 then s_X7_body 50 m else some m) (fun m => s_X7_looking_L35 (zi (g : Nat)) x (zi (a : Nat)) m)) := by
  unfold s_X7_looking s_X7_looking_L18 s_X7_looking_L24
  rw [chk_zn hg (by decide), ix_zn (by omega), h66, zlet_eq, show (6 : Int32) = zi (6 : Nat) from rfl, show (4 : Int32) = zi (4 : Nat) from rfl, show (5 : Int32) = zi (5 : Nat) from rfl]
  simp only [if_zi (show a < 100 by omega) (show 4 < 100 by omega), if_zi (show a < 100 by omega) (show 5 < 100 by omega), if_zi (show a < 100 by omega) (show 6 < 100 by omega)]
  rcases lt7 ha with rfl | rfl | rfl | rfl | rfl | rfl | rfl <;> rfl
theorem looks2 (ha : a < 7) (hg : g < 10) (h : AS a g u c0 r0 B c r) (hB : B < 700) (x : Int32) : ∃ v c' r', s_X0_looksOf x c = some (v, c') ∧ s_X7_looking (zi (g : Nat)) x r = some (v, r') ∧ AS a g u c0 r0 (B + 15) c' r' := by
  obtain ⟨c1, r1, a1, a2, a3⟩ := bif2 ha h (by omega) (k := 5) (kk := 5) (by omega) rfl 60
  obtain ⟨c2, r2, b1, b2, b3⟩ := bif2 ha a3 (by omega) (k := 4) (kk := 4) (by omega) rfl 50
  obtain ⟨c4, r4, e1, e2, e3⟩ := begin2 b3 (by omega) 12
  obtain ⟨v, c5, r5, f1, f2, f3⟩ := waits2 ha hg e3 (by omega) x
  obtain ⟨w, c6, r6, g1, g2, g3⟩ := clinks2 ha hg f3 (by omega) (x - zi u)
  refine ⟨bif kin a 5 then (bif kin a 4 then -(v ^^^ w) else v ^^^ w) ^^^ 5 else (bif kin a 4 then -(v ^^^ w) else v ^^^ w), c6, r6, ?_, ?_, g3⟩
  · unfold s_X0_looksOf s_X0_looksOf_L53
    rw [a1, zr_some, b1, zr_some, e1, zr_some, f1, zb_some, f3.2.2.1, g1, zb_some, is_A ha g3 (show 4 < 32 by omega) (kk := 4) rfl, is_A ha g3 (show 5 < 32 by omega) (kk := 5) rfl]
    simp only [zr_some, zif0]
    cases kin a 4 <;> cases kin a 5 <;> rfl
  · rw [look_eq ha hg h.2.2.2.1, a2, zr_some, b2, zr_some]
    unfold s_X7_looking_L35 s_X7_looking_L78
    rw [e2, zr_some, f2, zb_some, chk_zn hg (by decide), ix_zn (by omega), f3.2.2.2.2.1, g2, zb_some, show (6 : Int32) = zi (6 : Nat) from rfl, show (4 : Int32) = zi (4 : Nat) from rfl]
    generalize v ^^^ w = y
    rw [if_zi (by omega) (by omega), if_zi (by omega) (by omega)]
    have e5 : (zi (a : Nat) = (5 : Int32)) ↔ a = 5 := zi_eqn (b := 5) (by omega) (by omega)
    rcases lt7 ha with rfl | rfl | rfl | rfl | rfl | rfl | rfl <;> first | rfl | (simp only [e5]; rfl)
end AA
theorem op_act (h : Rel T c r) (a b x : Int32) : OK2 (s_X6_act a b x c) (s_X7_act a b x r) := by
  obtain ⟨q1, q2, q3, q4, q5, q6, q7, q8, q9, q10⟩ := h
  have hn := q1.1
  have fin : ∀ (c' r' : zMem), fr fA e0 c c' → fr fA' e0 r r' → acI 1000 c' r' → Rel T c' r' := fun c' r' f1 f2 ⟨k, _, k2, k3, k4⟩ =>
    ⟨q1, tC_fr f1 (fun _ => ⟨rfl, rfl, rfl, rfl, rfl, rfl⟩) q2, tR_fr f2 rfl rfl rfl (fun _ => ⟨rfl, rfl, rfl, rfl, rfl⟩) q3, cntQ_fr f1 f2 (fun _ _ => rfl) ⟨rfl, rfl, rfl⟩ q4, picQ_fr f1 f2 rfl (fun _ => ⟨rfl, rfl, rfl, rfl, rfl, rfl⟩) rfl (fun _ => rfl) q5, shlQ_fr f1 f2 (fun _ => ⟨rfl, rfl⟩) (fun _ _ => rfl) (fun _ => ⟨rfl, rfl, rfl, rfl⟩) (fun _ => rfl) q6, rfsQ_fr f1 f2 (fun _ => rfl) (fun _ => rfl) q7, ftQ_fr f1 f2 rfl rfl q8, ⟨by rw [k2, k3], k4⟩, wdQ_fr f2 (fun _ => rfl) q10⟩
  have i0 : acI 0 (wI c 20 0 1 0) (wI r 64 0 40 0) := ⟨0, Nat.le_refl _, by simp [wI_1]; rfl, by simp [wI_1]; rfl, fun i hi => by simp [wI_1]; exact q9.2 i hi⟩
  have w1 : fr fA e0 c (wI c 20 0 1 0) := fr_wI (fr_refl _ _ _) rfl
  have w2 : fr fA' e0 r (wI r 64 0 40 0) := fr_wI (fr_refl _ _ _) rfl
  have up : ∀ {B : Nat} {c' r' : zMem}, B ≤ 1000 → acI B c' r' → acI 1000 c' r' := fun hB ⟨k, k1, k2⟩ => ⟨k, by omega, k2⟩
  have none : OK2 (some ((0 : Int32), wI c 20 0 1 0)) (some ((0 : Int32), wI r 64 0 40 0)) := ⟨_, _, _, T, rfl, rfl, fin _ _ w1 w2 (up (by omega) i0)⟩
  have h0 : Rel T (wI c 20 0 1 0) (wI r 64 0 40 0) := fin _ _ w1 w2 (up (by omega) i0)
  unfold s_X6_act s_X7_act s_X0_forget
  rw [zlet_eq, zr_some, zlet_eq]
  rcases (guest2 h0 a).symm with ⟨g3, g4⟩ | ⟨g, g1, rfl, g3, g4⟩
  · rw [g3, g4]; exact none
  rw [g3, g4, zr_some, zr_some, ite_10, ite_10, chk_zn (show g < 10 by omega) (by decide), ix_zn (by omega)]
  obtain ⟨k1, k2, k3, k4, k5, k6, k7, k8⟩ := q1.g g1
  obtain ⟨d1, d2, d3, d4, d5⟩ := h0.2.1.2.2.2 g g1
  obtain ⟨e1, e2, e3, e4, e5⟩ := h0.2.2.1.2.2.2 g g1
  have l7 : ¬ (7 : Int32) ≤ zi (tK T g) := fun w => by rw [show (7 : Int32) = zi (7 : Nat) from rfl, zi_len (by omega) (by omega)] at w; omega
  unfold s_X0_run s_X6_isKind
  rw [d1, d3, if_neg (fun w => by have := (lt0 (by omega) (by omega)).mp w; omega), if_neg l7, zr_some, ite_10, chk_zn k1 (by decide), ix_zn (by omega)]
  unfold s_X0_run_L17
  rw [zlet_eq, zlet_eq, zlet_eq]
  have hA : AS (tK T g) g (tA T g) c r 0 (wI (wI (wI (wI c 20 0 1 0) 20 0 2 (zLN.getD (tK T g) 0)) 20 0 3 (zi g)) 20 0 4 (zi (tA T g))) (wI r 64 0 40 0) := by
    obtain ⟨j, j1, j2, j3, j4⟩ := i0
    exact ⟨by simp [wI_1], by simp [wI_1], by simp [wI_1], e1, e3, ⟨j, j1, by simp [wI_1] at j2 ⊢; exact j2, j3, fun i hi => by simp [wI_1]; exact q9.2 i hi⟩, fr_wI (fr_wI (fr_wI w1 rfl) rfl) rfl, w2⟩
  generalize hc : wI (wI (wI (wI c 20 0 1 0) 20 0 2 (zLN.getD (tK T g) 0)) 20 0 3 (zi g)) 20 0 4 (zi (tA T g)) = c1 at hA ⊢
  have end2 : ∀ {B : Nat} {c' r' : zMem}, B ≤ 1000 → AS (tK T g) g (tA T g) c r B c' r' → Rel T c' r' := fun hB hq => fin _ _ hq.2.2.2.2.2.2.1 hq.2.2.2.2.2.2.2 (up hB hq.2.2.2.2.2.1)
  obtain ⟨y, rfl, y1, y2⟩ := zi_of b
  have z1 : zi y = 0 ↔ y = 0 := zi_eq (b := 0) y1 y2 (by omega) (by omega)
  have z2 : zi y = 1 ↔ y = 1 := zi_eq (b := 1) y1 y2 (by omega) (by omega)
  have z3 : zi y = 2 ↔ y = 2 := zi_eq (b := 2) y1 y2 (by omega) (by omega)
  have z4 : zi y ≤ 2 ↔ y ≤ 2 := zi_le (b := 2) y1 y2 (by omega) (by omega)
  by_cases x0 : y = 0
  · obtain ⟨v, c', r', f1, f2, f3⟩ := clinks2 k1 (show g < 10 by omega) hA (by omega) x
    rw [if_pos (z1.mpr x0), if_neg (fun w => by have := (lt0 y1 y2).mp w; omega), if_pos (z4.mpr (by omega)), if_pos (z1.mpr x0), f1, f2]
    exact ⟨_, _, _, T, rfl, rfl, end2 (by omega) f3⟩
  rw [if_neg (fun w => x0 (z1.mp w))]
  by_cases x1 : y = 1
  · obtain ⟨v, c', r', f1, f2, f3⟩ := waits2 k1 (show g < 10 by omega) hA (by omega) x
    rw [if_pos (z2.mpr x1), if_neg (fun w => by have := (lt0 y1 y2).mp w; omega), if_pos (z4.mpr (by omega)), if_neg (fun w => x0 (z1.mp w)), if_pos (z2.mpr x1), f1, f2]
    exact ⟨_, _, _, T, rfl, rfl, end2 (by omega) f3⟩
  rw [if_neg (fun w => x1 (z2.mp w))]
  by_cases x2 : y = 2
  · obtain ⟨v, c', r', f1, f2, f3⟩ := looks2 k1 (show g < 10 by omega) hA (by omega) x
    rw [if_pos (z3.mpr x2), if_neg (fun w => by have := (lt0 y1 y2).mp w; omega), if_pos (z4.mpr (by omega)), if_neg (fun w => x0 (z1.mp w)), if_neg (fun w => x1 (z2.mp w)), f1, f2]
    exact ⟨_, _, _, T, rfl, rfl, end2 (by omega) f3⟩
  rw [if_neg (fun w => x2 (z3.mp w)), zb_some]
  have hz : OK2 (some ((0 : Int32), c1)) (some ((0 : Int32), wI r 64 0 40 0)) := ⟨_, _, _, T, rfl, rfl, end2 (by omega) hA⟩
  by_cases x3 : y < 0
  · rw [if_pos ((lt0 y1 y2).mpr x3)]; exact hz
  · rw [if_neg (fun w => x3 ((lt0 y1 y2).mp w)), if_neg (fun w => by have := z4.mp w; omega)]; exact hz
end Z6
