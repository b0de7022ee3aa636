/-! OPS: image (the call) -/
section Y7
variable {T : zTab} {c r : zMem}
theorem op_image (h : Rel T c r) : OK2 (s_X6_image c) (s_X7_image r) := by
  obtain ⟨q1, q2, q3, q4, q5, q6, q7, q8, q9, q10⟩ := h
  have hn := q1.1
  obtain ⟨c1, a1, a2, a3, a4, a5, a6⟩ := takeOver_C (t := 2) q2 hn (by decide)
  have g1 : fr (fun c _ k => Nat.beq c 64 && Nat.beq k 41) e0 r (wI r 64 0 41 1) := fr_wI (fr_refl _ _ _) rfl
  obtain ⟨r1, b1, b2, b3, b4, b5, b6⟩ := all80_R (tR_fr g1 rfl rfl rfl (fun _ => ⟨rfl, rfl, rfl, rfl, rfl⟩) q3) hn
  have f1 : fr (fun c j k => fT 2 c j k || (Nat.beq c 0 && Nat.beq k 3)) e0 c (wI c1 0 0 3 1) := fr_wI (fr_mono a3 (fun _ _ _ w => (Bool.or_eq_false_iff.mp w).1) (fun _ _ _ _ => rfl)) rfl
  have f2 : fr (fun c j k => f80 c j k || (Nat.beq c 64 && Nat.beq k 41)) e0 r r1 := fr_trans (fr_mono g1 (fun _ _ _ w => (Bool.or_eq_false_iff.mp w).2) (fun _ _ _ _ => rfl)) (fr_mono b6 (fun _ _ _ w => (Bool.or_eq_false_iff.mp w).1) (fun _ _ _ _ => rfl))
  have t0 : tC 0 T (wI c1 0 0 3 1) := tC_fr f1 (fun _ => ⟨rfl, rfl, rfl, rfl, rfl, rfl⟩) q2
  have t1 : tR T r1 := tR_fr f2 rfl rfl rfl (fun _ => ⟨rfl, rfl, rfl, rfl, rfl⟩) q3
  have hc3 : fr (fun c _ k => Nat.beq c 0 && Nat.beq k 3) e0 c1 (wI c1 0 0 3 1) := fr_wI (fr_refl _ _ _) rfl
  have t2 : tC 2 T (wI c1 0 0 3 1) := tC_fr hc3 (fun _ => ⟨rfl, rfl, rfl, rfl, rfl, rfl⟩) a2
  unfold s_X6_image s_X7_image
  rw [a1, zr_some, zlet_eq, zlet_eq, b1, zr_some, t0.1, t1.1]
  refine ⟨_, _, _, T, rfl, rfl, q1, t0, t1, cntQ_fr f1 f2 (fun _ _ => rfl) ⟨rfl, rfl, rfl⟩ q4, Or.inr ⟨by simp [wI_1], ?_, T, q1, t2, b2, ?_, ?_, ?_⟩, shlQ_fr f1 f2 (fun _ => ⟨rfl, rfl⟩) (fun _ _ => rfl) (fun _ => ⟨rfl, rfl, rfl, rfl⟩) (fun _ => rfl) q6, rfsQ_fr f1 f2 (fun _ => rfl) (fun _ => rfl) q7, ftQ_fr f1 f2 rfl rfl q8, acQ_fr f1 f2 rfl (fun _ => rfl) rfl (fun _ => rfl) q9, wdQ_fr f2 (fun _ => rfl) q10⟩
  · rw [b6.1 64 0 41 rfl]; simp [wI_1]
  · rw [b3]; simp [wI_1, a4, q4.1]
  · rw [b4]; simp [wI_1, a5, q4.2.1]
  · rw [b5]; simp [wI_1, a6, q4.2.2]
end Y7
