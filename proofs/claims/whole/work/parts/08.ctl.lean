/-! jumps, switches, returns, calls, contracts -/
/-- where a jump goes: (kind, target) -/
def zjmp (cc : ByteArray) (pc : Nat) : Nat × Nat := match decode cc pc with
  | .ok (.ifCond .eq off, 3) => (1, ((pc : Int) + off).toNat)
  | .ok (.ifCond .ne off, 3) => (2, ((pc : Int) + off).toNat)
  | .ok (.ifCond .lt off, 3) => (3, ((pc : Int) + off).toNat)
  | .ok (.ifCond .ge off, 3) => (4, ((pc : Int) + off).toNat)
  | .ok (.ifCond .gt off, 3) => (5, ((pc : Int) + off).toNat)
  | .ok (.ifCond .le off, 3) => (6, ((pc : Int) + off).toNat)
  | .ok (.if_icmp .eq off, 3) => (7, ((pc : Int) + off).toNat)
  | .ok (.if_icmp .ne off, 3) => (8, ((pc : Int) + off).toNat)
  | .ok (.if_icmp .lt off, 3) => (9, ((pc : Int) + off).toNat)
  | .ok (.if_icmp .ge off, 3) => (10, ((pc : Int) + off).toNat)
  | .ok (.if_icmp .gt off, 3) => (11, ((pc : Int) + off).toNat)
  | .ok (.if_icmp .le off, 3) => (12, ((pc : Int) + off).toNat)
  | .ok (.goto off, 3) => (13, ((pc : Int) + off).toNat)
  | .ok (.ireturn, 1) => (14, 0)
  | .ok (.lreturn, 1) => (15, 0)
  | .ok (.return_, 1) => (16, 0)
  | .ok (.invokevirtual i, 3) => (20, i)
  | .ok (.invokestatic i, 3) => (21, i)
  | _ => (0, 0)
/-- the same, and the target isn't before the code -/
def zjok (cc : ByteArray) (pc : Nat) : Bool := match decode cc pc with
  | .ok (.ifCond _ off, _) => decide (0 ≤ (pc : Int) + off)
  | .ok (.if_icmp _ off, _) => decide (0 ≤ (pc : Int) + off)
  | .ok (.goto off, _) => decide (0 ≤ (pc : Int) + off)
  | _ => true
def zj (cc : ByteArray) (pc k t : Nat) : Bool := decide (zjmp cc pc = (k, t)) && zjok cc pc
section ZCTL
variable {w : zWd} {f : zFr} {o nL d pc : Nat} {cc : ByteArray} {L : List (Option zPV)} {st : List zPV} {M : zWM}
theorem zjd_if_eq {tgt : Nat} (h : zj cc pc 1 tgt = true) : ∃ off : Int, decode cc pc = .ok (.ifCond .eq off, 3) ∧ (pc : Int) + off = (tgt : Int) := by
  unfold zj at h
  rw [Bool.and_eq_true, decide_eq_true_eq] at h
  obtain ⟨h1, h2⟩ := h
  unfold zjmp at h1
  unfold zjok at h2
  split at h1 <;> first | (exfalso; revert h1; simp; done) | skip
  rename_i off hd
  rw [hd] at h2
  refine ⟨off, hd, ?_⟩
  have e := congrArg Prod.snd h1
  have e2 := of_decide_eq_true h2
  dsimp only at e
  omega
theorem zif_eq {x : Int32} {tgt : Nat} (hF : zFOK w f o cc nL d) (hd : zj cc pc 1 tgt = true) (kt : x = 0 → zG w f nL tgt (L, st, M)) (kf : ¬ x = 0 → zG w f nL (pc + 3) (L, st, M)) : zG w f nL pc (L, .inl x :: st, M) := by
  obtain ⟨off, hd, ht⟩ := zjd_if_eq hd
  obtain ⟨p, l, e, R, s, m, args, below, meth, c, cells, slots, Q, z⟩ := f
  intro hn H locs ls hP hS hL
  exact lv_if_eq hF.1 hF.2.1 hd ht (fun q => kt q hn H locs ls hP hS hL) (fun q => kf q hn H locs ls hP hS hL)
theorem zjd_if_ne {tgt : Nat} (h : zj cc pc 2 tgt = true) : ∃ off : Int, decode cc pc = .ok (.ifCond .ne off, 3) ∧ (pc : Int) + off = (tgt : Int) := by
  unfold zj at h
  rw [Bool.and_eq_true, decide_eq_true_eq] at h
  obtain ⟨h1, h2⟩ := h
  unfold zjmp at h1
  unfold zjok at h2
  split at h1 <;> first | (exfalso; revert h1; simp; done) | skip
  rename_i off hd
  rw [hd] at h2
  refine ⟨off, hd, ?_⟩
  have e := congrArg Prod.snd h1
  have e2 := of_decide_eq_true h2
  dsimp only at e
  omega
theorem zif_ne {x : Int32} {tgt : Nat} (hF : zFOK w f o cc nL d) (hd : zj cc pc 2 tgt = true) (kt : x = 0 → zG w f nL (pc + 3) (L, st, M)) (kf : ¬ x = 0 → zG w f nL tgt (L, st, M)) : zG w f nL pc (L, .inl x :: st, M) := by
  obtain ⟨off, hd, ht⟩ := zjd_if_ne hd
  obtain ⟨p, l, e, R, s, m, args, below, meth, c, cells, slots, Q, z⟩ := f
  intro hn H locs ls hP hS hL
  exact lv_if_ne hF.1 hF.2.1 hd ht (fun q => kf q hn H locs ls hP hS hL) (fun q => kt q hn H locs ls hP hS hL)
theorem zjd_if_lt {tgt : Nat} (h : zj cc pc 3 tgt = true) : ∃ off : Int, decode cc pc = .ok (.ifCond .lt off, 3) ∧ (pc : Int) + off = (tgt : Int) := by
  unfold zj at h
  rw [Bool.and_eq_true, decide_eq_true_eq] at h
  obtain ⟨h1, h2⟩ := h
  unfold zjmp at h1
  unfold zjok at h2
  split at h1 <;> first | (exfalso; revert h1; simp; done) | skip
  rename_i off hd
  rw [hd] at h2
  refine ⟨off, hd, ?_⟩
  have e := congrArg Prod.snd h1
  have e2 := of_decide_eq_true h2
  dsimp only at e
  omega
theorem zif_lt {x : Int32} {tgt : Nat} (hF : zFOK w f o cc nL d) (hd : zj cc pc 3 tgt = true) (kt : x < 0 → zG w f nL tgt (L, st, M)) (kf : ¬ x < 0 → zG w f nL (pc + 3) (L, st, M)) : zG w f nL pc (L, .inl x :: st, M) := by
  obtain ⟨off, hd, ht⟩ := zjd_if_lt hd
  obtain ⟨p, l, e, R, s, m, args, below, meth, c, cells, slots, Q, z⟩ := f
  intro hn H locs ls hP hS hL
  exact lv_if_lt hF.1 hF.2.1 hd ht (fun q => kt q hn H locs ls hP hS hL) (fun q => kf q hn H locs ls hP hS hL)
theorem zjd_if_ge {tgt : Nat} (h : zj cc pc 4 tgt = true) : ∃ off : Int, decode cc pc = .ok (.ifCond .ge off, 3) ∧ (pc : Int) + off = (tgt : Int) := by
  unfold zj at h
  rw [Bool.and_eq_true, decide_eq_true_eq] at h
  obtain ⟨h1, h2⟩ := h
  unfold zjmp at h1
  unfold zjok at h2
  split at h1 <;> first | (exfalso; revert h1; simp; done) | skip
  rename_i off hd
  rw [hd] at h2
  refine ⟨off, hd, ?_⟩
  have e := congrArg Prod.snd h1
  have e2 := of_decide_eq_true h2
  dsimp only at e
  omega
theorem zif_ge {x : Int32} {tgt : Nat} (hF : zFOK w f o cc nL d) (hd : zj cc pc 4 tgt = true) (kt : 0 ≤ x → zG w f nL tgt (L, st, M)) (kf : ¬ 0 ≤ x → zG w f nL (pc + 3) (L, st, M)) : zG w f nL pc (L, .inl x :: st, M) := by
  obtain ⟨off, hd, ht⟩ := zjd_if_ge hd
  obtain ⟨p, l, e, R, s, m, args, below, meth, c, cells, slots, Q, z⟩ := f
  intro hn H locs ls hP hS hL
  exact lv_if_ge hF.1 hF.2.1 hd ht (fun q => kt q hn H locs ls hP hS hL) (fun q => kf q hn H locs ls hP hS hL)
theorem zjd_if_gt {tgt : Nat} (h : zj cc pc 5 tgt = true) : ∃ off : Int, decode cc pc = .ok (.ifCond .gt off, 3) ∧ (pc : Int) + off = (tgt : Int) := by
  unfold zj at h
  rw [Bool.and_eq_true, decide_eq_true_eq] at h
  obtain ⟨h1, h2⟩ := h
  unfold zjmp at h1
  unfold zjok at h2
  split at h1 <;> first | (exfalso; revert h1; simp; done) | skip
  rename_i off hd
  rw [hd] at h2
  refine ⟨off, hd, ?_⟩
  have e := congrArg Prod.snd h1
  have e2 := of_decide_eq_true h2
  dsimp only at e
  omega
theorem zif_gt {x : Int32} {tgt : Nat} (hF : zFOK w f o cc nL d) (hd : zj cc pc 5 tgt = true) (kt : 0 < x → zG w f nL tgt (L, st, M)) (kf : ¬ 0 < x → zG w f nL (pc + 3) (L, st, M)) : zG w f nL pc (L, .inl x :: st, M) := by
  obtain ⟨off, hd, ht⟩ := zjd_if_gt hd
  obtain ⟨p, l, e, R, s, m, args, below, meth, c, cells, slots, Q, z⟩ := f
  intro hn H locs ls hP hS hL
  exact lv_if_gt hF.1 hF.2.1 hd ht (fun q => kt q hn H locs ls hP hS hL) (fun q => kf q hn H locs ls hP hS hL)
theorem zjd_if_le {tgt : Nat} (h : zj cc pc 6 tgt = true) : ∃ off : Int, decode cc pc = .ok (.ifCond .le off, 3) ∧ (pc : Int) + off = (tgt : Int) := by
  unfold zj at h
  rw [Bool.and_eq_true, decide_eq_true_eq] at h
  obtain ⟨h1, h2⟩ := h
  unfold zjmp at h1
  unfold zjok at h2
  split at h1 <;> first | (exfalso; revert h1; simp; done) | skip
  rename_i off hd
  rw [hd] at h2
  refine ⟨off, hd, ?_⟩
  have e := congrArg Prod.snd h1
  have e2 := of_decide_eq_true h2
  dsimp only at e
  omega
theorem zif_le {x : Int32} {tgt : Nat} (hF : zFOK w f o cc nL d) (hd : zj cc pc 6 tgt = true) (kt : x ≤ 0 → zG w f nL tgt (L, st, M)) (kf : ¬ x ≤ 0 → zG w f nL (pc + 3) (L, st, M)) : zG w f nL pc (L, .inl x :: st, M) := by
  obtain ⟨off, hd, ht⟩ := zjd_if_le hd
  obtain ⟨p, l, e, R, s, m, args, below, meth, c, cells, slots, Q, z⟩ := f
  intro hn H locs ls hP hS hL
  exact lv_if_le hF.1 hF.2.1 hd ht (fun q => kt q hn H locs ls hP hS hL) (fun q => kf q hn H locs ls hP hS hL)
theorem zjd_icmp_eq {tgt : Nat} (h : zj cc pc 7 tgt = true) : ∃ off : Int, decode cc pc = .ok (.if_icmp .eq off, 3) ∧ (pc : Int) + off = (tgt : Int) := by
  unfold zj at h
  rw [Bool.and_eq_true, decide_eq_true_eq] at h
  obtain ⟨h1, h2⟩ := h
  unfold zjmp at h1
  unfold zjok at h2
  split at h1 <;> first | (exfalso; revert h1; simp; done) | skip
  rename_i off hd
  rw [hd] at h2
  refine ⟨off, hd, ?_⟩
  have e := congrArg Prod.snd h1
  have e2 := of_decide_eq_true h2
  dsimp only at e
  omega
theorem zicmp_eq {x y : Int32} {tgt : Nat} (hF : zFOK w f o cc nL d) (hd : zj cc pc 7 tgt = true) (kt : x = y → zG w f nL tgt (L, st, M)) (kf : ¬ x = y → zG w f nL (pc + 3) (L, st, M)) : zG w f nL pc (L, .inl y :: .inl x :: st, M) := by
  obtain ⟨off, hd, ht⟩ := zjd_icmp_eq hd
  obtain ⟨p, l, e, R, s, m, args, below, meth, c, cells, slots, Q, z⟩ := f
  intro hn H locs ls hP hS hL
  exact lv_icmp_eq hF.1 hF.2.1 hd ht (fun q => kt q hn H locs ls hP hS hL) (fun q => kf q hn H locs ls hP hS hL)
theorem zjd_icmp_ne {tgt : Nat} (h : zj cc pc 8 tgt = true) : ∃ off : Int, decode cc pc = .ok (.if_icmp .ne off, 3) ∧ (pc : Int) + off = (tgt : Int) := by
  unfold zj at h
  rw [Bool.and_eq_true, decide_eq_true_eq] at h
  obtain ⟨h1, h2⟩ := h
  unfold zjmp at h1
  unfold zjok at h2
  split at h1 <;> first | (exfalso; revert h1; simp; done) | skip
  rename_i off hd
  rw [hd] at h2
  refine ⟨off, hd, ?_⟩
  have e := congrArg Prod.snd h1
  have e2 := of_decide_eq_true h2
  dsimp only at e
  omega
theorem zicmp_ne {x y : Int32} {tgt : Nat} (hF : zFOK w f o cc nL d) (hd : zj cc pc 8 tgt = true) (kt : x = y → zG w f nL (pc + 3) (L, st, M)) (kf : ¬ x = y → zG w f nL tgt (L, st, M)) : zG w f nL pc (L, .inl y :: .inl x :: st, M) := by
  obtain ⟨off, hd, ht⟩ := zjd_icmp_ne hd
  obtain ⟨p, l, e, R, s, m, args, below, meth, c, cells, slots, Q, z⟩ := f
  intro hn H locs ls hP hS hL
  exact lv_icmp_ne hF.1 hF.2.1 hd ht (fun q => kf q hn H locs ls hP hS hL) (fun q => kt q hn H locs ls hP hS hL)
theorem zjd_icmp_lt {tgt : Nat} (h : zj cc pc 9 tgt = true) : ∃ off : Int, decode cc pc = .ok (.if_icmp .lt off, 3) ∧ (pc : Int) + off = (tgt : Int) := by
  unfold zj at h
  rw [Bool.and_eq_true, decide_eq_true_eq] at h
  obtain ⟨h1, h2⟩ := h
  unfold zjmp at h1
  unfold zjok at h2
  split at h1 <;> first | (exfalso; revert h1; simp; done) | skip
  rename_i off hd
  rw [hd] at h2
  refine ⟨off, hd, ?_⟩
  have e := congrArg Prod.snd h1
  have e2 := of_decide_eq_true h2
  dsimp only at e
  omega
theorem zicmp_lt {x y : Int32} {tgt : Nat} (hF : zFOK w f o cc nL d) (hd : zj cc pc 9 tgt = true) (kt : x < y → zG w f nL tgt (L, st, M)) (kf : ¬ x < y → zG w f nL (pc + 3) (L, st, M)) : zG w f nL pc (L, .inl y :: .inl x :: st, M) := by
  obtain ⟨off, hd, ht⟩ := zjd_icmp_lt hd
  obtain ⟨p, l, e, R, s, m, args, below, meth, c, cells, slots, Q, z⟩ := f
  intro hn H locs ls hP hS hL
  exact lv_icmp_lt hF.1 hF.2.1 hd ht (fun q => kt q hn H locs ls hP hS hL) (fun q => kf q hn H locs ls hP hS hL)
theorem zjd_icmp_ge {tgt : Nat} (h : zj cc pc 10 tgt = true) : ∃ off : Int, decode cc pc = .ok (.if_icmp .ge off, 3) ∧ (pc : Int) + off = (tgt : Int) := by
  unfold zj at h
  rw [Bool.and_eq_true, decide_eq_true_eq] at h
  obtain ⟨h1, h2⟩ := h
  unfold zjmp at h1
  unfold zjok at h2
  split at h1 <;> first | (exfalso; revert h1; simp; done) | skip
  rename_i off hd
  rw [hd] at h2
  refine ⟨off, hd, ?_⟩
  have e := congrArg Prod.snd h1
  have e2 := of_decide_eq_true h2
  dsimp only at e
  omega
theorem zicmp_ge {x y : Int32} {tgt : Nat} (hF : zFOK w f o cc nL d) (hd : zj cc pc 10 tgt = true) (kt : y ≤ x → zG w f nL tgt (L, st, M)) (kf : ¬ y ≤ x → zG w f nL (pc + 3) (L, st, M)) : zG w f nL pc (L, .inl y :: .inl x :: st, M) := by
  obtain ⟨off, hd, ht⟩ := zjd_icmp_ge hd
  obtain ⟨p, l, e, R, s, m, args, below, meth, c, cells, slots, Q, z⟩ := f
  intro hn H locs ls hP hS hL
  exact lv_icmp_ge hF.1 hF.2.1 hd ht (fun q => kt q hn H locs ls hP hS hL) (fun q => kf q hn H locs ls hP hS hL)
theorem zjd_icmp_gt {tgt : Nat} (h : zj cc pc 11 tgt = true) : ∃ off : Int, decode cc pc = .ok (.if_icmp .gt off, 3) ∧ (pc : Int) + off = (tgt : Int) := by
  unfold zj at h
  rw [Bool.and_eq_true, decide_eq_true_eq] at h
  obtain ⟨h1, h2⟩ := h
  unfold zjmp at h1
  unfold zjok at h2
  split at h1 <;> first | (exfalso; revert h1; simp; done) | skip
  rename_i off hd
  rw [hd] at h2
  refine ⟨off, hd, ?_⟩
  have e := congrArg Prod.snd h1
  have e2 := of_decide_eq_true h2
  dsimp only at e
  omega
theorem zicmp_gt {x y : Int32} {tgt : Nat} (hF : zFOK w f o cc nL d) (hd : zj cc pc 11 tgt = true) (kt : y < x → zG w f nL tgt (L, st, M)) (kf : ¬ y < x → zG w f nL (pc + 3) (L, st, M)) : zG w f nL pc (L, .inl y :: .inl x :: st, M) := by
  obtain ⟨off, hd, ht⟩ := zjd_icmp_gt hd
  obtain ⟨p, l, e, R, s, m, args, below, meth, c, cells, slots, Q, z⟩ := f
  intro hn H locs ls hP hS hL
  exact lv_icmp_gt hF.1 hF.2.1 hd ht (fun q => kt q hn H locs ls hP hS hL) (fun q => kf q hn H locs ls hP hS hL)
theorem zjd_icmp_le {tgt : Nat} (h : zj cc pc 12 tgt = true) : ∃ off : Int, decode cc pc = .ok (.if_icmp .le off, 3) ∧ (pc : Int) + off = (tgt : Int) := by
  unfold zj at h
  rw [Bool.and_eq_true, decide_eq_true_eq] at h
  obtain ⟨h1, h2⟩ := h
  unfold zjmp at h1
  unfold zjok at h2
  split at h1 <;> first | (exfalso; revert h1; simp; done) | skip
  rename_i off hd
  rw [hd] at h2
  refine ⟨off, hd, ?_⟩
  have e := congrArg Prod.snd h1
  have e2 := of_decide_eq_true h2
  dsimp only at e
  omega
theorem zicmp_le {x y : Int32} {tgt : Nat} (hF : zFOK w f o cc nL d) (hd : zj cc pc 12 tgt = true) (kt : x ≤ y → zG w f nL tgt (L, st, M)) (kf : ¬ x ≤ y → zG w f nL (pc + 3) (L, st, M)) : zG w f nL pc (L, .inl y :: .inl x :: st, M) := by
  obtain ⟨off, hd, ht⟩ := zjd_icmp_le hd
  obtain ⟨p, l, e, R, s, m, args, below, meth, c, cells, slots, Q, z⟩ := f
  intro hn H locs ls hP hS hL
  exact lv_icmp_le hF.1 hF.2.1 hd ht (fun q => kt q hn H locs ls hP hS hL) (fun q => kf q hn H locs ls hP hS hL)
theorem zgoto {tgt : Nat} (hF : zFOK w f o cc nL d) (hd : zj cc pc 13 tgt = true) (k : zG w f nL tgt (L, st, M)) : zG w f nL pc (L, st, M) := by
  have hx : ∃ off : Int, decode cc pc = .ok (.goto off, 3) ∧ (pc : Int) + off = (tgt : Int) := by
    unfold zj at hd
    rw [Bool.and_eq_true, decide_eq_true_eq] at hd
    obtain ⟨h1, h2⟩ := hd
    unfold zjmp at h1
    unfold zjok at h2
    split at h1 <;> first | (exfalso; revert h1; simp; done) | skip
    rename_i off hd
    rw [hd] at h2
    refine ⟨off, hd, ?_⟩
    have e := congrArg Prod.snd h1
    have e2 := of_decide_eq_true h2
    dsimp only at e
    omega
  obtain ⟨off, hd, ht⟩ := hx
  obtain ⟨p, l, e, R, s, m, args, below, meth, c, cells, slots, Q, z⟩ := f
  intro hn H locs ls hP hS hL
  exact lv_goto hF.1 hF.2.1 hd ht (k hn H locs ls hP hS hL)
/-- fewer locals known -/
theorem zdrop {L' : List (Option zPV)} (hl : L'.length = L.length) (hs : ∀ j v, L'.getD j none = some v → L.getD j none = some v) (k : zG w f nL pc (L', st, M)) : zG w f nL pc (L, st, M) := by
  intro hn H locs ls hP hS hL
  exact k (hl.trans hn) H locs ls hP hS ⟨hL.1, hL.2.1, fun j v hj => hL.2.2 j v (hs j v hj)⟩
def zsub : List (Option zPV) → List Bool → List (Option zPV)
  | [], _ => []
  | v :: r, true :: b => v :: zsub r b
  | _ :: r, _ :: b => none :: zsub r b
  | v :: r, [] => v :: zsub r []
theorem zsub_len : ∀ (L : List (Option zPV)) (b : List Bool), (zsub L b).length = L.length
  | [], _ => by simp [zsub]
  | v :: r, true :: b => by simp [zsub, zsub_len r b]
  | v :: r, false :: b => by simp [zsub, zsub_len r b]
  | v :: r, [] => by simp [zsub, zsub_len r []]
theorem zsub_get : ∀ (L : List (Option zPV)) (b : List Bool) (j : Nat) (v : zPV), (zsub L b).getD j none = some v → L.getD j none = some v
  | [], _, j, v, h => by simp [zsub] at h
  | x :: r, true :: b, 0, v, h => h
  | x :: r, true :: b, j + 1, v, h => zsub_get r b j v h
  | x :: r, false :: b, 0, v, h => by simp [zsub] at h
  | x :: r, false :: b, j + 1, v, h => zsub_get r b j v h
  | x :: r, [], 0, v, h => h
  | x :: r, [], j + 1, v, h => zsub_get r [] j v h
theorem zcut (b : List Bool) (k : zG w f nL pc (zsub L b, st, M)) : zG w f nL pc (L, st, M) := zdrop (zsub_len L b) (zsub_get L b) k
/-! switches: value and target, the rest to the default -/
def zsw (w : zWd) (f : zFr) (nL : Nat) (s : zSt) (x : Int32) (dflt : Nat) : List (Int32 × Nat) → Prop
  | [] => zG w f nL dflt s
  | q :: r => (x = q.1 → zG w f nL q.2 s) ∧ (¬ x = q.1 → zsw w f nL s x dflt r)
def ztsw (cc : ByteArray) (pc : Nat) (tbl : List (Int32 × Nat)) (dflt : Nat) : Bool := match decode cc pc with
  | .ok (.tableswitch df lo hi offs, _) => decide ((pc : Int) + df = dflt) && (decide (offs.size = (hi - lo + 1).toNat) && (((List.range offs.size).all (fun k => match tbl.find? (fun q => q.1.toInt == lo + k) with | some q => decide (offs[k]?.map (fun f => (pc : Int) + f) = some (q.2 : Int)) | none => decide (offs[k]?.map (fun f => (pc : Int) + f) = some (dflt : Int))) && tbl.all (fun q => decide (lo ≤ q.1.toInt ∧ q.1.toInt ≤ hi)))))
  | _ => false
theorem zsw_find {s : zSt} {x : Int32} {dflt : Nat} : ∀ (tbl : List (Int32 × Nat)), zsw w f nL s x dflt tbl → match tbl.find? (fun q => q.1.toInt == x.toInt) with | some q => zG w f nL q.2 s | none => zG w f nL dflt s
  | [], h => h
  | q :: r, h => by
    by_cases hx : x = q.1
    · have h1 : (q.1.toInt == x.toInt) = true := by rw [hx]; simp
      rw [List.find?_cons_of_pos (p := fun q : Int32 × Nat => q.1.toInt == x.toInt) h1]
      exact h.1 hx
    · have h1 : ¬ (q.1.toInt == x.toInt) = true := by
        intro he
        have he' : q.1.toInt = x.toInt := by simpa using he
        exact hx (Int32.toInt_inj.mp he').symm
      rw [List.find?_cons_of_neg (p := fun q : Int32 × Nat => q.1.toInt == x.toInt) h1]
      exact zsw_find r (h.2 hx)
theorem zswitch {x : Int32} (tbl : List (Int32 × Nat)) (dflt : Nat) (hF : zFOK w f o cc nL d) (hd : ztsw cc pc tbl dflt = true) (k : zsw w f nL (L, st, M) x dflt tbl) : zG w f nL pc (L, .inl x :: st, M) := by
  unfold ztsw at hd
  split at hd
  · rename_i df lo hi offs len hdec
    simp only [Bool.and_eq_true, decide_eq_true_eq, List.all_eq_true, List.mem_range] at hd
    obtain ⟨h1, h2, h4, h5⟩ := hd
    have hf := zsw_find tbl k
    obtain ⟨p, l, e, R, s, m, args, below, meth, c, cells, slots, Q, z⟩ := f
    intro hn H locs ls hP hS hL
    by_cases hout : x.toInt < lo ∨ hi < x.toInt
    · have hnone : tbl.find? (fun q => q.1.toInt == x.toInt) = none := by
        refine List.find?_eq_none.mpr (fun q hq => ?_)
        have := h5 q hq
        simp only [beq_iff_eq]
        omega
      rw [hnone] at hf
      exact lv_tableOut hF.1 hF.2.1 hdec hout h1 (hf hn H locs ls hP hS hL)
    · have hlo : ¬ x.toInt < lo := fun q => hout (Or.inl q)
      have hhi : ¬ hi < x.toInt := fun q => hout (Or.inr q)
      have hk : (x.toInt - lo).toNat < offs.size := by rw [h2]; omega
      have h6 := h4 _ hk
      have e1 : lo + (((x.toInt - lo).toNat : Nat) : Int) = x.toInt := by omega
      rw [e1] at h6
      have hoff : offs[(x.toInt - lo).toNat]? = some offs[(x.toInt - lo).toNat] := Array.getElem?_eq_getElem hk
      cases hfd : tbl.find? (fun q => q.1.toInt == x.toInt) with
      | none =>
        rw [hfd] at hf h6
        dsimp only at hf h6
        rw [hoff] at h6
        exact lv_tableIn hF.1 hF.2.1 hdec hlo hhi hoff (by simpa using h6) (hf hn H locs ls hP hS hL)
      | some q =>
        rw [hfd] at hf h6
        dsimp only at hf h6
        rw [hoff] at h6
        exact lv_tableIn hF.1 hF.2.1 hdec hlo hhi hoff (by simpa using h6) (hf hn H locs ls hP hS hL)
  · cases hd
end ZCTL
/-! what the shallow functions are made of -/
def zF : Nat := 2000
def zlet {α β : Type} (a : α) (k : α → β) : β := k a
def chk {β : Type} (i : Int32) (n : Nat) (k : Option β) : Option β := if inb i n = true then k else none
def znz {β : Type} (y : Int32) (k : Option β) : Option β := if y = 0 then none else k
def zbo {β : Type} (x : Int32) (k : Option β) : Option β := if x = 0 ∨ x = 1 then k else none
def zac {β : Type} (sp dp n : Int32) (n0 n1 : Nat) (k : Option β) : Option β := if (decide (¬ n < 0) && (decide (¬ dp < 0) && decide (¬ sp < 0))) = true ∧ (Nat.ble (ix sp + ix n) n0 = true ∧ Nat.ble (ix dp + ix n) n1 = true) then k else none
def zb {α β : Type} (o : Option (α × zMem)) (k : α → zMem → Option β) : Option β := match o with
  | some q => k q.1 q.2
  | none => none
def zr {α β : Type} (o : Option α) (k : α → Option β) : Option β := match o with
  | some q => k q
  | none => none
theorem zlet_k {α β : Type} {a : α} {k : α → Option β} {R : Option β} {P : α → Prop} (h : zlet a k = R) (q : ∀ v, k v = R → P v) : P a := q a h
theorem zchk {β : Type} {i : Int32} {n : Nat} {k : Option β} {R : β} (h : chk i n k = some R) : inb i n = true ∧ k = some R := by
  unfold chk at h
  split at h
  · exact ⟨‹_›, h⟩
  · cases h
theorem znz_k {β : Type} {y : Int32} {k : Option β} {R : β} (h : znz y k = some R) : ¬ y = 0 ∧ k = some R := by
  unfold znz at h
  split at h
  · cases h
  · exact ⟨‹_›, h⟩
theorem zbo_k {β : Type} {x : Int32} {k : Option β} {R : β} (h : zbo x k = some R) : narrow .boolean (.int x) = .int x ∧ k = some R := by
  unfold zbo at h
  split at h
  · rename_i q
    exact ⟨by rcases q with rfl | rfl <;> decide +kernel, h⟩
  · cases h
theorem zac_k {β : Type} {sp dp n : Int32} {n0 n1 : Nat} {k : Option β} {R : β} (h : zac sp dp n n0 n1 k = some R) : ((decide (¬ n < 0) && (decide (¬ dp < 0) && decide (¬ sp < 0))) = true ∧ (Nat.ble (ix sp + ix n) n0 = true ∧ Nat.ble (ix dp + ix n) n1 = true)) ∧ k = some R := by
  unfold zac at h
  split at h
  · exact ⟨‹_›, h⟩
  · cases h
theorem zb_k {α β : Type} {o : Option (α × zMem)} {k : α → zMem → Option β} {R : β} (h : zb o k = some R) : ∃ r m, o = some (r, m) ∧ k r m = some R := by
  cases o with
  | none => cases h
  | some q => exact ⟨q.1, q.2, rfl, h⟩
theorem zr_k {α β : Type} {o : Option α} {k : α → Option β} {R : β} (h : zr o k = some R) : ∃ r, o = some r ∧ k r = some R := by
  cases o with
  | none => cases h
  | some q => exact ⟨q, rfl, h⟩
theorem zit {β : Type} {c : Prop} [Decidable c] {a b : Option β} {R : Option β} (hc : c) (h : (if c then a else b) = R) : a = R := by rw [if_pos hc] at h; exact h
theorem zif {β : Type} {c : Prop} [Decidable c] {a b : Option β} {R : Option β} (hc : ¬ c) (h : (if c then a else b) = R) : b = R := by rw [if_neg hc] at h; exact h
theorem zinb_blt {i : Int32} {n : Nat} (h : inb i n = true) : Nat.blt (ix i) n = true := by
  unfold inb at h
  rw [Bool.and_eq_true] at h
  exact h.1
theorem zno {β : Type} {R : β} {P : Prop} (h : (none : Option β) = some R) : P := by cases h
/-! contracts -/
def zRm (k : Nat) : Room := { frames := k, cells := 0, slots := 0, locals := 100 * k }
def zWld (w : zWd) (M : zWM) (U : State) : Prop := va_P w.1 vwCl (zcells w M) U.heap ∧ zSP w U U.heap ∧ va_D w.2.2.2 (zcells w M) 
def zQI (w : zWd) (x : Int32) (M' : zWM) : Array Value → State → Outcome → State → Prop := va_Qi (fun r (_ : Unit) => r = x) (fun _ t => va_P w.1 vwCl (zcells w M') t.heap) w.2.2.2
def zQL (w : zWd) (x : Int64) (M' : zWM) : Array Value → State → Outcome → State → Prop := va_Ql (fun r (_ : Unit) => r = x) (fun _ t => va_P w.1 vwCl (zcells w M') t.heap) w.2.2.2
def zQV (w : zWd) (M' : zWM) : Array Value → State → Outcome → State → Prop := va_Qv (fun (_ : Unit) => True) (fun _ t => va_P w.1 vwCl (zcells w M') t.heap) w.2.2.2
def zMet (w : zWd) (l : Launch) (d : Nat) (y : MethodName) (b : ByteArray) (nL : Nat) (ret : Option FieldType) (as : List zPV) (M : zWM) (Qc : Array Value → State → Outcome → State → Prop) : Prop :=
  Met l y (.code y b nL ret :: zGW) (zRm d) (va_Pc (as.map (zcv w.2.2.1)) (zWld w M)) Qc 0 0 w.2.2.2
def zFin (w : zWd) (f : zFr) (ret : Option FieldType) (Qc : Array Value → State → Outcome → State → Prop) : Prop :=
  f.2.2.2.2.2.2.2.2.2.2.2.2.1 = MQ f.2.2.2.2.2.2.2.1 Qc f.2.2.2.2.2.2.1 f.2.2.2.2.1 0 0 w.2.2.2 ∧ f.2.2.2.2.2.2.2.2.2.2.1 = 0 ∧ f.2.2.2.2.2.2.2.2.2.2.2.1 = 0 ∧ f.2.2.2.2.2.2.2.2.1.sig.returnType = ret
def zargsL : List zPV → List (Option zPV)
  | [] => []
  | .inr (.inl x) :: r => some (.inr (.inl x)) :: none :: zargsL r
  | .inl x :: r => some (.inl x) :: zargsL r
  | .inr (.inr x) :: r => some (.inr (.inr x)) :: zargsL r
def zLL (as : List zPV) (nL : Nat) : List (Option zPV) := zargsL as ++ List.replicate (nL - (zargsL as).length) none
theorem zargs_ok (ad : Nat → Nat → Nat) : ∀ (as : List zPV) (k j : Nat) (v : zPV), (zargsL as).getD j none = some v → (k + j, zcv ad v) ∈ lv_args k (as.map (zcv ad))
  | [], k, j, v, h => by simp [zargsL] at h
  | .inr (.inl x) :: r, k, 0, v, h => by cases h; exact List.mem_cons_self
  | .inr (.inl x) :: r, k, 1, v, h => by cases h
  | .inr (.inl x) :: r, k, j + 2, v, h => by
    have e := zargs_ok ad r (k + 2) j v h
    rw [show k + 2 + j = k + (j + 2) by omega] at e
    exact List.mem_cons_of_mem _ e
  | .inl x :: r, k, 0, v, h => by cases h; exact List.mem_cons_self
  | .inl x :: r, k, j + 1, v, h => by
    have e := zargs_ok ad r (k + 1) j v h
    rw [show k + 1 + j = k + (j + 1) by omega] at e
    exact List.mem_cons_of_mem _ e
  | .inr (.inr x) :: r, k, 0, v, h => by cases h; exact List.mem_cons_self
  | .inr (.inr x) :: r, k, j + 1, v, h => by
    have e := zargs_ok ad r (k + 1) j v h
    rw [show k + 1 + j = k + (j + 1) by omega] at e
    exact List.mem_cons_of_mem _ e
theorem zargs_sl (ad : Nat → Nat → Nat) : ∀ (as : List zPV), (lg_sl (as.map (zcv ad))).length = (zargsL as).length
  | [] => rfl
  | .inr (.inl x) :: r => by have e := zargs_sl ad r; simp [lg_sl, zargsL, zcv, Value.category] at e ⊢; omega
  | .inl x :: r => by have e := zargs_sl ad r; simp [lg_sl, zargsL, zcv, Value.category] at e ⊢; omega
  | .inr (.inr x) :: r => by have e := zargs_sl ad r; simp [lg_sl, zargsL, zcv, Value.category] at e ⊢; omega
theorem zLL_get {as : List zPV} {nL j : Nat} {v : zPV} (h : (zLL as nL).getD j none = some v) : (zargsL as).getD j none = some v := by
  unfold zLL at h
  rw [List.getD_eq_getElem?_getD] at h ⊢
  rcases Nat.lt_or_ge j (zargsL as).length with q | q
  · rw [List.getElem?_append_left q] at h; exact h
  · rw [List.getElem?_append_right q] at h
    rw [List.getElem?_replicate] at h
    split at h <;> cases h
theorem zLL_len {as : List zPV} {nL : Nat} (h : Nat.ble (zargsL as).length nL = true) : (zLL as nL).length = nL := by
  have := Nat.le_of_ble_eq_true h
  unfold zLL
  rw [List.length_append, List.length_replicate]
  omega
theorem zmet {w : zWd} {l : Launch} {d o : Nat} {y : MethodName} {b : ByteArray} {nL : Nat} {ret : Option FieldType} {as : List zPV} {M : zWM} {Qc : Array Value → State → Outcome → State → Prop}
    (hy : plainName y.cls = true) (hown : zN o = y.cls) (hd : 1 ≤ d) (hfit : Nat.ble (zargsL as).length nL = true)
    (body : ∀ f : zFr, f.2.1 = l → zFOK w f o b nL d → zFin w f ret Qc → zG w f nL 0 (zLL as nL, [], M)) : zMet w l d y b nL ret as M Qc := by
  refine Met.ofW (cc := b) (maxL := nL) (ret := ret) hy rfl ?_
  intro p e s m args below meth c s₁ B hml hv
  obtain ⟨rfl, hP, hsp, hD⟩ := hv
  have hts := atoms_spec (ws := .code y b nL ret :: zGW) B.pre
  have hfc : s.vm.findClass (zN o) = some m.cls := by rw [hown]; exact findClass_of_methodNamed B.named
  have key := body (p, l, e, zRm d, s, m, (as.map (zcv w.2.2.1)).toArray, below, meth, c, 0, 0, MQ below Qc (as.map (zcv w.2.2.1)).toArray s 0 0 w.2.2.2, (false, 0, fun _ => 0)) rfl
    ⟨B.exec, B.bytes, hml, hfc, fun x hx => hts x (List.mem_cons_of_mem _ hx), B.notSynchronized, ⟨hd, Nat.le_refl _, Nat.le_refl _, Nat.le_refl _, Nat.le_refl _⟩, hsp, zD_all hD, fun h => by cases h⟩ ⟨rfl, rfl, rfl, B.returns⟩
  have hl := lv_entry (as.map (zcv w.2.2.1)) (n := nL) (by rw [zargs_sl]; exact Nat.le_of_ble_eq_true hfit)
  rw [lg_entry_eq]
  refine key (zLL_len hfit) s.heap [] _ hP va_S.rf ⟨hl.1, hl.2.1, fun j v hj => ?_⟩
  have e1 := zargs_ok w.2.2.1 as 0 j v (zLL_get hj)
  rw [Nat.zero_add] at e1
  exact hl.2.2 _ e1
section ZRET
variable {w : zWd} {f : zFr} {o nL d pc : Nat} {cc : ByteArray} {L : List (Option zPV)} {st : List zPV} {M M' : zWM}
theorem zdec_ret {k : Nat} (h : zj cc pc k 0 = true) : (k = 14 → decode cc pc = .ok (.ireturn, 1)) ∧ (k = 15 → decode cc pc = .ok (.lreturn, 1)) ∧ (k = 16 → decode cc pc = .ok (.return_, 1)) := by
  unfold zj at h
  rw [Bool.and_eq_true, decide_eq_true_eq] at h
  obtain ⟨h1, -⟩ := h
  unfold zjmp at h1
  refine ⟨fun e => ?_, fun e => ?_, fun e => ?_⟩ <;> subst e <;> split at h1 <;> first | assumption | (exfalso; revert h1; simp; done)
theorem zretI {x v : Int32} {ty : FieldType} (hF : zFOK w f o cc nL d) (hR : zFin w f (some ty) (zQI w x M')) (hd : zj cc pc 14 0 = true) (hn : narrow ty (.int v) = .int v) (hv : v = x) (hM : M = M') : zG w f nL pc (L, [.inl v], M) := by
  subst hv hM
  obtain ⟨p, l, e, R, s, m, args, below, meth, c, cells, slots, Q, z⟩ := f
  have hQ : Q = MQ below (zQI w v M) args s 0 0 w.2.2.2 := hR.1
  have hc0 : cells = 0 := hR.2.1
  have hs0 : slots = 0 := hR.2.2.1
  have hr := hR.2.2.2
  subst hc0 hs0 hQ
  obtain ⟨hx, hb, hml, hown, hts, hlk, hrm, hsp, hD, hz⟩ := hF
  intro hl H locs ls hP hS hL
  exact W.zret hx hb hr hn (fun t ht hW => ⟨⟨_, (), rfl, rfl, by show va_P _ _ _ t.heap; rw [ht]; exact hP⟩, hS.F ht⟩) hS.2.2 ((zdec_ret hd).1 rfl) hlk
theorem zretL {x v : Int64} (hF : zFOK w f o cc nL d) (hR : zFin w f (some .long) (zQL w x M')) (hd : zj cc pc 15 0 = true) (hv : v = x) (hM : M = M') : zG w f nL pc (L, [.inr (.inl v)], M) := by
  subst hv hM
  obtain ⟨p, l, e, R, s, m, args, below, meth, c, cells, slots, Q, z⟩ := f
  have hQ : Q = MQ below (zQL w v M) args s 0 0 w.2.2.2 := hR.1
  have hc0 : cells = 0 := hR.2.1
  have hs0 : slots = 0 := hR.2.2.1
  have hr := hR.2.2.2
  subst hc0 hs0 hQ
  obtain ⟨hx, hb, hml, hown, hts, hlk, hrm, hsp, hD, hz⟩ := hF
  intro hl H locs ls hP hS hL
  exact W.lret hx hb hr (fun t ht hW => ⟨⟨_, (), rfl, rfl, by show va_P _ _ _ t.heap; rw [ht]; exact hP⟩, hS.F ht⟩) hS.2.2 ((zdec_ret hd).2.1 rfl) hlk
theorem zretV (hF : zFOK w f o cc nL d) (hR : zFin w f none (zQV w M')) (hd : zj cc pc 16 0 = true) (hM : M = M') : zG w f nL pc (L, [], M) := by
  subst hM
  obtain ⟨p, l, e, R, s, m, args, below, meth, c, cells, slots, Q, z⟩ := f
  have hQ : Q = MQ below (zQV w M) args s 0 0 w.2.2.2 := hR.1
  have hc0 : cells = 0 := hR.2.1
  have hs0 : slots = 0 := hR.2.2.1
  have hr := hR.2.2.2
  subst hc0 hs0 hQ
  obtain ⟨hx, hb, hml, hown, hts, hlk, hrm, hsp, hD, hz⟩ := hF
  intro hl H locs ls hP hS hL
  exact W.vret hx hb hr (fun t ht hW => ⟨⟨(), rfl, trivial, by show va_P _ _ _ t.heap; rw [ht]; exact hP⟩, hS.F ht⟩) hS.2.2 ((zdec_ret hd).2.2 rfl) hlk
end ZRET
/-! calls -/
/-- the words of an instance method, of a static one: its code, class and parameters -/
def zmi (y : MethodName) (b : ByteArray) (mL : Nat) (ret : Option FieldType) (n : Nat) : Prop := Cond.code y b mL ret ∈ zGW ∧ Cond.instanceMethod y ∈ zGW ∧ Cond.selects y.cls y y ∈ zGW ∧ Cond.initialized y.cls ∈ zGW ∧ y.cls ≠ "java/lang/invoke/MethodHandle" ∧ y.cls ≠ "java/lang/invoke/VarHandle" ∧ (parseMethodDescriptor y.desc).map (fun d => d.parameters.length) = some n ∧ mL ≤ 80
def zms (y : MethodName) (b : ByteArray) (mL : Nat) (ret : Option FieldType) (n : Nat) : Prop := Cond.code y b mL ret ∈ zGW ∧ Cond.static y ∈ zGW ∧ Cond.initialized y.cls ∈ zGW ∧ y.cls ≠ "java/lang/invoke/MethodHandle" ∧ y.cls ≠ "java/lang/invoke/VarHandle" ∧ (parseMethodDescriptor y.desc).map (fun d => d.parameters.length) = some n ∧ mL ≤ 80
theorem zgw_good {y : MethodName} {b : ByteArray} {mL : Nat} {ret : Option FieldType} (h : Cond.code y b mL ret ∈ zGW) : GoodIn zGW (.code y b mL ret :: zGW) := by
  intro x hx
  have h1 : x ∈ zGW := by
    rcases List.mem_cons.mp hx with rfl | q
    · exact h
    · exact q
  exact ⟨h1, good_of_word (List.mem_filter.mp h1).2⟩
theorem zblind {w : zWd} {as : List Value} {M : zWM} : FrameBlind (va_Pc as (zWld w M)) := by
  intro a U g mk q
  obtain ⟨h1, h2, h3, h4⟩ := q
  exact ⟨h1, h2, zSP.same (u := U) (U := U.calling g mk a) rfl h3, h4⟩
def zsum : List zPV → Nat
  | [] => 0
  | .inl _ :: r => 1 + zsum r
  | .inr (.inl _) :: r => 2 + zsum r
  | .inr (.inr _) :: r => 1 + zsum r
theorem zsum_eq {ad : Nat → Nat → Nat} : ∀ st : List zPV, ((st.map (zcv ad)).map fun v => v.category).sum = zsum st
  | [] => rfl
  | .inl x :: r => by have := zsum_eq (ad := ad) r; simp [zsum, zcv, Value.category] at this ⊢; omega
  | .inr (.inl x) :: r => by have := zsum_eq (ad := ad) r; simp [zsum, zcv, Value.category] at this ⊢; omega
  | .inr (.inr x) :: r => by have := zsum_eq (ad := ad) r; simp [zsum, zcv, Value.category] at this ⊢; omega
section ZCALL
variable {w : zWd} {f : zFr} {o nL d pc : Nat} {cc : ByteArray} {L : List (Option zPV)} {sk st : List zPV} {M M' : zWM} {y : MethodName} {b : ByteArray} {mL g n idx : Nat} {ret : Option FieldType} {As : List zPV} {c j : Nat}
theorem zdec_inv {k i : Nat} (h : zj cc pc k i = true) : (k = 20 → decode cc pc = .ok (.invokevirtual i, 3)) ∧ (k = 21 → decode cc pc = .ok (.invokestatic i, 3)) := by
  unfold zj at h
  rw [Bool.and_eq_true, decide_eq_true_eq] at h
  obtain ⟨h1, -⟩ := h
  unfold zjmp at h1
  refine ⟨fun e => ?_, fun e => ?_⟩ <;> subst e <;> split at h1 <;> first | (exfalso; revert h1; simp; done) | skip
  · rename_i i' hd
    have e := congrArg Prod.snd h1
    dsimp only at e
    subst e
    exact hd
  · rename_i i' hd
    have e := congrArg Prod.snd h1
    dsimp only at e
    subst e
    exact hd
theorem zst_room {ad : Nat → Nat → Nat} {pc : Nat} {ls : Array Slot} {rest : List Value} {m : MethodId} (h : Nat.ble (zsum st) 8 = true) : 2 * (F0 m pc ls rest).monitorRoom + ((st.map (zcv ad)).map fun v => v.category).sum ≤ 8 := by
  have h1 := zsum_eq (ad := ad) st
  have h2 := Nat.le_of_ble_eq_true h
  show 2 * 0 + _ ≤ 8
  omega
theorem zcallVI {x : Int32} (hF : zFOK w f o cc nL d) (hM : zMet w f.2.1 g y b mL ret (.inr (.inr (c, j)) :: As) M (zQI w x M')) (hm : zmi y b mL ret n) (hlk : Cond.methodLink (zN o) idx y ∈ zGW) (hd : zj cc pc 20 idx = true) (hobj : (Nat.beq (zkd c) 0) = true) (hj : Nat.blt j (zcnt c) = true) (hcls : zR c = y.cls) (hst : As.reverse ++ .inr (.inr (c, j)) :: st = sk) (hlen : As.length = n) (hroom : Nat.ble (zsum st) 8 = true) (hg : Nat.blt g d = true)
    (kk : zG w f nL (pc + 3) (L, .inl x :: st, M')) : zG w f nL pc (L, sk, M) := by
  subst hst
  obtain ⟨p, l, e, R, s, m, args, below, meth, c9, cells, slots, Q, z⟩ := f
  obtain ⟨hx, hb, hml, hown, hts, hlock, ⟨r1, r2, r3, r4, r5⟩, hsp, hD, hz⟩ := hF
  have r3 : 100 * d ≤ R.locals := r3
  have r2 : d ≤ R.frames := r2
  have hg := Nat.blt_eq.mp hg
  intro hn H locs ls hP hS hL
  have hspH : zSP w s H := hsp.kept (fun a h1 h2 => hS.2.1 a h1 h2)
  have hDM := zD_all (M' := M) hD
  obtain ⟨m1, m2, m3, m4, m5, m6, m7, m8⟩ := hm
  have hk0 := zbeq hobj
  have hat := zcells_at (w := w) (M := M) hj
  rw [zcell_obj hk0] at hat
  obtain ⟨g1, -⟩ := zobj hk0
  have hrec := va_recv hsp.1 hP g1 hat
  have hrun := va_runV (p := p) (l := l) (e := e) (R := R) (s := s) (m := m) (args := args) (below := below) (meth := meth) (c := c9) (As := As.map (zcv w.2.2.1)) (rest := st.map (zcv w.2.2.1)) (b := w.2.2.1 c j) (C := y.cls) (g := F0 m pc ls ((As.reverse ++ .inr (.inr (c, j)) :: st).map (zcv w.2.2.1))) (H := H) (locs := locs) (cells := cells) (slots := slots) ⟨hx, hb, hml, hown, hts⟩ hM
    ⟨callB_of n hts (zgw_good m1) rfl rfl rfl (hts _ m4) (hts _ hlk) ⟨m5, m6, m7⟩ ⟨(by show g + 1 ≤ R.frames; omega), (by show 8 + (mL + 11) + 100 * g ≤ R.locals; omega)⟩, hts _ m2, hts _ m3⟩
    ⟨zblind, (by rw [← hcls]; exact hrec), fun U hU hW => ⟨rfl, by rw [hU]; exact hP, by rw [hU]; exact hspH.warm hW, hDM⟩⟩ rfl (by simp [hlen]) hL.1 (by simp [zcv]) (zst_room hroom) ((zdec_inv hd).1 rfl) ⟨r4, r5⟩
  refine va_calli hrun hS (fun q _ h => h) (fun q h => h) (fun r u t H1 locs1 ht hvm hw hB hz1 hk1 hS1 => ?_)
  subst hw
  rw [ht] at hB
  exact kk hn H1 locs1 ls hB hS1 hL
theorem zcallVL {x : Int64} (hF : zFOK w f o cc nL d) (hM : zMet w f.2.1 g y b mL ret (.inr (.inr (c, j)) :: As) M (zQL w x M')) (hm : zmi y b mL ret n) (hlk : Cond.methodLink (zN o) idx y ∈ zGW) (hd : zj cc pc 20 idx = true) (hobj : (Nat.beq (zkd c) 0) = true) (hj : Nat.blt j (zcnt c) = true) (hcls : zR c = y.cls) (hst : As.reverse ++ .inr (.inr (c, j)) :: st = sk) (hlen : As.length = n) (hroom : Nat.ble (zsum st) 8 = true) (hg : Nat.blt g d = true)
    (kk : zG w f nL (pc + 3) (L, .inr (.inl x) :: st, M')) : zG w f nL pc (L, sk, M) := by
  subst hst
  obtain ⟨p, l, e, R, s, m, args, below, meth, c9, cells, slots, Q, z⟩ := f
  obtain ⟨hx, hb, hml, hown, hts, hlock, ⟨r1, r2, r3, r4, r5⟩, hsp, hD, hz⟩ := hF
  have r3 : 100 * d ≤ R.locals := r3
  have r2 : d ≤ R.frames := r2
  have hg := Nat.blt_eq.mp hg
  intro hn H locs ls hP hS hL
  have hspH : zSP w s H := hsp.kept (fun a h1 h2 => hS.2.1 a h1 h2)
  have hDM := zD_all (M' := M) hD
  obtain ⟨m1, m2, m3, m4, m5, m6, m7, m8⟩ := hm
  have hk0 := zbeq hobj
  have hat := zcells_at (w := w) (M := M) hj
  rw [zcell_obj hk0] at hat
  obtain ⟨g1, -⟩ := zobj hk0
  have hrec := va_recv hsp.1 hP g1 hat
  have hrun := va_runV (p := p) (l := l) (e := e) (R := R) (s := s) (m := m) (args := args) (below := below) (meth := meth) (c := c9) (As := As.map (zcv w.2.2.1)) (rest := st.map (zcv w.2.2.1)) (b := w.2.2.1 c j) (C := y.cls) (g := F0 m pc ls ((As.reverse ++ .inr (.inr (c, j)) :: st).map (zcv w.2.2.1))) (H := H) (locs := locs) (cells := cells) (slots := slots) ⟨hx, hb, hml, hown, hts⟩ hM
    ⟨callB_of n hts (zgw_good m1) rfl rfl rfl (hts _ m4) (hts _ hlk) ⟨m5, m6, m7⟩ ⟨(by show g + 1 ≤ R.frames; omega), (by show 8 + (mL + 11) + 100 * g ≤ R.locals; omega)⟩, hts _ m2, hts _ m3⟩
    ⟨zblind, (by rw [← hcls]; exact hrec), fun U hU hW => ⟨rfl, by rw [hU]; exact hP, by rw [hU]; exact hspH.warm hW, hDM⟩⟩ rfl (by simp [hlen]) hL.1 (by simp [zcv]) (zst_room hroom) ((zdec_inv hd).1 rfl) ⟨r4, r5⟩
  refine va_calll hrun hS (fun q _ h => h) (fun q h => h) (fun r u t H1 locs1 ht hvm hw hB hz1 hk1 hS1 => ?_)
  subst hw
  rw [ht] at hB
  exact kk hn H1 locs1 ls hB hS1 hL
theorem zcallVV  (hF : zFOK w f o cc nL d) (hM : zMet w f.2.1 g y b mL ret (.inr (.inr (c, j)) :: As) M (zQV w M')) (hm : zmi y b mL ret n) (hlk : Cond.methodLink (zN o) idx y ∈ zGW) (hd : zj cc pc 20 idx = true) (hobj : (Nat.beq (zkd c) 0) = true) (hj : Nat.blt j (zcnt c) = true) (hcls : zR c = y.cls) (hst : As.reverse ++ .inr (.inr (c, j)) :: st = sk) (hlen : As.length = n) (hroom : Nat.ble (zsum st) 8 = true) (hg : Nat.blt g d = true)
    (kk : zG w f nL (pc + 3) (L, st, M')) : zG w f nL pc (L, sk, M) := by
  subst hst
  obtain ⟨p, l, e, R, s, m, args, below, meth, c9, cells, slots, Q, z⟩ := f
  obtain ⟨hx, hb, hml, hown, hts, hlock, ⟨r1, r2, r3, r4, r5⟩, hsp, hD, hz⟩ := hF
  have r3 : 100 * d ≤ R.locals := r3
  have r2 : d ≤ R.frames := r2
  have hg := Nat.blt_eq.mp hg
  intro hn H locs ls hP hS hL
  have hspH : zSP w s H := hsp.kept (fun a h1 h2 => hS.2.1 a h1 h2)
  have hDM := zD_all (M' := M) hD
  obtain ⟨m1, m2, m3, m4, m5, m6, m7, m8⟩ := hm
  have hk0 := zbeq hobj
  have hat := zcells_at (w := w) (M := M) hj
  rw [zcell_obj hk0] at hat
  obtain ⟨g1, -⟩ := zobj hk0
  have hrec := va_recv hsp.1 hP g1 hat
  have hrun := va_runV (p := p) (l := l) (e := e) (R := R) (s := s) (m := m) (args := args) (below := below) (meth := meth) (c := c9) (As := As.map (zcv w.2.2.1)) (rest := st.map (zcv w.2.2.1)) (b := w.2.2.1 c j) (C := y.cls) (g := F0 m pc ls ((As.reverse ++ .inr (.inr (c, j)) :: st).map (zcv w.2.2.1))) (H := H) (locs := locs) (cells := cells) (slots := slots) ⟨hx, hb, hml, hown, hts⟩ hM
    ⟨callB_of n hts (zgw_good m1) rfl rfl rfl (hts _ m4) (hts _ hlk) ⟨m5, m6, m7⟩ ⟨(by show g + 1 ≤ R.frames; omega), (by show 8 + (mL + 11) + 100 * g ≤ R.locals; omega)⟩, hts _ m2, hts _ m3⟩
    ⟨zblind, (by rw [← hcls]; exact hrec), fun U hU hW => ⟨rfl, by rw [hU]; exact hP, by rw [hU]; exact hspH.warm hW, hDM⟩⟩ rfl (by simp [hlen]) hL.1 (by simp [zcv]) (zst_room hroom) ((zdec_inv hd).1 rfl) ⟨r4, r5⟩
  refine va_callv hrun hS (fun q _ h => h) (fun q h => h) (fun u t H1 locs1 ht hvm hw hB hz1 hk1 hS1 => ?_)
  rw [ht] at hB
  exact kk hn H1 locs1 ls hB hS1 hL
theorem zcallSI {x : Int32} (hF : zFOK w f o cc nL d) (hM : zMet w f.2.1 g y b mL ret As M (zQI w x M')) (hm : zms y b mL ret n) (hlk : Cond.methodLink (zN o) idx y ∈ zGW) (hd : zj cc pc 21 idx = true) (hst : As.reverse ++ st = sk) (hlen : As.length = n) (hroom : Nat.ble (zsum st) 8 = true) (hg : Nat.blt g d = true)
    (kk : zG w f nL (pc + 3) (L, .inl x :: st, M')) : zG w f nL pc (L, sk, M) := by
  subst hst
  obtain ⟨p, l, e, R, s, m, args, below, meth, c9, cells, slots, Q, z⟩ := f
  obtain ⟨hx, hb, hml, hown, hts, hlock, ⟨r1, r2, r3, r4, r5⟩, hsp, hD, hz⟩ := hF
  have r3 : 100 * d ≤ R.locals := r3
  have r2 : d ≤ R.frames := r2
  have hg := Nat.blt_eq.mp hg
  intro hn H locs ls hP hS hL
  have hspH : zSP w s H := hsp.kept (fun a h1 h2 => hS.2.1 a h1 h2)
  have hDM := zD_all (M' := M) hD
  obtain ⟨m1, m2, m4, m5, m6, m7, m8⟩ := hm
  have hrun := va_runS (p := p) (l := l) (e := e) (R := R) (s := s) (m := m) (args := args) (below := below) (meth := meth) (c := c9) (As := As.map (zcv w.2.2.1)) (rest := st.map (zcv w.2.2.1)) (g := F0 m pc ls ((As.reverse ++ st).map (zcv w.2.2.1))) (H := H) (locs := locs) (cells := cells) (slots := slots) ⟨hx, hb, hml, hown, hts⟩ hM
    ⟨callB_of n hts (zgw_good m1) rfl rfl rfl (hts _ m4) (hts _ hlk) ⟨m5, m6, m7⟩ ⟨(by show g + 1 ≤ R.frames; omega), (by show 8 + (mL + 11) + 100 * g ≤ R.locals; omega)⟩, hts _ m2⟩
    ⟨zblind, fun U hU hW => ⟨rfl, by rw [hU]; exact hP, by rw [hU]; exact hspH.warm hW, hDM⟩⟩ rfl (by simp [hlen]) hL.1 (by simp) (zst_room hroom) ((zdec_inv hd).2 rfl) ⟨r4, r5⟩
  refine va_calli hrun hS (fun q _ h => h) (fun q h => h) (fun r u t H1 locs1 ht hvm hw hB hz1 hk1 hS1 => ?_)
  subst hw
  rw [ht] at hB
  exact kk hn H1 locs1 ls hB hS1 hL
theorem zcallSL {x : Int64} (hF : zFOK w f o cc nL d) (hM : zMet w f.2.1 g y b mL ret As M (zQL w x M')) (hm : zms y b mL ret n) (hlk : Cond.methodLink (zN o) idx y ∈ zGW) (hd : zj cc pc 21 idx = true) (hst : As.reverse ++ st = sk) (hlen : As.length = n) (hroom : Nat.ble (zsum st) 8 = true) (hg : Nat.blt g d = true)
    (kk : zG w f nL (pc + 3) (L, .inr (.inl x) :: st, M')) : zG w f nL pc (L, sk, M) := by
  subst hst
  obtain ⟨p, l, e, R, s, m, args, below, meth, c9, cells, slots, Q, z⟩ := f
  obtain ⟨hx, hb, hml, hown, hts, hlock, ⟨r1, r2, r3, r4, r5⟩, hsp, hD, hz⟩ := hF
  have r3 : 100 * d ≤ R.locals := r3
  have r2 : d ≤ R.frames := r2
  have hg := Nat.blt_eq.mp hg
  intro hn H locs ls hP hS hL
  have hspH : zSP w s H := hsp.kept (fun a h1 h2 => hS.2.1 a h1 h2)
  have hDM := zD_all (M' := M) hD
  obtain ⟨m1, m2, m4, m5, m6, m7, m8⟩ := hm
  have hrun := va_runS (p := p) (l := l) (e := e) (R := R) (s := s) (m := m) (args := args) (below := below) (meth := meth) (c := c9) (As := As.map (zcv w.2.2.1)) (rest := st.map (zcv w.2.2.1)) (g := F0 m pc ls ((As.reverse ++ st).map (zcv w.2.2.1))) (H := H) (locs := locs) (cells := cells) (slots := slots) ⟨hx, hb, hml, hown, hts⟩ hM
    ⟨callB_of n hts (zgw_good m1) rfl rfl rfl (hts _ m4) (hts _ hlk) ⟨m5, m6, m7⟩ ⟨(by show g + 1 ≤ R.frames; omega), (by show 8 + (mL + 11) + 100 * g ≤ R.locals; omega)⟩, hts _ m2⟩
    ⟨zblind, fun U hU hW => ⟨rfl, by rw [hU]; exact hP, by rw [hU]; exact hspH.warm hW, hDM⟩⟩ rfl (by simp [hlen]) hL.1 (by simp) (zst_room hroom) ((zdec_inv hd).2 rfl) ⟨r4, r5⟩
  refine va_calll hrun hS (fun q _ h => h) (fun q h => h) (fun r u t H1 locs1 ht hvm hw hB hz1 hk1 hS1 => ?_)
  subst hw
  rw [ht] at hB
  exact kk hn H1 locs1 ls hB hS1 hL
theorem zcallSV  (hF : zFOK w f o cc nL d) (hM : zMet w f.2.1 g y b mL ret As M (zQV w M')) (hm : zms y b mL ret n) (hlk : Cond.methodLink (zN o) idx y ∈ zGW) (hd : zj cc pc 21 idx = true) (hst : As.reverse ++ st = sk) (hlen : As.length = n) (hroom : Nat.ble (zsum st) 8 = true) (hg : Nat.blt g d = true)
    (kk : zG w f nL (pc + 3) (L, st, M')) : zG w f nL pc (L, sk, M) := by
  subst hst
  obtain ⟨p, l, e, R, s, m, args, below, meth, c9, cells, slots, Q, z⟩ := f
  obtain ⟨hx, hb, hml, hown, hts, hlock, ⟨r1, r2, r3, r4, r5⟩, hsp, hD, hz⟩ := hF
  have r3 : 100 * d ≤ R.locals := r3
  have r2 : d ≤ R.frames := r2
  have hg := Nat.blt_eq.mp hg
  intro hn H locs ls hP hS hL
  have hspH : zSP w s H := hsp.kept (fun a h1 h2 => hS.2.1 a h1 h2)
  have hDM := zD_all (M' := M) hD
  obtain ⟨m1, m2, m4, m5, m6, m7, m8⟩ := hm
  have hrun := va_runS (p := p) (l := l) (e := e) (R := R) (s := s) (m := m) (args := args) (below := below) (meth := meth) (c := c9) (As := As.map (zcv w.2.2.1)) (rest := st.map (zcv w.2.2.1)) (g := F0 m pc ls ((As.reverse ++ st).map (zcv w.2.2.1))) (H := H) (locs := locs) (cells := cells) (slots := slots) ⟨hx, hb, hml, hown, hts⟩ hM
    ⟨callB_of n hts (zgw_good m1) rfl rfl rfl (hts _ m4) (hts _ hlk) ⟨m5, m6, m7⟩ ⟨(by show g + 1 ≤ R.frames; omega), (by show 8 + (mL + 11) + 100 * g ≤ R.locals; omega)⟩, hts _ m2⟩
    ⟨zblind, fun U hU hW => ⟨rfl, by rw [hU]; exact hP, by rw [hU]; exact hspH.warm hW, hDM⟩⟩ rfl (by simp [hlen]) hL.1 (by simp) (zst_room hroom) ((zdec_inv hd).2 rfl) ⟨r4, r5⟩
  refine va_callv hrun hS (fun q _ h => h) (fun q h => h) (fun u t H1 locs1 ht hvm hw hB hz1 hk1 hS1 => ?_)
  rw [ht] at hB
  exact kk hn H1 locs1 ls hB hS1 hL
theorem zcallNI {x : Int32} (hF : zFOK w f o cc nL d) (hM : zMet w f.2.1 g y b mL ret As M (zQI w x M')) (hm : zms y b mL ret n) (hlk : Cond.methodLinkNest (zN o) idx y RX6 ∈ znest) (hd : zj cc pc 21 idx = true) (hst : As.reverse ++ st = sk) (hlen : As.length = n) (hroom : Nat.ble (zsum st) 8 = true) (hg : Nat.blt g d = true)
    (kk : zG w f nL (pc + 3) (L, .inl x :: st, M')) : zG w f nL pc (L, sk, M) := by
  subst hst
  obtain ⟨p, l, e, R, s, m, args, below, meth, c9, cells, slots, Q, z⟩ := f
  obtain ⟨hx, hb, hml, hown, hts, hlock, ⟨r1, r2, r3, r4, r5⟩, hsp, hD, hz⟩ := hF
  have r3 : 100 * d ≤ R.locals := r3
  have r2 : d ≤ R.frames := r2
  have hg := Nat.blt_eq.mp hg
  intro hn H locs ls hP hS hL
  have hspH : zSP w s H := hsp.kept (fun a h1 h2 => hS.2.1 a h1 h2)
  have hDM := zD_all (M' := M) hD
  obtain ⟨m1, m2, m4, m5, m6, m7, m8⟩ := hm
  have hrun := va_runSN (p := p) (l := l) (e := e) (R := R) (s := s) (m := m) (args := args) (below := below) (meth := meth) (c := c9) (As := As.map (zcv w.2.2.1)) (rest := st.map (zcv w.2.2.1)) (g := F0 m pc ls ((As.reverse ++ st).map (zcv w.2.2.1))) (H := H) (locs := locs) (cells := cells) (slots := slots) ⟨hx, hb, hml, hown, hts⟩ hM
    ⟨va_cnB n hts (zgw_good m1) rfl rfl rfl (hsp.2.2.2.1 _ hlk) (hts _ m4) ⟨m5, m6, m7⟩ ⟨(by show g + 1 ≤ R.frames; omega), (by show 8 + (mL + 11) + 100 * g ≤ R.locals; omega)⟩, hts _ m2, trivial⟩
    ⟨zblind, fun U hU hW => ⟨rfl, by rw [hU]; exact hP, by rw [hU]; exact hspH.warm hW, hDM⟩⟩ rfl (by simp [hlen]) hL.1 (by simp) (zst_room hroom) ((zdec_inv hd).2 rfl) ⟨r4, r5⟩
  refine va_calli hrun hS (fun q _ h => h) (fun q h => h) (fun r u t H1 locs1 ht hvm hw hB hz1 hk1 hS1 => ?_)
  subst hw
  rw [ht] at hB
  exact kk hn H1 locs1 ls hB hS1 hL
theorem zcallNL {x : Int64} (hF : zFOK w f o cc nL d) (hM : zMet w f.2.1 g y b mL ret As M (zQL w x M')) (hm : zms y b mL ret n) (hlk : Cond.methodLinkNest (zN o) idx y RX6 ∈ znest) (hd : zj cc pc 21 idx = true) (hst : As.reverse ++ st = sk) (hlen : As.length = n) (hroom : Nat.ble (zsum st) 8 = true) (hg : Nat.blt g d = true)
    (kk : zG w f nL (pc + 3) (L, .inr (.inl x) :: st, M')) : zG w f nL pc (L, sk, M) := by
  subst hst
  obtain ⟨p, l, e, R, s, m, args, below, meth, c9, cells, slots, Q, z⟩ := f
  obtain ⟨hx, hb, hml, hown, hts, hlock, ⟨r1, r2, r3, r4, r5⟩, hsp, hD, hz⟩ := hF
  have r3 : 100 * d ≤ R.locals := r3
  have r2 : d ≤ R.frames := r2
  have hg := Nat.blt_eq.mp hg
  intro hn H locs ls hP hS hL
  have hspH : zSP w s H := hsp.kept (fun a h1 h2 => hS.2.1 a h1 h2)
  have hDM := zD_all (M' := M) hD
  obtain ⟨m1, m2, m4, m5, m6, m7, m8⟩ := hm
  have hrun := va_runSN (p := p) (l := l) (e := e) (R := R) (s := s) (m := m) (args := args) (below := below) (meth := meth) (c := c9) (As := As.map (zcv w.2.2.1)) (rest := st.map (zcv w.2.2.1)) (g := F0 m pc ls ((As.reverse ++ st).map (zcv w.2.2.1))) (H := H) (locs := locs) (cells := cells) (slots := slots) ⟨hx, hb, hml, hown, hts⟩ hM
    ⟨va_cnB n hts (zgw_good m1) rfl rfl rfl (hsp.2.2.2.1 _ hlk) (hts _ m4) ⟨m5, m6, m7⟩ ⟨(by show g + 1 ≤ R.frames; omega), (by show 8 + (mL + 11) + 100 * g ≤ R.locals; omega)⟩, hts _ m2, trivial⟩
    ⟨zblind, fun U hU hW => ⟨rfl, by rw [hU]; exact hP, by rw [hU]; exact hspH.warm hW, hDM⟩⟩ rfl (by simp [hlen]) hL.1 (by simp) (zst_room hroom) ((zdec_inv hd).2 rfl) ⟨r4, r5⟩
  refine va_calll hrun hS (fun q _ h => h) (fun q h => h) (fun r u t H1 locs1 ht hvm hw hB hz1 hk1 hS1 => ?_)
  subst hw
  rw [ht] at hB
  exact kk hn H1 locs1 ls hB hS1 hL
theorem zcallNV  (hF : zFOK w f o cc nL d) (hM : zMet w f.2.1 g y b mL ret As M (zQV w M')) (hm : zms y b mL ret n) (hlk : Cond.methodLinkNest (zN o) idx y RX6 ∈ znest) (hd : zj cc pc 21 idx = true) (hst : As.reverse ++ st = sk) (hlen : As.length = n) (hroom : Nat.ble (zsum st) 8 = true) (hg : Nat.blt g d = true)
    (kk : zG w f nL (pc + 3) (L, st, M')) : zG w f nL pc (L, sk, M) := by
  subst hst
  obtain ⟨p, l, e, R, s, m, args, below, meth, c9, cells, slots, Q, z⟩ := f
  obtain ⟨hx, hb, hml, hown, hts, hlock, ⟨r1, r2, r3, r4, r5⟩, hsp, hD, hz⟩ := hF
  have r3 : 100 * d ≤ R.locals := r3
  have r2 : d ≤ R.frames := r2
  have hg := Nat.blt_eq.mp hg
  intro hn H locs ls hP hS hL
  have hspH : zSP w s H := hsp.kept (fun a h1 h2 => hS.2.1 a h1 h2)
  have hDM := zD_all (M' := M) hD
  obtain ⟨m1, m2, m4, m5, m6, m7, m8⟩ := hm
  have hrun := va_runSN (p := p) (l := l) (e := e) (R := R) (s := s) (m := m) (args := args) (below := below) (meth := meth) (c := c9) (As := As.map (zcv w.2.2.1)) (rest := st.map (zcv w.2.2.1)) (g := F0 m pc ls ((As.reverse ++ st).map (zcv w.2.2.1))) (H := H) (locs := locs) (cells := cells) (slots := slots) ⟨hx, hb, hml, hown, hts⟩ hM
    ⟨va_cnB n hts (zgw_good m1) rfl rfl rfl (hsp.2.2.2.1 _ hlk) (hts _ m4) ⟨m5, m6, m7⟩ ⟨(by show g + 1 ≤ R.frames; omega), (by show 8 + (mL + 11) + 100 * g ≤ R.locals; omega)⟩, hts _ m2, trivial⟩
    ⟨zblind, fun U hU hW => ⟨rfl, by rw [hU]; exact hP, by rw [hU]; exact hspH.warm hW, hDM⟩⟩ rfl (by simp [hlen]) hL.1 (by simp) (zst_room hroom) ((zdec_inv hd).2 rfl) ⟨r4, r5⟩
  refine va_callv hrun hS (fun q _ h => h) (fun q h => h) (fun u t H1 locs1 ht hvm hw hB hz1 hk1 hS1 => ?_)
  rw [ht] at hB
  exact kk hn H1 locs1 ls hB hS1 hL
end ZCALL
