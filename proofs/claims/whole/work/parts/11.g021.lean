set_option maxHeartbeats 4000000 in
set_option maxRecDepth 100000 in
theorem m_X6_refusalOfEvening {w : zWd} {lc : Launch} {n : zMem} {a1 : Int32} {a2 : Int32} {m : zMem} {x : Int32}  (h : s_X6_refusalOfEvening a1 a2 m = some x) : zMet w lc 3 yX6_refusalOfEvening cX6_refusalOfEvening 4 (some .int) [pR 0 0, pI a1, pI a2] (m, n) (zQI w x (m, n)) := by
  refine zmet (o := 6) (by decide +kernel) rfl (Nat.le_of_ble_eq_true rfl) rfl (fun f hl hF hR => ?_)
  unfold s_X6_refusalOfEvening at h
  show zG w f 4 0 ([some (pR 0 0), some (pI a1), some (pI a2), none], [], (m, n))
  refine zrun hF [(.aload_n 0, 1, pI 0), (.iload_n 1, 1, pI 0)] 0 _ (by decide +kernel) ?_
  show zG w f 4 2 ([some (pR 0 0), some (pI a1), some (pI a2), none], [pI a1, pR 0 0], (m, n))
  obtain ⟨r2, q1, h⟩ := zr_k h
  refine zcallVI (pc := 2) (As := [pI a1]) (st := []) (c := 0) (j := 0) hF (m_X6_refusalOfRow  q1) w_X6_refusalOfRow k_6_81 (by decide +kernel) rfl rfl rfl rfl rfl rfl rfl ?_
  refine zrun hF [(.istore_n 3, 1, pI 0), (.iload_n 3, 1, pI 0)] 5 _ (by decide +kernel) ?_
  refine (And.intro rfl ?_)
  show zG w f 4 7 ([some (pR 0 0), some (pI a1), some (pI a2), some (pI r2)], [pI r2], (m, n))
  refine zif_eq (tgt := 12) (pc := 7) hF (by decide +kernel) (fun b3 => ?_) (fun b3 => ?_)
  · replace h := zit b3 h
    refine zrun hF [(.iload_n 2, 1, pI 0)] 12 _ (by decide +kernel) ?_
    show zG w f 4 13 ([some (pR 0 0), some (pI a1), some (pI a2), some (pI r2)], [pI a2], (m, n))
    refine zif_ge (tgt := 19) (pc := 13) hF (by decide +kernel) (fun b4 => ?_) (fun b4 => ?_)
    · replace h := zit b4 h
      obtain ⟨c5, h⟩ := zchk h
      refine zrun hF [(.iload_n 2, 1, pI 0), (.aload_n 0, 1, pI 0), (.getfield 28, 3, pR 0 4), (.iload_n 1, 1, pI 0), (.aaload, 1, pI 0), (.getfield 294, 3, pR 8 2)] 19 _ (by decide +kernel) ?_
      refine (And.intro rfl (And.intro rfl (And.intro rfl (And.intro c5 (And.intro rfl (And.intro (zinb_blt c5) ?_))))))
      show zG w f 4 29 ([some (pR 0 0), some (pI a1), some (pI a2), some (pI r2)], [pI (m.1 8 (ix a1) 2), pI a2], (m, n))
      refine zicmp_le (tgt := 35) (pc := 29) hF (by decide +kernel) (fun b6 => ?_) (fun b6 => ?_)
      · replace h := zit b6 h
        refine zrun hF [(.iload_n 2, 1, pI 0), (.bipush 60, 2, pI 60)] 35 _ (by decide +kernel) ?_
        show zG w f 4 38 ([some (pR 0 0), some (pI a1), some (pI a2), some (pI r2)], [pI 60, pI a2], (m, n))
        refine zicmp_le (tgt := 46) (pc := 38) hF (by decide +kernel) (fun b7 => ?_) (fun b7 => ?_)
        · replace h := zit b7 h
          refine zrun hF [(.iconst 0, 1, pI 0)] 46 _ (by decide +kernel) ?_
          show zG w f 4 47 ([some (pR 0 0), some (pI a1), some (pI a2), some (pI r2)], [pI 0], (m, n))
          exact zretI (pc := 47) hF hR (by decide +kernel) rfl (Option.some.inj h) rfl
        · replace h := zif b7 h
          refine zrun hF [(.bipush (-6), 2, pI (-6))] 41 _ (by decide +kernel) ?_
          show zG w f 4 43 ([some (pR 0 0), some (pI a1), some (pI a2), some (pI r2)], [pI (-6)], (m, n))
          refine zgoto (tgt := 47) (pc := 43) hF (by decide +kernel) ?_
          exact zretI (pc := 47) hF hR (by decide +kernel) rfl (Option.some.inj h) rfl
      · replace h := zif b6 h
        refine zrun hF [(.bipush (-5), 2, pI (-5))] 32 _ (by decide +kernel) ?_
        show zG w f 4 34 ([some (pR 0 0), some (pI a1), some (pI a2), some (pI r2)], [pI (-5)], (m, n))
        exact zretI (pc := 34) hF hR (by decide +kernel) rfl (Option.some.inj h) rfl
    · replace h := zif b4 h
      refine zrun hF [(.bipush (-4), 2, pI (-4))] 16 _ (by decide +kernel) ?_
      show zG w f 4 18 ([some (pR 0 0), some (pI a1), some (pI a2), some (pI r2)], [pI (-4)], (m, n))
      exact zretI (pc := 18) hF hR (by decide +kernel) rfl (Option.some.inj h) rfl
  · replace h := zif b3 h
    refine zrun hF [(.iload_n 3, 1, pI 0)] 10 _ (by decide +kernel) ?_
    show zG w f 4 11 ([some (pR 0 0), some (pI a1), some (pI a2), some (pI r2)], [pI r2], (m, n))
    exact zretI (pc := 11) hF hR (by decide +kernel) rfl (Option.some.inj h) rfl

set_option maxHeartbeats 4000000 in
set_option maxRecDepth 100000 in
theorem m_X2_pairOfCode_L34 {w : zWd} {f : zFr} {n : zMem} {x : Int32} {lc : Launch} {mr : zMem} (hl : f.2.1 = lc) (hF : zFOK w f 2 cX2_pairOfCode 5 3) (hR : zFin w f (some .int) (zQI w x (mr, n))) {k3 : Int64 → Int32 → Int32 → zMem → Option Int32} (hk3 : ∀ (x1 : Int64) (x3 : Int32) (x4 : Int32) (m : zMem), m = mr → k3 x1 x3 x4 m = some x → zG w f 5 3 ([some (pR 10 0), some (pL x1), none, some (pI x3), some (pI x4)], [], (m, n))) : ∀ (x1 : Int64) (x3 : Int32) (x4 : Int32) (m : zMem), m = mr → s_X2_pairOfCode_L34 k3 x1 x3 x4 m = some x → zG w f 5 34 ([some (pR 10 0), some (pL x1), none, some (pI x3), some (pI x4)], [], (m, n)) := by
  intro x1 x3 x4 m hm h
  unfold s_X2_pairOfCode_L34 at h
  refine zrun hF [(.iinc 4 1, 3, pI 1)] 34 _ (by decide +kernel) ?_
  refine (And.intro rfl ?_)
  show zG w f 5 37 ([some (pR 10 0), some (pL x1), none, some (pI x3), some (pI (x4 + 1))], [], (m, n))
  refine zgoto (tgt := 3) (pc := 37) hF (by decide +kernel) ?_
  exact hk3 _ _ _ _  hm h

set_option maxHeartbeats 4000000 in
set_option maxRecDepth 100000 in
theorem m_X2_pairOfCode_L3 {w : zWd} {f : zFr} {n : zMem} {x : Int32} {lc : Launch} {mr : zMem} (hl : f.2.1 = lc) (hF : zFOK w f 2 cX2_pairOfCode 5 3) (hR : zFin w f (some .int) (zQI w x (mr, n))) : ∀ (k : Nat) (x1 : Int64) (x3 : Int32) (x4 : Int32) (m : zMem), m = mr → s_X2_pairOfCode_L3 k x1 x3 x4 m = some x → zG w f 5 3 ([some (pR 10 0), some (pL x1), none, some (pI x3), some (pI x4)], [], (m, n)) := by
  intro k
  induction k with
  | zero => intro x1 x3 x4 m hm h; exact zno h
  | succ k ih =>
    intro x1 x3 x4 m hm h
    unfold s_X2_pairOfCode_L3 at h
    refine zrun hF [(.iload 4, 2, pI 0), (.aload_n 0, 1, pI 0), (.getfield 34, 3, pR 10 7)] 3 _ (by decide +kernel) ?_
    refine (And.intro rfl (And.intro rfl ?_))
    show zG w f 5 9 ([some (pR 10 0), some (pL x1), none, some (pI x3), some (pI x4)], [pI (m.1 10 0 7), pI x4], (m, n))
    refine zicmp_ge (tgt := 40) (pc := 9) hF (by decide +kernel) (fun b1 => ?_) (fun b1 => ?_)
    · replace h := zit b1 h
      refine zrun hF [(.iconst (-1), 1, pI (-1))] 40 _ (by decide +kernel) ?_
      show zG w f 5 41 ([some (pR 10 0), some (pL x1), none, some (pI x3), some (pI x4)], [pI (-1)], (m, n))
      exact zretI (pc := 41) hF hR (by decide +kernel) rfl (Option.some.inj h) (congrArg (fun q => (q, n)) hm)
    · replace h := zif b1 h
      refine zrun hF [(.lload_n 1, 1, pI 0), (.iload 4, 2, pI 0)] 12 _ (by decide +kernel) ?_
      show zG w f 5 15 ([some (pR 10 0), some (pL x1), none, some (pI x3), some (pI x4)], [pI x4, pL x1], (m, n))
      obtain ⟨r3, q2, h⟩ := zr_k h
      refine zcallSI (pc := 15) (As := [pL x1, pI x4]) (st := []) hF (m_X2_isIn  q2) w_X2_isIn k_2_78 (by decide +kernel) rfl rfl rfl rfl ?_
      refine zif_eq (tgt := 34) (pc := 18) hF (by decide +kernel) (fun b4 => ?_) (fun b4 => ?_)
      · replace h := zit b4 h
        exact m_X2_pairOfCode_L34 hl hF hR ih _ _ _ _  hm h
      · replace h := zif b4 h
        refine zrun hF [(.aload_n 0, 1, pI 0), (.iload 4, 2, pI 0)] 21 _ (by decide +kernel) ?_
        show zG w f 5 24 ([some (pR 10 0), some (pL x1), none, some (pI x3), some (pI x4)], [pI x4, pR 10 0], (m, n))
        obtain ⟨r6, q5, h⟩ := zr_k h
        refine zcallVI (pc := 24) (As := [pI x4]) (st := []) (c := 10) (j := 0) hF (m_X2_codeOf  q5) w_X2_codeOf k_2_82 (by decide +kernel) rfl rfl rfl rfl rfl rfl rfl ?_
        refine zrun hF [(.iload_n 3, 1, pI 0)] 27 _ (by decide +kernel) ?_
        show zG w f 5 28 ([some (pR 10 0), some (pL x1), none, some (pI x3), some (pI x4)], [pI x3, pI r6], (m, n))
        refine zicmp_ne (tgt := 34) (pc := 28) hF (by decide +kernel) (fun b7 => ?_) (fun b7 => ?_)
        · replace h := zit b7 h
          refine zrun hF [(.iload 4, 2, pI 0)] 31 _ (by decide +kernel) ?_
          show zG w f 5 33 ([some (pR 10 0), some (pL x1), none, some (pI x3), some (pI x4)], [pI x4], (m, n))
          exact zretI (pc := 33) hF hR (by decide +kernel) rfl (Option.some.inj h) (congrArg (fun q => (q, n)) hm)
        · replace h := zif b7 h
          exact m_X2_pairOfCode_L34 hl hF hR ih _ _ _ _  hm h

set_option maxHeartbeats 4000000 in
set_option maxRecDepth 100000 in
theorem m_X2_pairOfCode {w : zWd} {lc : Launch} {n : zMem} {a1 : Int64} {a2 : Int32} {m : zMem} {x : Int32}  (h : s_X2_pairOfCode a1 a2 m = some x) : zMet w lc 3 yX2_pairOfCode cX2_pairOfCode 5 (some .int) [pR 10 0, pL a1, pI a2] (m, n) (zQI w x (m, n)) := by
  refine zmet (o := 2) (by decide +kernel) rfl (Nat.le_of_ble_eq_true rfl) rfl (fun f hl hF hR => ?_)
  unfold s_X2_pairOfCode at h
  show zG w f 5 0 ([some (pR 10 0), some (pL a1), none, some (pI a2), none], [], (m, n))
  refine zrun hF [(.iconst 0, 1, pI 0), (.istore 4, 2, pI 0)] 0 _ (by decide +kernel) ?_
  refine (And.intro rfl ?_)
  show zG w f 5 3 ([some (pR 10 0), some (pL a1), none, some (pI a2), some (pI 0)], [], (m, n))
  exact m_X2_pairOfCode_L3 hl hF hR  zF _ _ _ _  rfl h

set_option maxHeartbeats 4000000 in
set_option maxRecDepth 100000 in
theorem m_X1_firstWrong_L125 {w : zWd} {f : zFr} {n : zMem} {x : Int32} {m0 : zMem} {lc : Launch} (hl : f.2.1 = lc) (hF : zFOK w f 1 cX1_firstWrong 8 4) (hR : zFin w f (some .int) (zQI w x (m0, n))) {k27 : Nat → Int32 → Int64 → Int32 → zMem → Option (Int32 × zMem)} (hk27 : ∀ (x1 : Nat) (x2 : Int32) (x4 : Int64) (x6 : Int32) (m : zMem), Nat.blt x1 8 = true → k27 x1 x2 x4 x6 m = some (x, m0) → zG w f 8 27 ([some (pR 18 0), some (pR 8 x1), some (pI x2), some (pR 10 0), some (pL x4), none, some (pI x6), none], [], (m, n))) : ∀ (x1 : Nat) (x2 : Int32) (x4 : Int64) (x6 : Int32) (m : zMem), Nat.blt x1 8 = true → s_X1_firstWrong_L125 k27 x1 x2 x4 x6 m = some (x, m0) → zG w f 8 125 ([some (pR 18 0), some (pR 8 x1), some (pI x2), some (pR 10 0), some (pL x4), none, some (pI x6), none], [], (m, n)) := by
  intro x1 x2 x4 x6 m hx1 h
  unfold s_X1_firstWrong_L125 at h
  refine zrun hF [(.iinc 6 1, 3, pI 1)] 125 _ (by decide +kernel) ?_
  refine (And.intro rfl ?_)
  show zG w f 8 128 ([some (pR 18 0), some (pR 8 x1), some (pI x2), some (pR 10 0), some (pL x4), none, some (pI (x6 + 1)), none], [], (m, n))
  refine zgoto (tgt := 27) (pc := 128) hF (by decide +kernel) ?_
  exact hk27 _ _ _ _ _ hx1 h

set_option maxHeartbeats 4000000 in
set_option maxRecDepth 100000 in
theorem m_X1_firstWrong_L27 {w : zWd} {f : zFr} {n : zMem} {x : Int32} {m0 : zMem} {lc : Launch} (hl : f.2.1 = lc) (hF : zFOK w f 1 cX1_firstWrong 8 4) (hR : zFin w f (some .int) (zQI w x (m0, n))) : ∀ (k : Nat) (x1 : Nat) (x2 : Int32) (x4 : Int64) (x6 : Int32) (m : zMem), Nat.blt x1 8 = true → s_X1_firstWrong_L27 k x1 x2 x4 x6 m = some (x, m0) → zG w f 8 27 ([some (pR 18 0), some (pR 8 x1), some (pI x2), some (pR 10 0), some (pL x4), none, some (pI x6), none], [], (m, n)) := by
  intro k
  induction k with
  | zero => intro x1 x2 x4 x6 m hx1 h; exact zno h
  | succ k ih =>
    intro x1 x2 x4 x6 m hx1 h
    unfold s_X1_firstWrong_L27 at h
    refine zrun hF [(.iload 6, 2, pI 0), (.iload_n 2, 1, pI 0)] 27 _ (by decide +kernel) ?_
    show zG w f 8 30 ([some (pR 18 0), some (pR 8 x1), some (pI x2), some (pR 10 0), some (pL x4), none, some (pI x6), none], [pI x2, pI x6], (m, n))
    refine zicmp_ge (tgt := 131) (pc := 30) hF (by decide +kernel) (fun b6 => ?_) (fun b6 => ?_)
    · replace h := zit b6 h
      refine zrun hF [(.iconst (-1), 1, pI (-1))] 131 _ (by decide +kernel) ?_
      show zG w f 8 132 ([some (pR 18 0), some (pR 8 x1), some (pI x2), some (pR 10 0), some (pL x4), none, some (pI x6), none], [pI (-1)], (m, n))
      exact zretI (pc := 132) hF hR (by decide +kernel) rfl (congrArg Prod.fst (Option.some.inj h)) (congrArg (fun (q : Int32 × zMem) => (q.2, n)) (Option.some.inj h))
    · replace h := zif b6 h
      refine zrun hF [(.aload_n 1, 1, pI 0), (.iload 6, 2, pI 0)] 33 _ (by decide +kernel) ?_
      show zG w f 8 36 ([some (pR 18 0), some (pR 8 x1), some (pI x2), some (pR 10 0), some (pL x4), none, some (pI x6), none], [pI x6, pR 8 x1], (m, n))
      obtain ⟨r8, q7, h⟩ := zr_k h
      refine zcallVI (pc := 36) (As := [pI x6]) (st := []) (c := 8) (j := x1) hF (m_X4_number hx1 q7) w_X4_number k_1_25 (by decide +kernel) rfl hx1 rfl rfl rfl rfl rfl ?_
      refine zrun hF [(.iconst (-1), 1, pI (-1))] 39 _ (by decide +kernel) ?_
      show zG w f 8 40 ([some (pR 18 0), some (pR 8 x1), some (pI x2), some (pR 10 0), some (pL x4), none, some (pI x6), none], [pI (-1), pI r8], (m, n))
      refine zicmp_ne (tgt := 59) (pc := 40) hF (by decide +kernel) (fun b9 => ?_) (fun b9 => ?_)
      · replace h := zit b9 h
        refine zrun hF [(.lconst 0, 1, pL 0), (.lstore 4, 2, pI 0), (.aload_n 0, 1, pI 0), (.dup, 1, pI 0), (.getfield 15, 3, pR 18 1), (.iconst 1, 1, pI 1), (.iadd, 1, pI 0), (.putfield 15, 3, pR 18 1)] 43 _ (by decide +kernel) ?_
        refine (And.intro rfl (And.intro rfl (And.intro rfl (And.intro rfl (And.intro rfl (And.intro rfl (And.intro trivial ?_)))))))
        refine zlet_k (P := fun (m10 : zMem) => zG w f 8 56 ([some (pR 18 0), some (pR 8 x1), some (pI x2), some (pR 10 0), some (pL 0), none, some (pI x6), none], [], (m10, n))) h (fun m10 h => ?_)
        refine zgoto (tgt := 125) (pc := 56) hF (by decide +kernel) ?_
        exact m_X1_firstWrong_L125 hl hF hR ih _ _ _ _ _ hx1 h
      · replace h := zif b9 h
        refine zrun hF [(.aload_n 3, 1, pI 0), (.aload_n 0, 1, pI 0), (.getfield 9, 3, pR 18 0), (.aload_n 1, 1, pI 0), (.iload 6, 2, pI 0)] 59 _ (by decide +kernel) ?_
        refine (And.intro rfl (And.intro rfl ?_))
        show zG w f 8 67 ([some (pR 18 0), some (pR 8 x1), some (pI x2), some (pR 10 0), some (pL x4), none, some (pI x6), none], [pI x6, pR 8 x1, pL (m.2 18 0 0), pR 10 0], (m, n))
        obtain ⟨r12, q11, h⟩ := zr_k h
        refine zcallVI (pc := 67) (As := [pI x6]) (st := [pL (m.2 18 0 0), pR 10 0]) (c := 8) (j := x1) hF (m_X4_number hx1 q11) w_X4_number k_1_25 (by decide +kernel) rfl hx1 rfl rfl rfl rfl rfl ?_
        obtain ⟨r14, q13, h⟩ := zr_k h
        refine zcallVI (pc := 70) (As := [pL (m.2 18 0 0), pI r12]) (st := []) (c := 10) (j := 0) hF (m_X2_pairOfCode  q13) w_X2_pairOfCode k_1_31 (by decide +kernel) rfl rfl rfl rfl rfl rfl rfl ?_
        refine zrun hF [(.istore 7, 2, pI 0), (.iload 7, 2, pI 0), (.iconst (-1), 1, pI (-1))] 73 _ (by decide +kernel) ?_
        refine (And.intro rfl ?_)
        show zG w f 8 78 ([some (pR 18 0), some (pR 8 x1), some (pI x2), some (pR 10 0), some (pL x4), none, some (pI x6), some (pI r14)], [pI (-1), pI r14], (m, n))
        refine zicmp_eq (tgt := 96) (pc := 78) hF (by decide +kernel) (fun b15 => ?_) (fun b15 => ?_)
        · replace h := zit b15 h
          refine zrun hF [(.iload 6, 2, pI 0)] 96 _ (by decide +kernel) ?_
          show zG w f 8 98 ([some (pR 18 0), some (pR 8 x1), some (pI x2), some (pR 10 0), some (pL x4), none, some (pI x6), some (pI r14)], [pI x6], (m, n))
          exact zretI (pc := 98) hF hR (by decide +kernel) rfl (congrArg Prod.fst (Option.some.inj h)) (congrArg (fun (q : Int32 × zMem) => (q.2, n)) (Option.some.inj h))
        · replace h := zif b15 h
          obtain ⟨c16, h⟩ := zchk h
          refine zrun hF [(.aload_n 3, 1, pI 0), (.getfield 35, 3, pR 10 4), (.iload 7, 2, pI 0), (.laload, 1, pI 0), (.lload 4, 2, pI 0), (.land, 1, pI 0), (.lconst 0, 1, pL 0), (.lcmp, 1, pI 0)] 81 _ (by decide +kernel) ?_
          refine (And.intro rfl (And.intro rfl (And.intro rfl (And.intro rfl (And.intro c16 ?_)))))
          show zG w f 8 93 ([some (pR 18 0), some (pR 8 x1), some (pI x2), some (pR 10 0), some (pL x4), none, some (pI x6), some (pI r14)], [pI (lg_cmp ((m.2 15 0 (ix r14)) &&& x4) 0)], (m, n))
          refine zif_eq (tgt := 99) (pc := 93) hF (by decide +kernel) (fun b17 => ?_) (fun b17 => ?_)
          · replace h := zit b17 h
            refine zrun hF [(.lload 4, 2, pI 0), (.lconst 1, 1, pL 1), (.iload 7, 2, pI 0), (.lshl, 1, pI 0), (.lor, 1, pI 0), (.lstore 4, 2, pI 0)] 99 _ (by decide +kernel) ?_
            refine (And.intro rfl ?_)
            refine zlet_k (P := fun (v18 : Int64) => zG w f 8 108 ([some (pR 18 0), some (pR 8 x1), some (pI x2), some (pR 10 0), some (pL v18), none, some (pI x6), some (pI r14)], [], (m, n))) h (fun v18 h => ?_)
            refine zrun hF [(.aload_n 0, 1, pI 0), (.dup, 1, pI 0), (.getfield 9, 3, pR 18 0), (.lconst 1, 1, pL 1), (.iload 7, 2, pI 0), (.lshl, 1, pI 0), (.ldc2_w 39, 3, pL (-1)), (.lxor, 1, pI 0), (.land, 1, pI 0), (.putfield 9, 3, pR 18 0)] 108 _ (by decide +kernel) ?_
            refine (And.intro rfl (And.intro rfl (And.intro rfl (And.intro rfl (And.intro rfl ?_)))))
            refine zlet_k (P := fun (m19 : zMem) => zG w f 8 125 ([some (pR 18 0), some (pR 8 x1), some (pI x2), some (pR 10 0), some (pL v18), none, some (pI x6), some (pI r14)], [], (m19, n))) h (fun m19 h => ?_)
            refine zcut [true, true, true, true, true, true, true, false] ?_
            exact m_X1_firstWrong_L125 hl hF hR ih _ _ _ _ _ hx1 h
          · replace h := zif b17 h
            refine zrun hF [(.iload 6, 2, pI 0)] 96 _ (by decide +kernel) ?_
            show zG w f 8 98 ([some (pR 18 0), some (pR 8 x1), some (pI x2), some (pR 10 0), some (pL x4), none, some (pI x6), some (pI r14)], [pI x6], (m, n))
            exact zretI (pc := 98) hF hR (by decide +kernel) rfl (congrArg Prod.fst (Option.some.inj h)) (congrArg (fun (q : Int32 × zMem) => (q.2, n)) (Option.some.inj h))

set_option maxHeartbeats 4000000 in
set_option maxRecDepth 100000 in
theorem m_X1_firstWrong_L18 {w : zWd} {f : zFr} {n : zMem} {x : Int32} {m0 : zMem} {lc : Launch} (hl : f.2.1 = lc) (hF : zFOK w f 1 cX1_firstWrong 8 4) (hR : zFin w f (some .int) (zQI w x (m0, n))) : ∀ (x1 : Nat) (x2 : Int32) (y1 : Int32) (m : zMem), Nat.blt x1 8 = true → s_X1_firstWrong_L18 x1 x2 y1 m = some (x, m0) → zG w f 8 18 ([some (pR 18 0), some (pR 8 x1), some (pI x2), some (pR 10 0), none, none, none, none], [pI y1, pR 18 0], (m, n)) := by
  intro x1 x2 y1 m hx1 h
  unfold s_X1_firstWrong_L18 at h
  refine zrun hF [(.putfield 15, 3, pR 18 1)] 18 _ (by decide +kernel) ?_
  refine (And.intro rfl (And.intro rfl (And.intro trivial ?_)))
  refine zlet_k (P := fun (m5 : zMem) => zG w f 8 21 ([some (pR 18 0), some (pR 8 x1), some (pI x2), some (pR 10 0), none, none, none, none], [], (m5, n))) h (fun m5 h => ?_)
  refine zrun hF [(.lconst 0, 1, pL 0), (.lstore 4, 2, pI 0), (.iconst 0, 1, pI 0), (.istore 6, 2, pI 0)] 21 _ (by decide +kernel) ?_
  refine (And.intro rfl (And.intro rfl ?_))
  show zG w f 8 27 ([some (pR 18 0), some (pR 8 x1), some (pI x2), some (pR 10 0), some (pL 0), none, some (pI 0), none], [], (m5, n))
  exact m_X1_firstWrong_L27 hl hF hR  zF _ _ _ _ _ hx1 h

set_option maxHeartbeats 4000000 in
set_option maxRecDepth 100000 in
theorem m_X1_firstWrong {w : zWd} {lc : Launch} {n : zMem} {a1 : Nat} {a2 : Int32} {m : zMem} {x : Int32} {m0 : zMem} (ha1 : Nat.blt a1 8 = true) (h : s_X1_firstWrong a1 a2 m = some (x, m0)) : zMet w lc 4 yX1_firstWrong cX1_firstWrong 8 (some .int) [pR 18 0, pR 8 a1, pI a2, pR 10 0] (m, n) (zQI w x (m0, n)) := by
  refine zmet (o := 1) (by decide +kernel) rfl (Nat.le_of_ble_eq_true rfl) rfl (fun f hl hF hR => ?_)
  unfold s_X1_firstWrong at h
  show zG w f 8 0 ([some (pR 18 0), some (pR 8 a1), some (pI a2), some (pR 10 0), none, none, none, none], [], (m, n))
  refine zrun hF [(.aload_n 0, 1, pI 0), (.aload_n 3, 1, pI 0)] 0 _ (by decide +kernel) ?_
  show zG w f 8 2 ([some (pR 18 0), some (pR 8 a1), some (pI a2), some (pR 10 0), none, none, none, none], [pR 10 0, pR 18 0], (m, n))
  obtain ⟨r2, q1, h⟩ := zr_k h
  refine zcallVL (pc := 2) (As := []) (st := [pR 18 0]) (c := 10) (j := 0) hF (m_X2_all  q1) w_X2_all k_1_19 (by decide +kernel) rfl rfl rfl rfl rfl rfl rfl ?_
  refine zrun hF [(.putfield 9, 3, pR 18 0)] 5 _ (by decide +kernel) ?_
  refine (And.intro rfl (And.intro rfl ?_))
  refine zlet_k (P := fun (m3 : zMem) => zG w f 8 8 ([some (pR 18 0), some (pR 8 a1), some (pI a2), some (pR 10 0), none, none, none, none], [], (m3, n))) h (fun m3 h => ?_)
  refine zrun hF [(.aload_n 0, 1, pI 0), (.iload_n 2, 1, pI 0)] 8 _ (by decide +kernel) ?_
  show zG w f 8 10 ([some (pR 18 0), some (pR 8 a1), some (pI a2), some (pR 10 0), none, none, none, none], [pI a2, pR 18 0], (m3, n))
  refine zif_le (tgt := 17) (pc := 10) hF (by decide +kernel) (fun b4 => ?_) (fun b4 => ?_)
  · replace h := zit b4 h
    refine zrun hF [(.iconst 0, 1, pI 0)] 17 _ (by decide +kernel) ?_
    show zG w f 8 18 ([some (pR 18 0), some (pR 8 a1), some (pI a2), some (pR 10 0), none, none, none, none], [pI 0, pR 18 0], (m3, n))
    exact m_X1_firstWrong_L18 hl hF hR  _ _ _ _ ha1 h
  · replace h := zif b4 h
    refine zrun hF [(.iconst 1, 1, pI 1)] 13 _ (by decide +kernel) ?_
    show zG w f 8 14 ([some (pR 18 0), some (pR 8 a1), some (pI a2), some (pR 10 0), none, none, none, none], [pI 1, pR 18 0], (m3, n))
    refine zgoto (tgt := 18) (pc := 14) hF (by decide +kernel) ?_
    exact m_X1_firstWrong_L18 hl hF hR  _ _ _ _ ha1 h

set_option maxHeartbeats 4000000 in
set_option maxRecDepth 100000 in
theorem m_X6_refuseLower {w : zWd} {lc : Launch} {n : zMem} {a1 : Int32} {m : zMem} {x : Int32} {m0 : zMem}  (h : s_X6_refuseLower a1 m = some (x, m0)) : zMet w lc 2 yX6_refuseLower cX6_refuseLower 2 (some .int) [pR 0 0, pI a1] (m, n) (zQI w x (m0, n)) := by
  refine zmet (o := 6) (by decide +kernel) rfl (Nat.le_of_ble_eq_true rfl) rfl (fun f hl hF hR => ?_)
  unfold s_X6_refuseLower at h
  show zG w f 2 0 ([some (pR 0 0), some (pI a1)], [], (m, n))
  refine zrun hF [(.aload_n 0, 1, pI 0), (.iload_n 1, 1, pI 0)] 0 _ (by decide +kernel) ?_
  show zG w f 2 2 ([some (pR 0 0), some (pI a1)], [pI a1, pR 0 0], (m, n))
  obtain ⟨r2, m3, q1, h⟩ := zb_k h
  refine zcallVI (pc := 2) (As := [pI a1]) (st := []) (c := 0) (j := 0) hF (m_X6_refuse  q1) w_X6_refuse k_6_73 (by decide +kernel) rfl rfl rfl rfl rfl rfl rfl ?_
  refine zrun hF [(.bipush 10, 2, pI 10), (.isub, 1, pI 0)] 5 _ (by decide +kernel) ?_
  show zG w f 2 8 ([some (pR 0 0), some (pI a1)], [pI (r2 - 10)], (m3, n))
  exact zretI (pc := 8) hF hR (by decide +kernel) rfl (congrArg Prod.fst (Option.some.inj h)) (congrArg (fun (q : Int32 × zMem) => (q.2, n)) (Option.some.inj h))

set_option maxHeartbeats 4000000 in
set_option maxRecDepth 100000 in
theorem m_X6_judge {w : zWd} {lc : Launch} {n : zMem} {a1 : Int32} {a2 : Int32} {m : zMem} {x : Int32} {m0 : zMem}  (h : s_X6_judge a1 a2 m = some (x, m0)) : zMet w lc 6 yX6_judge cX6_judge 4 (some .int) [pR 0 0, pI a1, pI a2] (m, n) (zQI w x (m0, n)) := by
  refine zmet (o := 6) (by decide +kernel) rfl (Nat.le_of_ble_eq_true rfl) rfl (fun f hl hF hR => ?_)
  unfold s_X6_judge at h
  show zG w f 4 0 ([some (pR 0 0), some (pI a1), some (pI a2), none], [], (m, n))
  refine zrun hF [(.aload_n 0, 1, pI 0), (.iload_n 1, 1, pI 0), (.iload_n 2, 1, pI 0)] 0 _ (by decide +kernel) ?_
  show zG w f 4 3 ([some (pR 0 0), some (pI a1), some (pI a2), none], [pI a2, pI a1, pR 0 0], (m, n))
  obtain ⟨r2, q1, h⟩ := zr_k h
  refine zcallVI (pc := 3) (As := [pI a1, pI a2]) (st := []) (c := 0) (j := 0) hF (m_X6_refusalOfEvening  q1) w_X6_refusalOfEvening k_6_272 (by decide +kernel) rfl rfl rfl rfl rfl rfl rfl ?_
  refine zrun hF [(.istore_n 3, 1, pI 0), (.iload_n 3, 1, pI 0)] 6 _ (by decide +kernel) ?_
  refine (And.intro rfl ?_)
  show zG w f 4 8 ([some (pR 0 0), some (pI a1), some (pI a2), some (pI r2)], [pI r2], (m, n))
  refine zif_eq (tgt := 17) (pc := 8) hF (by decide +kernel) (fun b3 => ?_) (fun b3 => ?_)
  · replace h := zit b3 h
    refine zrun hF [(.aload_n 0, 1, pI 0), (.getfield 35, 3, pR 0 5), (.aload_n 0, 1, pI 0), (.getfield 10, 3, pR 0 0)] 17 _ (by decide +kernel) ?_
    refine (And.intro rfl (And.intro rfl (And.intro rfl (And.intro rfl ?_))))
    show zG w f 4 25 ([some (pR 0 0), some (pI a1), some (pI a2), some (pI r2)], [pR 1 0, pR 10 0], (m, n))
    obtain ⟨m6, q4, h⟩ := zr_k h
    refine zcallVV (pc := 25) (As := [pR 1 0]) (st := []) (c := 10) (j := 0) hF (m_X2_draw rfl q4) w_X2_draw k_6_211 (by decide +kernel) rfl rfl rfl rfl rfl rfl rfl ?_
    obtain ⟨c7, h⟩ := zchk h
    refine zrun hF [(.aload_n 0, 1, pI 0), (.getfield 42, 3, pR 0 6), (.aload_n 0, 1, pI 0), (.getfield 28, 3, pR 0 4), (.iload_n 1, 1, pI 0), (.aaload, 1, pI 0), (.iload_n 2, 1, pI 0), (.aload_n 0, 1, pI 0), (.getfield 35, 3, pR 0 5)] 28 _ (by decide +kernel) ?_
    refine (And.intro rfl (And.intro rfl (And.intro rfl (And.intro rfl (And.intro rfl (And.intro c7 (And.intro rfl (And.intro rfl ?_))))))))
    show zG w f 4 43 ([some (pR 0 0), some (pI a1), some (pI a2), some (pI r2)], [pR 10 0, pI a2, pR 8 (ix a1), pR 18 0], (m6, n))
    obtain ⟨r9, m10, q8, h⟩ := zb_k h
    refine zcallVI (pc := 43) (As := [pR 8 (ix a1), pI a2, pR 10 0]) (st := []) (c := 18) (j := 0) hF (m_X1_firstWrong (zinb_blt c7) q8) w_X1_firstWrong k_6_278 (by decide +kernel) rfl rfl rfl rfl rfl rfl rfl ?_
    exact zretI (pc := 46) hF hR (by decide +kernel) rfl (congrArg Prod.fst (Option.some.inj h)) (congrArg (fun (q : Int32 × zMem) => (q.2, n)) (Option.some.inj h))
  · replace h := zif b3 h
    refine zrun hF [(.aload_n 0, 1, pI 0), (.iload_n 3, 1, pI 0)] 11 _ (by decide +kernel) ?_
    show zG w f 4 13 ([some (pR 0 0), some (pI a1), some (pI a2), some (pI r2)], [pI r2, pR 0 0], (m, n))
    obtain ⟨r12, m13, q11, h⟩ := zb_k h
    refine zcallVI (pc := 13) (As := [pI r2]) (st := []) (c := 0) (j := 0) hF (m_X6_refuseLower  q11) w_X6_refuseLower k_6_275 (by decide +kernel) rfl rfl rfl rfl rfl rfl rfl ?_
    exact zretI (pc := 16) hF hR (by decide +kernel) rfl (congrArg Prod.fst (Option.some.inj h)) (congrArg (fun (q : Int32 × zMem) => (q.2, n)) (Option.some.inj h))

set_option maxHeartbeats 4000000 in
set_option maxRecDepth 100000 in
theorem m_X7_bars {w : zWd} {lc : Launch} {n : zMem} {a1 : Int32} {a2 : Int32} {m : zMem} {x : Int32}  (h : s_X7_bars a1 a2 m = some x) : zMet w lc 3 yX7_bars cX7_bars 4 (some .int) [pR 64 0, pI a1, pI a2] (n, m) (zQI w x (n, m)) := by
  refine zmet (o := 7) (by decide +kernel) rfl (Nat.le_of_ble_eq_true rfl) rfl (fun f hl hF hR => ?_)
  unfold s_X7_bars at h
  show zG w f 4 0 ([some (pR 64 0), some (pI a1), some (pI a2), none], [], (n, m))
  refine zrun hF [(.aload_n 0, 1, pI 0), (.iload_n 1, 1, pI 0)] 0 _ (by decide +kernel) ?_
  show zG w f 4 2 ([some (pR 64 0), some (pI a1), some (pI a2), none], [pI a1, pR 64 0], (n, m))
  obtain ⟨r2, q1, h⟩ := zr_k h
  refine zcallVI (pc := 2) (As := [pI a1]) (st := []) (c := 64) (j := 0) hF (m_X7_needed  q1) w_X7_needed k_7_117 (by decide +kernel) rfl rfl rfl rfl rfl rfl rfl ?_
  refine zrun hF [(.istore_n 3, 1, pI 0), (.iload_n 3, 1, pI 0)] 5 _ (by decide +kernel) ?_
  refine (And.intro rfl ?_)
  show zG w f 4 7 ([some (pR 64 0), some (pI a1), some (pI a2), some (pI r2)], [pI r2], (n, m))
  refine zif_eq (tgt := 12) (pc := 7) hF (by decide +kernel) (fun b3 => ?_) (fun b3 => ?_)
  · replace h := zit b3 h
    refine zrun hF [(.iload_n 2, 1, pI 0)] 12 _ (by decide +kernel) ?_
    show zG w f 4 13 ([some (pR 64 0), some (pI a1), some (pI a2), some (pI r2)], [pI a2], (n, m))
    refine zif_ge (tgt := 21) (pc := 13) hF (by decide +kernel) (fun b4 => ?_) (fun b4 => ?_)
    · replace h := zit b4 h
      obtain ⟨c5, h⟩ := zchk h
      refine zrun hF [(.iload_n 2, 1, pI 0), (.aload_n 0, 1, pI 0), (.getfield 44, 3, pR 64 15), (.iload_n 1, 1, pI 0), (.iaload, 1, pI 0)] 21 _ (by decide +kernel) ?_
      refine (And.intro rfl (And.intro rfl (And.intro rfl (And.intro rfl (And.intro c5 ?_)))))
      show zG w f 4 28 ([some (pR 64 0), some (pI a1), some (pI a2), some (pI r2)], [pI (m.1 73 0 (ix a1)), pI a2], (n, m))
      refine zicmp_le (tgt := 36) (pc := 28) hF (by decide +kernel) (fun b6 => ?_) (fun b6 => ?_)
      · replace h := zit b6 h
        refine zrun hF [(.iconst 0, 1, pI 0)] 36 _ (by decide +kernel) ?_
        show zG w f 4 37 ([some (pR 64 0), some (pI a1), some (pI a2), some (pI r2)], [pI 0], (n, m))
        exact zretI (pc := 37) hF hR (by decide +kernel) rfl (Option.some.inj h) rfl
      · replace h := zif b6 h
        refine zrun hF [(.bipush (-5), 2, pI (-5))] 31 _ (by decide +kernel) ?_
        show zG w f 4 33 ([some (pR 64 0), some (pI a1), some (pI a2), some (pI r2)], [pI (-5)], (n, m))
        refine zgoto (tgt := 37) (pc := 33) hF (by decide +kernel) ?_
        exact zretI (pc := 37) hF hR (by decide +kernel) rfl (Option.some.inj h) rfl
    · replace h := zif b4 h
      refine zrun hF [(.bipush (-4), 2, pI (-4))] 16 _ (by decide +kernel) ?_
      show zG w f 4 18 ([some (pR 64 0), some (pI a1), some (pI a2), some (pI r2)], [pI (-4)], (n, m))
      refine zgoto (tgt := 37) (pc := 18) hF (by decide +kernel) ?_
      exact zretI (pc := 37) hF hR (by decide +kernel) rfl (Option.some.inj h) rfl
  · replace h := zif b3 h
    refine zrun hF [(.iload_n 3, 1, pI 0)] 10 _ (by decide +kernel) ?_
    show zG w f 4 11 ([some (pR 64 0), some (pI a1), some (pI a2), some (pI r2)], [pI r2], (n, m))
    exact zretI (pc := 11) hF hR (by decide +kernel) rfl (Option.some.inj h) rfl

set_option maxHeartbeats 4000000 in
set_option maxRecDepth 100000 in
theorem m_X7_barsOf {w : zWd} {lc : Launch} {n : zMem} {a1 : Int32} {a2 : Int32} {m : zMem} {x : Int32}  (h : s_X7_barsOf a1 a2 m = some x) : zMet w lc 4 yX7_barsOf cX7_barsOf 4 (some .int) [pR 64 0, pI a1, pI a2] (n, m) (zQI w x (n, m)) := by
  refine zmet (o := 7) (by decide +kernel) rfl (Nat.le_of_ble_eq_true rfl) rfl (fun f hl hF hR => ?_)
  unfold s_X7_barsOf at h
  show zG w f 4 0 ([some (pR 64 0), some (pI a1), some (pI a2), none], [], (n, m))
  refine zrun hF [(.aload_n 0, 1, pI 0), (.iload_n 1, 1, pI 0), (.iload_n 2, 1, pI 0)] 0 _ (by decide +kernel) ?_
  show zG w f 4 3 ([some (pR 64 0), some (pI a1), some (pI a2), none], [pI a2, pI a1, pR 64 0], (n, m))
  obtain ⟨r2, q1, h⟩ := zr_k h
  refine zcallVI (pc := 3) (As := [pI a1, pI a2]) (st := []) (c := 64) (j := 0) hF (m_X7_bars  q1) w_X7_bars k_7_268 (by decide +kernel) rfl rfl rfl rfl rfl rfl rfl ?_
  refine zrun hF [(.istore_n 3, 1, pI 0), (.iload_n 3, 1, pI 0)] 6 _ (by decide +kernel) ?_
  refine (And.intro rfl ?_)
  show zG w f 4 8 ([some (pR 64 0), some (pI a1), some (pI a2), some (pI r2)], [pI r2], (n, m))
  refine zif_ne (tgt := 22) (pc := 8) hF (by decide +kernel) (fun b3 => ?_) (fun b3 => ?_)
  · replace h := zit b3 h
    refine zrun hF [(.iload_n 2, 1, pI 0), (.bipush 60, 2, pI 60)] 11 _ (by decide +kernel) ?_
    show zG w f 4 14 ([some (pR 64 0), some (pI a1), some (pI a2), some (pI r2)], [pI 60, pI a2], (n, m))
    refine zicmp_le (tgt := 22) (pc := 14) hF (by decide +kernel) (fun b4 => ?_) (fun b4 => ?_)
    · replace h := zit b4 h
      refine zrun hF [(.iload_n 3, 1, pI 0)] 22 _ (by decide +kernel) ?_
      show zG w f 4 23 ([some (pR 64 0), some (pI a1), some (pI a2), some (pI r2)], [pI r2], (n, m))
      exact zretI (pc := 23) hF hR (by decide +kernel) rfl (Option.some.inj h) rfl
    · replace h := zif b4 h
      refine zrun hF [(.bipush (-6), 2, pI (-6))] 17 _ (by decide +kernel) ?_
      show zG w f 4 19 ([some (pR 64 0), some (pI a1), some (pI a2), some (pI r2)], [pI (-6)], (n, m))
      refine zgoto (tgt := 23) (pc := 19) hF (by decide +kernel) ?_
      exact zretI (pc := 23) hF hR (by decide +kernel) rfl (Option.some.inj h) rfl
  · replace h := zif b3 h
    refine zrun hF [(.iload_n 3, 1, pI 0)] 22 _ (by decide +kernel) ?_
    show zG w f 4 23 ([some (pR 64 0), some (pI a1), some (pI a2), some (pI r2)], [pI r2], (n, m))
    exact zretI (pc := 23) hF hR (by decide +kernel) rfl (Option.some.inj h) rfl

set_option maxHeartbeats 4000000 in
set_option maxRecDepth 100000 in
theorem m_X7_intAt {w : zWd} {lc : Launch} {n : zMem} {a1 : Int32} {a2 : Int32} {m : zMem} {x : Int32}  (h : s_X7_intAt a1 a2 m = some x) : zMet w lc 1 yX7_intAt cX7_intAt 3 (some .int) [pR 64 0, pI a1, pI a2] (n, m) (zQI w x (n, m)) := by
  refine zmet (o := 7) (by decide +kernel) rfl (Nat.le_of_ble_eq_true rfl) rfl (fun f hl hF hR => ?_)
  unfold s_X7_intAt at h
  show zG w f 3 0 ([some (pR 64 0), some (pI a1), some (pI a2)], [], (n, m))
  obtain ⟨c1, h⟩ := zchk h
  refine zrun hF [(.aload_n 0, 1, pI 0), (.getfield 50, 3, pR 64 17), (.sipush 160, 3, pI 160), (.iload_n 1, 1, pI 0), (.imul, 1, pI 0), (.iload_n 2, 1, pI 0), (.iadd, 1, pI 0), (.laload, 1, pI 0), (.l2i, 1, pI 0)] 0 _ (by decide +kernel) ?_
  refine (And.intro rfl (And.intro rfl (And.intro rfl (And.intro rfl (And.intro c1 ?_)))))
  show zG w f 3 13 ([some (pR 64 0), some (pI a1), some (pI a2)], [pI (Int64.toInt32 (m.2 75 0 (ix ((160 * a1) + a2))))], (n, m))
  exact zretI (pc := 13) hF hR (by decide +kernel) rfl (Option.some.inj h) rfl

set_option maxHeartbeats 4000000 in
set_option maxRecDepth 100000 in
theorem m_X7_wrongIn_L206 {w : zWd} {f : zFr} {n : zMem} {x : Int32} {m0 : zMem} {lc : Launch} (hl : f.2.1 = lc) (hF : zFOK w f 7 cX7_wrongIn 11 4) (hR : zFin w f (some .int) (zQI w x (n, m0))) {k18 : Int32 → Int32 → Int32 → Int32 → zMem → Option (Int32 × zMem)} (hk18 : ∀ (x1 : Int32) (x2 : Int32) (x3 : Int32) (x4 : Int32) (m : zMem), k18 x1 x2 x3 x4 m = some (x, m0) → zG w f 11 18 ([some (pR 64 0), some (pI x1), some (pI x2), some (pI x3), some (pI x4), none, none, none, none, none, none], [], (n, m))) : ∀ (x1 : Int32) (x2 : Int32) (x3 : Int32) (x4 : Int32) (m : zMem), s_X7_wrongIn_L206 k18 x1 x2 x3 x4 m = some (x, m0) → zG w f 11 206 ([some (pR 64 0), some (pI x1), some (pI x2), some (pI x3), some (pI x4), none, none, none, none, none, none], [], (n, m)) := by
  intro x1 x2 x3 x4 m h
  unfold s_X7_wrongIn_L206 at h
  refine zrun hF [(.iinc 4 1, 3, pI 1)] 206 _ (by decide +kernel) ?_
  refine (And.intro rfl ?_)
  show zG w f 11 209 ([some (pR 64 0), some (pI x1), some (pI x2), some (pI x3), some (pI (x4 + 1)), none, none, none, none, none, none], [], (n, m))
  refine zgoto (tgt := 18) (pc := 209) hF (by decide +kernel) ?_
  exact hk18 _ _ _ _ _  h

set_option maxHeartbeats 4000000 in
set_option maxRecDepth 100000 in
theorem m_X7_wrongIn_L109 {w : zWd} {f : zFr} {n : zMem} {x : Int32} {m0 : zMem} {lc : Launch} (hl : f.2.1 = lc) (hF : zFOK w f 7 cX7_wrongIn 11 4) (hR : zFin w f (some .int) (zQI w x (n, m0))) {k18 : Int32 → Int32 → Int32 → Int32 → zMem → Option (Int32 × zMem)} (hk18 : ∀ (x1 : Int32) (x2 : Int32) (x3 : Int32) (x4 : Int32) (m : zMem), k18 x1 x2 x3 x4 m = some (x, m0) → zG w f 11 18 ([some (pR 64 0), some (pI x1), some (pI x2), some (pI x3), some (pI x4), none, none, none, none, none, none], [], (n, m))) : ∀ (k : Nat) (x1 : Int32) (x2 : Int32) (x3 : Int32) (x4 : Int32) (x6 : Int32) (x7 : Int32) (x8 : Int32) (m : zMem), s_X7_wrongIn_L109 k18 k x1 x2 x3 x4 x6 x7 x8 m = some (x, m0) → zG w f 11 109 ([some (pR 64 0), some (pI x1), some (pI x2), some (pI x3), some (pI x4), none, some (pI x6), some (pI x7), some (pI x8), none, none], [], (n, m)) := by
  intro k
  induction k with
  | zero => intro x1 x2 x3 x4 x6 x7 x8 m h; exact zno h
  | succ k ih =>
    intro x1 x2 x3 x4 x6 x7 x8 m h
    unfold s_X7_wrongIn_L109 at h
    refine zrun hF [(.iload 8, 2, pI 0), (.iload 4, 2, pI 0)] 109 _ (by decide +kernel) ?_
    show zG w f 11 113 ([some (pR 64 0), some (pI x1), some (pI x2), some (pI x3), some (pI x4), none, some (pI x6), some (pI x7), some (pI x8), none, none], [pI x4, pI x8], (n, m))
    refine zicmp_ge (tgt := 192) (pc := 113) hF (by decide +kernel) (fun b14 => ?_) (fun b14 => ?_)
    · replace h := zit b14 h
      refine zrun hF [(.aload_n 0, 1, pI 0), (.aload_n 0, 1, pI 0), (.getfield 35, 3, pR 64 12), (.iload 6, 2, pI 0), (.iload 7, 2, pI 0), (.iconst 1, 1, pI 1)] 192 _ (by decide +kernel) ?_
      refine (And.intro rfl (And.intro rfl ?_))
      show zG w f 11 202 ([some (pR 64 0), some (pI x1), some (pI x2), some (pI x3), some (pI x4), none, some (pI x6), some (pI x7), some (pI x8), none, none], [pI 1, pI x7, pI x6, pR 70 0, pR 64 0], (n, m))
      obtain ⟨r16, m17, q15, h⟩ := zb_k h
      refine zcallVI (pc := 202) (As := [pR 70 0, pI x6, pI x7, pI 1]) (st := []) (c := 64) (j := 0) hF (m_X7_puts_70  q15) w_X7_puts k_7_137 (by decide +kernel) rfl rfl rfl rfl rfl rfl rfl ?_
      refine zrun hF [(.pop, 1, pI 0)] 205 _ (by decide +kernel) ?_
      refine (And.intro rfl ?_)
      show zG w f 11 206 ([some (pR 64 0), some (pI x1), some (pI x2), some (pI x3), some (pI x4), none, some (pI x6), some (pI x7), some (pI x8), none, none], [], (n, m17))
      refine zcut [true, true, true, true, true, true, false, false, false, true, true] ?_
      exact m_X7_wrongIn_L206 hl hF hR hk18 _ _ _ _ _  h
    · replace h := zif b14 h
      refine zrun hF [(.aload_n 0, 1, pI 0), (.iload_n 1, 1, pI 0), (.iload 8, 2, pI 0)] 116 _ (by decide +kernel) ?_
      show zG w f 11 120 ([some (pR 64 0), some (pI x1), some (pI x2), some (pI x3), some (pI x4), none, some (pI x6), some (pI x7), some (pI x8), none, none], [pI x8, pI x1, pR 64 0], (n, m))
      obtain ⟨r19, q18, h⟩ := zr_k h
      refine zcallVI (pc := 120) (As := [pI x1, pI x8]) (st := []) (c := 64) (j := 0) hF (m_X7_intAt  q18) w_X7_intAt k_7_265 (by decide +kernel) rfl rfl rfl rfl rfl rfl rfl ?_
      refine zrun hF [(.bipush 100, 2, pI 100), (.idiv, 1, pI 0), (.istore 9, 2, pI 0), (.aload_n 0, 1, pI 0), (.iload_n 1, 1, pI 0), (.iload 8, 2, pI 0)] 123 _ (by decide +kernel) ?_
      refine (And.intro (by decide) (And.intro rfl ?_))
      show zG w f 11 132 ([some (pR 64 0), some (pI x1), some (pI x2), some (pI x3), some (pI x4), none, some (pI x6), some (pI x7), some (pI x8), some (pI (r19 / 100)), none], [pI x8, pI x1, pR 64 0], (n, m))
      obtain ⟨r21, q20, h⟩ := zr_k h
      refine zcallVI (pc := 132) (As := [pI x1, pI x8]) (st := []) (c := 64) (j := 0) hF (m_X7_intAt  q20) w_X7_intAt k_7_265 (by decide +kernel) rfl rfl rfl rfl rfl rfl rfl ?_
      refine zrun hF [(.bipush 100, 2, pI 100), (.irem, 1, pI 0), (.istore 10, 2, pI 0), (.iload 9, 2, pI 0), (.iload 6, 2, pI 0)] 135 _ (by decide +kernel) ?_
      refine (And.intro (by decide) (And.intro rfl ?_))
      show zG w f 11 144 ([some (pR 64 0), some (pI x1), some (pI x2), some (pI x3), some (pI x4), none, some (pI x6), some (pI x7), some (pI x8), some (pI (r19 / 100)), some (pI (jrem r21 100))], [pI x6, pI (r19 / 100)], (n, m))
      refine zicmp_eq (tgt := 183) (pc := 144) hF (by decide +kernel) (fun b22 => ?_) (fun b22 => ?_)
      · replace h := zit b22 h
        refine zrun hF [(.iload 4, 2, pI 0)] 183 _ (by decide +kernel) ?_
        show zG w f 11 185 ([some (pR 64 0), some (pI x1), some (pI x2), some (pI x3), some (pI x4), none, some (pI x6), some (pI x7), some (pI x8), some (pI (r19 / 100)), some (pI (jrem r21 100))], [pI x4], (n, m))
        exact zretI (pc := 185) hF hR (by decide +kernel) rfl (congrArg Prod.fst (Option.some.inj h)) (congrArg (fun (q : Int32 × zMem) => (n, q.2)) (Option.some.inj h))
      · replace h := zif b22 h
        refine zrun hF [(.iload 9, 2, pI 0), (.iload 7, 2, pI 0)] 147 _ (by decide +kernel) ?_
        show zG w f 11 151 ([some (pR 64 0), some (pI x1), some (pI x2), some (pI x3), some (pI x4), none, some (pI x6), some (pI x7), some (pI x8), some (pI (r19 / 100)), some (pI (jrem r21 100))], [pI x7, pI (r19 / 100)], (n, m))
        refine zicmp_eq (tgt := 183) (pc := 151) hF (by decide +kernel) (fun b23 => ?_) (fun b23 => ?_)
        · replace h := zit b23 h
          refine zrun hF [(.iload 4, 2, pI 0)] 183 _ (by decide +kernel) ?_
          show zG w f 11 185 ([some (pR 64 0), some (pI x1), some (pI x2), some (pI x3), some (pI x4), none, some (pI x6), some (pI x7), some (pI x8), some (pI (r19 / 100)), some (pI (jrem r21 100))], [pI x4], (n, m))
          exact zretI (pc := 185) hF hR (by decide +kernel) rfl (congrArg Prod.fst (Option.some.inj h)) (congrArg (fun (q : Int32 × zMem) => (n, q.2)) (Option.some.inj h))
        · replace h := zif b23 h
          refine zrun hF [(.iload 10, 2, pI 0), (.iload 6, 2, pI 0)] 154 _ (by decide +kernel) ?_
          show zG w f 11 158 ([some (pR 64 0), some (pI x1), some (pI x2), some (pI x3), some (pI x4), none, some (pI x6), some (pI x7), some (pI x8), some (pI (r19 / 100)), some (pI (jrem r21 100))], [pI x6, pI (jrem r21 100)], (n, m))
          refine zicmp_eq (tgt := 183) (pc := 158) hF (by decide +kernel) (fun b24 => ?_) (fun b24 => ?_)
          · replace h := zit b24 h
            refine zrun hF [(.iload 4, 2, pI 0)] 183 _ (by decide +kernel) ?_
            show zG w f 11 185 ([some (pR 64 0), some (pI x1), some (pI x2), some (pI x3), some (pI x4), none, some (pI x6), some (pI x7), some (pI x8), some (pI (r19 / 100)), some (pI (jrem r21 100))], [pI x4], (n, m))
            exact zretI (pc := 185) hF hR (by decide +kernel) rfl (congrArg Prod.fst (Option.some.inj h)) (congrArg (fun (q : Int32 × zMem) => (n, q.2)) (Option.some.inj h))
          · replace h := zif b24 h
            refine zrun hF [(.iload 10, 2, pI 0), (.iload 7, 2, pI 0)] 161 _ (by decide +kernel) ?_
            show zG w f 11 165 ([some (pR 64 0), some (pI x1), some (pI x2), some (pI x3), some (pI x4), none, some (pI x6), some (pI x7), some (pI x8), some (pI (r19 / 100)), some (pI (jrem r21 100))], [pI x7, pI (jrem r21 100)], (n, m))
            refine zicmp_eq (tgt := 183) (pc := 165) hF (by decide +kernel) (fun b25 => ?_) (fun b25 => ?_)
            · replace h := zit b25 h
              refine zrun hF [(.iload 4, 2, pI 0)] 183 _ (by decide +kernel) ?_
              show zG w f 11 185 ([some (pR 64 0), some (pI x1), some (pI x2), some (pI x3), some (pI x4), none, some (pI x6), some (pI x7), some (pI x8), some (pI (r19 / 100)), some (pI (jrem r21 100))], [pI x4], (n, m))
              exact zretI (pc := 185) hF hR (by decide +kernel) rfl (congrArg Prod.fst (Option.some.inj h)) (congrArg (fun (q : Int32 × zMem) => (n, q.2)) (Option.some.inj h))
            · replace h := zif b25 h
              refine zrun hF [(.aload_n 0, 1, pI 0), (.iload 9, 2, pI 0), (.iload 10, 2, pI 0), (.iload 6, 2, pI 0), (.iload 7, 2, pI 0)] 168 _ (by decide +kernel) ?_
              show zG w f 11 177 ([some (pR 64 0), some (pI x1), some (pI x2), some (pI x3), some (pI x4), none, some (pI x6), some (pI x7), some (pI x8), some (pI (r19 / 100)), some (pI (jrem r21 100))], [pI x7, pI x6, pI (jrem r21 100), pI (r19 / 100), pR 64 0], (n, m))
              obtain ⟨r27, q26, h⟩ := zr_k h
              refine zcallVI (pc := 177) (As := [pI (r19 / 100), pI (jrem r21 100), pI x6, pI x7]) (st := []) (c := 64) (j := 0) hF (m_X7_crosses  q26) w_X7_crosses k_7_215 (by decide +kernel) rfl rfl rfl rfl rfl rfl rfl ?_
              refine zif_eq (tgt := 186) (pc := 180) hF (by decide +kernel) (fun b28 => ?_) (fun b28 => ?_)
              · replace h := zit b28 h
                refine zrun hF [(.iinc 8 1, 3, pI 1)] 186 _ (by decide +kernel) ?_
                refine (And.intro rfl ?_)
                show zG w f 11 189 ([some (pR 64 0), some (pI x1), some (pI x2), some (pI x3), some (pI x4), none, some (pI x6), some (pI x7), some (pI (x8 + 1)), some (pI (r19 / 100)), some (pI (jrem r21 100))], [], (n, m))
                refine zgoto (tgt := 109) (pc := 189) hF (by decide +kernel) ?_
                refine zcut [true, true, true, true, true, true, true, true, true, false, false] ?_
                exact ih _ _ _ _ _ _ _ _  h
              · replace h := zif b28 h
                refine zrun hF [(.iload 4, 2, pI 0)] 183 _ (by decide +kernel) ?_
                show zG w f 11 185 ([some (pR 64 0), some (pI x1), some (pI x2), some (pI x3), some (pI x4), none, some (pI x6), some (pI x7), some (pI x8), some (pI (r19 / 100)), some (pI (jrem r21 100))], [pI x4], (n, m))
                exact zretI (pc := 185) hF hR (by decide +kernel) rfl (congrArg Prod.fst (Option.some.inj h)) (congrArg (fun (q : Int32 × zMem) => (n, q.2)) (Option.some.inj h))

set_option maxHeartbeats 4000000 in
set_option maxRecDepth 100000 in
theorem m_X7_wrongIn_L18 {w : zWd} {f : zFr} {n : zMem} {x : Int32} {m0 : zMem} {lc : Launch} (hl : f.2.1 = lc) (hF : zFOK w f 7 cX7_wrongIn 11 4) (hR : zFin w f (some .int) (zQI w x (n, m0))) : ∀ (k : Nat) (x1 : Int32) (x2 : Int32) (x3 : Int32) (x4 : Int32) (m : zMem), s_X7_wrongIn_L18 k x1 x2 x3 x4 m = some (x, m0) → zG w f 11 18 ([some (pR 64 0), some (pI x1), some (pI x2), some (pI x3), some (pI x4), none, none, none, none, none, none], [], (n, m)) := by
  intro k
  induction k with
  | zero => intro x1 x2 x3 x4 m h; exact zno h
  | succ k ih =>
    intro x1 x2 x3 x4 m h
    unfold s_X7_wrongIn_L18 at h
    refine zrun hF [(.iload 4, 2, pI 0), (.iload_n 2, 1, pI 0)] 18 _ (by decide +kernel) ?_
    show zG w f 11 21 ([some (pR 64 0), some (pI x1), some (pI x2), some (pI x3), some (pI x4), none, none, none, none, none, none], [pI x2, pI x4], (n, m))
    refine zicmp_ge (tgt := 212) (pc := 21) hF (by decide +kernel) (fun b3 => ?_) (fun b3 => ?_)
    · replace h := zit b3 h
      refine zrun hF [(.iconst (-1), 1, pI (-1))] 212 _ (by decide +kernel) ?_
      show zG w f 11 213 ([some (pR 64 0), some (pI x1), some (pI x2), some (pI x3), some (pI x4), none, none, none, none, none, none], [pI (-1)], (n, m))
      exact zretI (pc := 213) hF hR (by decide +kernel) rfl (congrArg Prod.fst (Option.some.inj h)) (congrArg (fun (q : Int32 × zMem) => (n, q.2)) (Option.some.inj h))
    · replace h := zif b3 h
      refine zrun hF [(.aload_n 0, 1, pI 0), (.iload_n 1, 1, pI 0), (.iload 4, 2, pI 0)] 24 _ (by decide +kernel) ?_
      show zG w f 11 28 ([some (pR 64 0), some (pI x1), some (pI x2), some (pI x3), some (pI x4), none, none, none, none, none, none], [pI x4, pI x1, pR 64 0], (n, m))
      obtain ⟨r5, q4, h⟩ := zr_k h
      refine zcallVI (pc := 28) (As := [pI x1, pI x4]) (st := []) (c := 64) (j := 0) hF (m_X7_intAt  q4) w_X7_intAt k_7_265 (by decide +kernel) rfl rfl rfl rfl rfl rfl rfl ?_
      refine zrun hF [(.istore 5, 2, pI 0), (.iload 5, 2, pI 0), (.bipush 100, 2, pI 100), (.idiv, 1, pI 0), (.istore 6, 2, pI 0), (.iload 5, 2, pI 0), (.bipush 100, 2, pI 100), (.irem, 1, pI 0), (.istore 7, 2, pI 0), (.iload 5, 2, pI 0), (.iconst (-1), 1, pI (-1))] 31 _ (by decide +kernel) ?_
      refine (And.intro rfl (And.intro (by decide) (And.intro rfl (And.intro (by decide) (And.intro rfl ?_)))))
      show zG w f 11 50 ([some (pR 64 0), some (pI x1), some (pI x2), some (pI x3), some (pI x4), some (pI r5), some (pI (r5 / 100)), some (pI (jrem r5 100)), none, none, none], [pI (-1), pI r5], (n, m))
      refine zicmp_ne (tgt := 71) (pc := 50) hF (by decide +kernel) (fun b6 => ?_) (fun b6 => ?_)
      · replace h := zit b6 h
        refine zrun hF [(.aload_n 0, 1, pI 0), (.dup, 1, pI 0), (.getfield 262, 3, pR 64 37), (.iconst 1, 1, pI 1), (.iadd, 1, pI 0), (.putfield 262, 3, pR 64 37)] 53 _ (by decide +kernel) ?_
        refine (And.intro rfl (And.intro rfl (And.intro rfl (And.intro rfl (And.intro rfl (And.intro trivial ?_))))))
        refine zlet_k (P := fun (m7 : zMem) => zG w f 11 63 ([some (pR 64 0), some (pI x1), some (pI x2), some (pI x3), some (pI x4), some (pI r5), some (pI (r5 / 100)), some (pI (jrem r5 100)), none, none, none], [], (n, m7))) h (fun m7 h => ?_)
        refine zrun hF [(.iload 4, 2, pI 0), (.iconst 1, 1, pI 1), (.iadd, 1, pI 0), (.istore_n 3, 1, pI 0)] 63 _ (by decide +kernel) ?_
        refine (And.intro rfl ?_)
        show zG w f 11 68 ([some (pR 64 0), some (pI x1), some (pI x2), some (pI (x4 + 1)), some (pI x4), some (pI r5), some (pI (r5 / 100)), some (pI (jrem r5 100)), none, none, none], [], (n, m7))
        refine zgoto (tgt := 206) (pc := 68) hF (by decide +kernel) ?_
        refine zcut [true, true, true, true, true, false, false, false, true, true, true] ?_
        exact m_X7_wrongIn_L206 hl hF hR ih _ _ _ _ _  h
      · replace h := zif b6 h
        refine zrun hF [(.iload 5, 2, pI 0)] 71 _ (by decide +kernel) ?_
        show zG w f 11 73 ([some (pR 64 0), some (pI x1), some (pI x2), some (pI x3), some (pI x4), some (pI r5), some (pI (r5 / 100)), some (pI (jrem r5 100)), none, none, none], [pI r5], (n, m))
        refine zif_lt (tgt := 103) (pc := 73) hF (by decide +kernel) (fun b8 => ?_) (fun b8 => ?_)
        · replace h := zit b8 h
          refine zrun hF [(.iload 4, 2, pI 0)] 103 _ (by decide +kernel) ?_
          show zG w f 11 105 ([some (pR 64 0), some (pI x1), some (pI x2), some (pI x3), some (pI x4), some (pI r5), some (pI (r5 / 100)), some (pI (jrem r5 100)), none, none, none], [pI x4], (n, m))
          exact zretI (pc := 105) hF hR (by decide +kernel) rfl (congrArg Prod.fst (Option.some.inj h)) (congrArg (fun (q : Int32 × zMem) => (n, q.2)) (Option.some.inj h))
        · replace h := zif b8 h
          refine zrun hF [(.iload 6, 2, pI 0), (.iload 7, 2, pI 0)] 76 _ (by decide +kernel) ?_
          show zG w f 11 80 ([some (pR 64 0), some (pI x1), some (pI x2), some (pI x3), some (pI x4), some (pI r5), some (pI (r5 / 100)), some (pI (jrem r5 100)), none, none, none], [pI (jrem r5 100), pI (r5 / 100)], (n, m))
          refine zicmp_ge (tgt := 103) (pc := 80) hF (by decide +kernel) (fun b9 => ?_) (fun b9 => ?_)
          · replace h := zit b9 h
            refine zrun hF [(.iload 4, 2, pI 0)] 103 _ (by decide +kernel) ?_
            show zG w f 11 105 ([some (pR 64 0), some (pI x1), some (pI x2), some (pI x3), some (pI x4), some (pI r5), some (pI (r5 / 100)), some (pI (jrem r5 100)), none, none, none], [pI x4], (n, m))
            exact zretI (pc := 105) hF hR (by decide +kernel) rfl (congrArg Prod.fst (Option.some.inj h)) (congrArg (fun (q : Int32 × zMem) => (n, q.2)) (Option.some.inj h))
          · replace h := zif b9 h
            refine zrun hF [(.iload 7, 2, pI 0), (.aload_n 0, 1, pI 0), (.getfield 93, 3, pR 64 0)] 83 _ (by decide +kernel) ?_
            refine (And.intro rfl (And.intro rfl ?_))
            show zG w f 11 89 ([some (pR 64 0), some (pI x1), some (pI x2), some (pI x3), some (pI x4), some (pI r5), some (pI (r5 / 100)), some (pI (jrem r5 100)), none, none, none], [pI (m.1 64 0 0), pI (jrem r5 100)], (n, m))
            refine zicmp_ge (tgt := 103) (pc := 89) hF (by decide +kernel) (fun b10 => ?_) (fun b10 => ?_)
            · replace h := zit b10 h
              refine zrun hF [(.iload 4, 2, pI 0)] 103 _ (by decide +kernel) ?_
              show zG w f 11 105 ([some (pR 64 0), some (pI x1), some (pI x2), some (pI x3), some (pI x4), some (pI r5), some (pI (r5 / 100)), some (pI (jrem r5 100)), none, none, none], [pI x4], (n, m))
              exact zretI (pc := 105) hF hR (by decide +kernel) rfl (congrArg Prod.fst (Option.some.inj h)) (congrArg (fun (q : Int32 × zMem) => (n, q.2)) (Option.some.inj h))
            · replace h := zif b10 h
              refine zrun hF [(.aload_n 0, 1, pI 0), (.iload 6, 2, pI 0), (.iload 7, 2, pI 0)] 92 _ (by decide +kernel) ?_
              show zG w f 11 97 ([some (pR 64 0), some (pI x1), some (pI x2), some (pI x3), some (pI x4), some (pI r5), some (pI (r5 / 100)), some (pI (jrem r5 100)), none, none, none], [pI (jrem r5 100), pI (r5 / 100), pR 64 0], (n, m))
              obtain ⟨r12, q11, h⟩ := zr_k h
              refine zcallVI (pc := 97) (As := [pI (r5 / 100), pI (jrem r5 100)]) (st := []) (c := 64) (j := 0) hF (m_X7_isWanted  q11) w_X7_isWanted k_7_219 (by decide +kernel) rfl rfl rfl rfl rfl rfl rfl ?_
              refine zif_ne (tgt := 106) (pc := 100) hF (by decide +kernel) (fun b13 => ?_) (fun b13 => ?_)
              · replace h := zit b13 h
                refine zrun hF [(.iload 4, 2, pI 0)] 103 _ (by decide +kernel) ?_
                show zG w f 11 105 ([some (pR 64 0), some (pI x1), some (pI x2), some (pI x3), some (pI x4), some (pI r5), some (pI (r5 / 100)), some (pI (jrem r5 100)), none, none, none], [pI x4], (n, m))
                exact zretI (pc := 105) hF hR (by decide +kernel) rfl (congrArg Prod.fst (Option.some.inj h)) (congrArg (fun (q : Int32 × zMem) => (n, q.2)) (Option.some.inj h))
              · replace h := zif b13 h
                refine zrun hF [(.iload_n 3, 1, pI 0), (.istore 8, 2, pI 0)] 106 _ (by decide +kernel) ?_
                refine (And.intro rfl ?_)
                show zG w f 11 109 ([some (pR 64 0), some (pI x1), some (pI x2), some (pI x3), some (pI x4), some (pI r5), some (pI (r5 / 100)), some (pI (jrem r5 100)), some (pI x3), none, none], [], (n, m))
                refine zcut [true, true, true, true, true, false, true, true, true, true, true] ?_
                exact m_X7_wrongIn_L109 hl hF hR ih zF _ _ _ _ _ _ _ _  h

set_option maxHeartbeats 4000000 in
set_option maxRecDepth 100000 in
theorem m_X7_wrongIn_L12 {w : zWd} {f : zFr} {n : zMem} {x : Int32} {m0 : zMem} {lc : Launch} (hl : f.2.1 = lc) (hF : zFOK w f 7 cX7_wrongIn 11 4) (hR : zFin w f (some .int) (zQI w x (n, m0))) : ∀ (x1 : Int32) (x2 : Int32) (x3 : Int32) (y1 : Int32) (m : zMem), s_X7_wrongIn_L12 x1 x2 x3 y1 m = some (x, m0) → zG w f 11 12 ([some (pR 64 0), some (pI x1), some (pI x2), some (pI x3), none, none, none, none, none, none, none], [pI y1, pR 64 0], (n, m)) := by
  intro x1 x2 x3 y1 m h
  unfold s_X7_wrongIn_L12 at h
  refine zrun hF [(.putfield 262, 3, pR 64 37)] 12 _ (by decide +kernel) ?_
  refine (And.intro rfl (And.intro rfl (And.intro trivial ?_)))
  refine zlet_k (P := fun (m2 : zMem) => zG w f 11 15 ([some (pR 64 0), some (pI x1), some (pI x2), some (pI x3), none, none, none, none, none, none, none], [], (n, m2))) h (fun m2 h => ?_)
  refine zrun hF [(.iconst 0, 1, pI 0), (.istore 4, 2, pI 0)] 15 _ (by decide +kernel) ?_
  refine (And.intro rfl ?_)
  show zG w f 11 18 ([some (pR 64 0), some (pI x1), some (pI x2), some (pI x3), some (pI 0), none, none, none, none, none, none], [], (n, m2))
  exact m_X7_wrongIn_L18 hl hF hR  zF _ _ _ _ _  h

set_option maxHeartbeats 4000000 in
set_option maxRecDepth 100000 in
theorem m_X7_wrongIn {w : zWd} {lc : Launch} {n : zMem} {a1 : Int32} {a2 : Int32} {m : zMem} {x : Int32} {m0 : zMem}  (h : s_X7_wrongIn a1 a2 m = some (x, m0)) : zMet w lc 4 yX7_wrongIn cX7_wrongIn 11 (some .int) [pR 64 0, pI a1, pI a2] (n, m) (zQI w x (n, m0)) := by
  refine zmet (o := 7) (by decide +kernel) rfl (Nat.le_of_ble_eq_true rfl) rfl (fun f hl hF hR => ?_)
  unfold s_X7_wrongIn at h
  show zG w f 11 0 ([some (pR 64 0), some (pI a1), some (pI a2), none, none, none, none, none, none, none, none], [], (n, m))
  refine zrun hF [(.iconst 0, 1, pI 0), (.istore_n 3, 1, pI 0), (.aload_n 0, 1, pI 0), (.iload_n 2, 1, pI 0)] 0 _ (by decide +kernel) ?_
  refine (And.intro rfl ?_)
  show zG w f 11 4 ([some (pR 64 0), some (pI a1), some (pI a2), some (pI 0), none, none, none, none, none, none, none], [pI a2, pR 64 0], (n, m))
  refine zif_ne (tgt := 11) (pc := 4) hF (by decide +kernel) (fun b1 => ?_) (fun b1 => ?_)
  · replace h := zit b1 h
    refine zrun hF [(.iconst 0, 1, pI 0)] 7 _ (by decide +kernel) ?_
    show zG w f 11 8 ([some (pR 64 0), some (pI a1), some (pI a2), some (pI 0), none, none, none, none, none, none, none], [pI 0, pR 64 0], (n, m))
    refine zgoto (tgt := 12) (pc := 8) hF (by decide +kernel) ?_
    exact m_X7_wrongIn_L12 hl hF hR  _ _ _ _ _  h
  · replace h := zif b1 h
    refine zrun hF [(.iconst 1, 1, pI 1)] 11 _ (by decide +kernel) ?_
    show zG w f 11 12 ([some (pR 64 0), some (pI a1), some (pI a2), some (pI 0), none, none, none, none, none, none, none], [pI 1, pR 64 0], (n, m))
    exact m_X7_wrongIn_L12 hl hF hR  _ _ _ _ _  h

