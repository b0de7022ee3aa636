set_option maxHeartbeats 4000000 in
set_option maxRecDepth 100000 in
theorem m_X6_isShelf {w : zWd} {lc : Launch} {M : zWM} {a1 : Int32} {x : Int32}  (h : s_X6_isShelf a1 = some x) : zMet w lc 1 yX6_isShelf cX6_isShelf 1 (some .boolean) [pI a1] M (zQI w x M) := by
  refine zmet (o := 6) (by decide +kernel) rfl (Nat.le_of_ble_eq_true rfl) rfl (fun f hl hF hR => ?_)
  unfold s_X6_isShelf at h
  show zG w f 1 0 ([some (pI a1)], [], M)
  refine zrun hF [(.iload_n 0, 1, pI 0)] 0 _ (by decide +kernel) ?_
  show zG w f 1 1 ([some (pI a1)], [pI a1], M)
  refine zif_lt (tgt := 14) (pc := 1) hF (by decide +kernel) (fun b1 => ?_) (fun b1 => ?_)
  · replace h := zit b1 h
    refine zrun hF [(.iconst 0, 1, pI 0)] 14 _ (by decide +kernel) ?_
    show zG w f 1 15 ([some (pI a1)], [pI 0], M)
    exact zretI (pc := 15) hF hR (by decide +kernel) (by decide +kernel) (Option.some.inj h) rfl
  · replace h := zif b1 h
    refine zrun hF [(.iload_n 0, 1, pI 0), (.bipush 8, 2, pI 8)] 4 _ (by decide +kernel) ?_
    show zG w f 1 7 ([some (pI a1)], [pI 8, pI a1], M)
    refine zicmp_ge (tgt := 14) (pc := 7) hF (by decide +kernel) (fun b2 => ?_) (fun b2 => ?_)
    · replace h := zit b2 h
      refine zrun hF [(.iconst 0, 1, pI 0)] 14 _ (by decide +kernel) ?_
      show zG w f 1 15 ([some (pI a1)], [pI 0], M)
      exact zretI (pc := 15) hF hR (by decide +kernel) (by decide +kernel) (Option.some.inj h) rfl
    · replace h := zif b2 h
      refine zrun hF [(.iconst 1, 1, pI 1)] 10 _ (by decide +kernel) ?_
      show zG w f 1 11 ([some (pI a1)], [pI 1], M)
      refine zgoto (tgt := 15) (pc := 11) hF (by decide +kernel) ?_
      exact zretI (pc := 15) hF hR (by decide +kernel) (by decide +kernel) (Option.some.inj h) rfl

set_option maxHeartbeats 4000000 in
set_option maxRecDepth 100000 in
theorem m_X6_refuse {w : zWd} {lc : Launch} {n : zMem} {a1 : Int32} {m : zMem} {x : Int32} {m0 : zMem}  (h : s_X6_refuse a1 m = some (x, m0)) : zMet w lc 1 yX6_refuse cX6_refuse 2 (some .int) [pR 0 0, pI a1] (m, n) (zQI w x (m0, n)) := by
  refine zmet (o := 6) (by decide +kernel) rfl (Nat.le_of_ble_eq_true rfl) rfl (fun f hl hF hR => ?_)
  unfold s_X6_refuse at h
  show zG w f 2 0 ([some (pR 0 0), some (pI a1)], [], (m, n))
  refine zrun hF [(.iload_n 1, 1, pI 0), (.iconst (-1), 1, pI (-1))] 0 _ (by decide +kernel) ?_
  show zG w f 2 2 ([some (pR 0 0), some (pI a1)], [pI (-1), pI a1], (m, n))
  refine zicmp_gt (tgt := 22) (pc := 2) hF (by decide +kernel) (fun b1 => ?_) (fun b1 => ?_)
  · replace h := zit b1 h
    refine zrun hF [(.iload_n 1, 1, pI 0)] 22 _ (by decide +kernel) ?_
    show zG w f 2 23 ([some (pR 0 0), some (pI a1)], [pI a1], (m, n))
    exact zretI (pc := 23) hF hR (by decide +kernel) rfl (congrArg Prod.fst (Option.some.inj h)) (congrArg (fun (q : Int32 × zMem) => (q.2, n)) (Option.some.inj h))
  · replace h := zif b1 h
    refine zrun hF [(.iload_n 1, 1, pI 0), (.bipush (-7), 2, pI (-7))] 5 _ (by decide +kernel) ?_
    show zG w f 2 8 ([some (pR 0 0), some (pI a1)], [pI (-7), pI a1], (m, n))
    refine zicmp_lt (tgt := 22) (pc := 8) hF (by decide +kernel) (fun b2 => ?_) (fun b2 => ?_)
    · replace h := zit b2 h
      refine zrun hF [(.iload_n 1, 1, pI 0)] 22 _ (by decide +kernel) ?_
      show zG w f 2 23 ([some (pR 0 0), some (pI a1)], [pI a1], (m, n))
      exact zretI (pc := 23) hF hR (by decide +kernel) rfl (congrArg Prod.fst (Option.some.inj h)) (congrArg (fun (q : Int32 × zMem) => (q.2, n)) (Option.some.inj h))
    · replace h := zif b2 h
      obtain ⟨c3, h⟩ := zchk h
      refine zrun hF [(.aload_n 0, 1, pI 0), (.getfield 60, 3, pR 0 9), (.iload_n 1, 1, pI 0), (.ineg, 1, pI 0), (.dup2, 1, pI 0), (.iaload, 1, pI 0), (.iconst 1, 1, pI 1), (.iadd, 1, pI 0), (.iastore, 1, pI 0)] 11 _ (by decide +kernel) ?_
      refine (And.intro rfl (And.intro rfl (And.intro rfl (And.intro rfl (And.intro rfl (And.intro c3 (And.intro rfl (And.intro rfl (And.intro c3 ?_)))))))))
      refine zlet_k (P := fun (m4 : zMem) => zG w f 2 22 ([some (pR 0 0), some (pI a1)], [], (m4, n))) h (fun m4 h => ?_)
      refine zrun hF [(.iload_n 1, 1, pI 0)] 22 _ (by decide +kernel) ?_
      show zG w f 2 23 ([some (pR 0 0), some (pI a1)], [pI a1], (m4, n))
      exact zretI (pc := 23) hF hR (by decide +kernel) rfl (congrArg Prod.fst (Option.some.inj h)) (congrArg (fun (q : Int32 × zMem) => (q.2, n)) (Option.some.inj h))

set_option maxHeartbeats 4000000 in
set_option maxRecDepth 100000 in
theorem m_X4_become_L25 {w : zWd} {f : zFr} {n : zMem} {m0 : zMem} {lc : Launch} (hl : f.2.1 = lc) (hF : zFOK w f 4 cX4_become 4 1) (hR : zFin w f none (zQV w (m0, n))) : ∀ (k : Nat) (x0 : Nat) (x3 : Int32) (m : zMem), Nat.blt x0 8 = true → s_X4_become_L25 k x0 x3 m = some m0 → zG w f 4 25 ([some (pR 8 x0), none, none, some (pI x3)], [], (m, n)) := by
  intro k
  induction k with
  | zero => intro x0 x3 m hx0 h; exact zno h
  | succ k ih =>
    intro x0 x3 m hx0 h
    unfold s_X4_become_L25 at h
    refine zrun hF [(.iload_n 3, 1, pI 0), (.aload_n 0, 1, pI 0), (.getfield 19, 3, pR 8 2)] 25 _ (by decide +kernel) ?_
    refine (And.intro rfl (And.intro hx0 ?_))
    show zG w f 4 30 ([some (pR 8 x0), none, none, some (pI x3)], [pI (m.1 8 x0 2), pI x3], (m, n))
    refine zicmp_ge (tgt := 46) (pc := 30) hF (by decide +kernel) (fun b3 => ?_) (fun b3 => ?_)
    · replace h := zit b3 h
      exact zretV (pc := 46) hF hR (by decide +kernel) (congrArg (fun q => (q, n)) (Option.some.inj h))
    · replace h := zif b3 h
      obtain ⟨c4, h⟩ := zchk h
      refine zrun hF [(.aload_n 0, 1, pI 0), (.getfield 9, 3, pR 8 0), (.iload_n 3, 1, pI 0), (.lconst 0, 1, pL 0), (.lastore, 1, pI 0)] 33 _ (by decide +kernel) ?_
      refine (And.intro rfl (And.intro hx0 (And.intro rfl (And.intro hx0 (And.intro c4 ?_)))))
      refine zlet_k (P := fun (m5 : zMem) => zG w f 4 40 ([some (pR 8 x0), none, none, some (pI x3)], [], (m5, n))) h (fun m5 h => ?_)
      refine zrun hF [(.iinc 3 1, 3, pI 1)] 40 _ (by decide +kernel) ?_
      refine (And.intro rfl ?_)
      show zG w f 4 43 ([some (pR 8 x0), none, none, some (pI (x3 + 1))], [], (m5, n))
      refine zgoto (tgt := 25) (pc := 43) hF (by decide +kernel) ?_
      exact ih _ _ _ hx0 h

set_option maxHeartbeats 4000000 in
set_option maxRecDepth 100000 in
theorem m_X4_become {w : zWd} {lc : Launch} {n : zMem} {t : Nat} {a1 : Int32} {a2 : Int32} {m : zMem} {m0 : zMem} (ht : Nat.blt t 8 = true) (h : s_X4_become t a1 a2 m = some m0) : zMet w lc 1 yX4_become cX4_become 4 none [pR 8 t, pI a1, pI a2] (m, n) (zQV w (m0, n)) := by
  refine zmet (o := 4) (by decide +kernel) rfl (Nat.le_of_ble_eq_true rfl) rfl (fun f hl hF hR => ?_)
  unfold s_X4_become at h
  show zG w f 4 0 ([some (pR 8 t), some (pI a1), some (pI a2), none], [], (m, n))
  refine zrun hF [(.aload_n 0, 1, pI 0), (.bipush 100, 2, pI 100), (.iload_n 1, 1, pI 0), (.iadd, 1, pI 0), (.putfield 15, 3, pR 8 1)] 0 _ (by decide +kernel) ?_
  refine (And.intro rfl (And.intro ht (And.intro trivial ?_)))
  refine zlet_k (P := fun (m1 : zMem) => zG w f 4 8 ([some (pR 8 t), some (pI a1), some (pI a2), none], [], (m1, n))) h (fun m1 h => ?_)
  refine zrun hF [(.aload_n 0, 1, pI 0), (.iconst 0, 1, pI 0), (.iload_n 2, 1, pI 0), (.sipush 160, 3, pI 160), (.invokestatic 22, 3, pR 200 1), (.invokestatic 28, 3, pR 200 0), (.putfield 19, 3, pR 8 2)] 8 _ (by decide +kernel) ?_
  refine (And.intro rfl (And.intro rfl (And.intro rfl (And.intro ht (And.intro trivial ?_)))))
  refine zlet_k (P := fun (m2 : zMem) => zG w f 4 23 ([some (pR 8 t), some (pI a1), some (pI a2), none], [], (m2, n))) h (fun m2 h => ?_)
  refine zrun hF [(.iconst 0, 1, pI 0), (.istore_n 3, 1, pI 0)] 23 _ (by decide +kernel) ?_
  refine (And.intro rfl ?_)
  show zG w f 4 25 ([some (pR 8 t), some (pI a1), some (pI a2), some (pI 0)], [], (m2, n))
  refine zcut [true, false, false, true] ?_
  exact m_X4_become_L25 hl hF hR  zF _ _ _ ht h

set_option maxHeartbeats 4000000 in
set_option maxRecDepth 100000 in
theorem m_X6_row_L33 {w : zWd} {f : zFr} {n : zMem} {x : Int32} {m0 : zMem} {lc : Launch} (hl : f.2.1 = lc) (hF : zFOK w f 6 cX6_row 4 2) (hR : zFin w f (some .int) (zQI w x (m0, n))) : ∀ (m : zMem), s_X6_row_L33 m = some (x, m0) → zG w f 4 33 ([some (pR 0 0), none, none, none], [], (m, n)) := by
  intro m h
  unfold s_X6_row_L33 at h
  refine zrun hF [(.aload_n 0, 1, pI 0), (.bipush (-6), 2, pI (-6))] 33 _ (by decide +kernel) ?_
  show zG w f 4 36 ([some (pR 0 0), none, none, none], [pI (-6), pR 0 0], (m, n))
  obtain ⟨r22, m23, q21, h⟩ := zb_k h
  refine zcallVI (pc := 36) (As := [pI (-6)]) (st := []) (c := 0) (j := 0) hF (m_X6_refuse  q21) w_X6_refuse k_6_73 (by decide +kernel) rfl rfl rfl rfl rfl rfl rfl ?_
  exact zretI (pc := 39) hF hR (by decide +kernel) rfl (congrArg Prod.fst (Option.some.inj h)) (congrArg (fun (q : Int32 × zMem) => (q.2, n)) (Option.some.inj h))

set_option maxHeartbeats 4000000 in
set_option maxRecDepth 100000 in
theorem m_X6_row {w : zWd} {lc : Launch} {n : zMem} {a1 : Int32} {a2 : Int32} {a3 : Int32} {m : zMem} {x : Int32} {m0 : zMem}  (h : s_X6_row a1 a2 a3 m = some (x, m0)) : zMet w lc 2 yX6_row cX6_row 4 (some .int) [pR 0 0, pI a1, pI a2, pI a3] (m, n) (zQI w x (m0, n)) := by
  refine zmet (o := 6) (by decide +kernel) rfl (Nat.le_of_ble_eq_true rfl) rfl (fun f hl hF hR => ?_)
  unfold s_X6_row at h
  show zG w f 4 0 ([some (pR 0 0), some (pI a1), some (pI a2), some (pI a3)], [], (m, n))
  refine zrun hF [(.iload_n 1, 1, pI 0)] 0 _ (by decide +kernel) ?_
  show zG w f 4 1 ([some (pR 0 0), some (pI a1), some (pI a2), some (pI a3)], [pI a1], (m, n))
  obtain ⟨r2, q1, h⟩ := zr_k h
  refine zcallSI (pc := 1) (As := [pI a1]) (st := []) hF (m_X6_isShelf  q1) w_X6_isShelf k_6_69 (by decide +kernel) rfl rfl rfl rfl ?_
  refine zif_ne (tgt := 13) (pc := 4) hF (by decide +kernel) (fun b3 => ?_) (fun b3 => ?_)
  · replace h := zit b3 h
    refine zrun hF [(.aload_n 0, 1, pI 0), (.iconst (-1), 1, pI (-1))] 7 _ (by decide +kernel) ?_
    show zG w f 4 9 ([some (pR 0 0), some (pI a1), some (pI a2), some (pI a3)], [pI (-1), pR 0 0], (m, n))
    obtain ⟨r5, m6, q4, h⟩ := zb_k h
    refine zcallVI (pc := 9) (As := [pI (-1)]) (st := []) (c := 0) (j := 0) hF (m_X6_refuse  q4) w_X6_refuse k_6_73 (by decide +kernel) rfl rfl rfl rfl rfl rfl rfl ?_
    exact zretI (pc := 12) hF hR (by decide +kernel) rfl (congrArg Prod.fst (Option.some.inj h)) (congrArg (fun (q : Int32 × zMem) => (q.2, n)) (Option.some.inj h))
  · replace h := zif b3 h
    refine zrun hF [(.iload_n 3, 1, pI 0)] 13 _ (by decide +kernel) ?_
    show zG w f 4 14 ([some (pR 0 0), some (pI a1), some (pI a2), some (pI a3)], [pI a3], (m, n))
    refine zif_ge (tgt := 24) (pc := 14) hF (by decide +kernel) (fun b7 => ?_) (fun b7 => ?_)
    · replace h := zit b7 h
      refine zrun hF [(.iload_n 2, 1, pI 0)] 24 _ (by decide +kernel) ?_
      show zG w f 4 25 ([some (pR 0 0), some (pI a1), some (pI a2), some (pI a3)], [pI a2], (m, n))
      refine zif_lt (tgt := 33) (pc := 25) hF (by decide +kernel) (fun b8 => ?_) (fun b8 => ?_)
      · replace h := zit b8 h
        refine zcut [true, false, false, false] ?_
        exact m_X6_row_L33 hl hF hR  _  h
      · replace h := zif b8 h
        refine zrun hF [(.iload_n 2, 1, pI 0), (.iconst 3, 1, pI 3)] 28 _ (by decide +kernel) ?_
        show zG w f 4 30 ([some (pR 0 0), some (pI a1), some (pI a2), some (pI a3)], [pI 3, pI a2], (m, n))
        refine zicmp_le (tgt := 40) (pc := 30) hF (by decide +kernel) (fun b9 => ?_) (fun b9 => ?_)
        · replace h := zit b9 h
          refine zrun hF [(.iload_n 3, 1, pI 0), (.sipush 160, 3, pI 160)] 40 _ (by decide +kernel) ?_
          show zG w f 4 44 ([some (pR 0 0), some (pI a1), some (pI a2), some (pI a3)], [pI 160, pI a3], (m, n))
          refine zicmp_le (tgt := 54) (pc := 44) hF (by decide +kernel) (fun b10 => ?_) (fun b10 => ?_)
          · replace h := zit b10 h
            obtain ⟨c11, h⟩ := zchk h
            refine zrun hF [(.aload_n 0, 1, pI 0), (.getfield 28, 3, pR 0 4), (.iload_n 1, 1, pI 0), (.aaload, 1, pI 0), (.iload_n 2, 1, pI 0), (.iload_n 3, 1, pI 0)] 54 _ (by decide +kernel) ?_
            refine (And.intro rfl (And.intro rfl (And.intro rfl (And.intro c11 ?_))))
            show zG w f 4 62 ([some (pR 0 0), some (pI a1), some (pI a2), some (pI a3)], [pI a3, pI a2, pR 8 (ix a1)], (m, n))
            obtain ⟨m14, q12, h⟩ := zr_k h
            refine zcallVV (pc := 62) (As := [pI a2, pI a3]) (st := []) (c := 8) (j := (ix a1)) hF (m_X4_become (zinb_blt c11) q12) w_X4_become k_6_77 (by decide +kernel) rfl (zinb_blt c11) rfl rfl rfl rfl rfl ?_
            refine zrun hF [(.iconst 1, 1, pI 1)] 65 _ (by decide +kernel) ?_
            show zG w f 4 66 ([some (pR 0 0), some (pI a1), some (pI a2), some (pI a3)], [pI 1], (m14, n))
            exact zretI (pc := 66) hF hR (by decide +kernel) rfl (congrArg Prod.fst (Option.some.inj h)) (congrArg (fun (q : Int32 × zMem) => (q.2, n)) (Option.some.inj h))
          · replace h := zif b10 h
            refine zrun hF [(.aload_n 0, 1, pI 0), (.bipush (-7), 2, pI (-7))] 47 _ (by decide +kernel) ?_
            show zG w f 4 50 ([some (pR 0 0), some (pI a1), some (pI a2), some (pI a3)], [pI (-7), pR 0 0], (m, n))
            obtain ⟨r16, m17, q15, h⟩ := zb_k h
            refine zcallVI (pc := 50) (As := [pI (-7)]) (st := []) (c := 0) (j := 0) hF (m_X6_refuse  q15) w_X6_refuse k_6_73 (by decide +kernel) rfl rfl rfl rfl rfl rfl rfl ?_
            exact zretI (pc := 53) hF hR (by decide +kernel) rfl (congrArg Prod.fst (Option.some.inj h)) (congrArg (fun (q : Int32 × zMem) => (q.2, n)) (Option.some.inj h))
        · replace h := zif b9 h
          refine zcut [true, false, false, false] ?_
          exact m_X6_row_L33 hl hF hR  _  h
    · replace h := zif b7 h
      refine zrun hF [(.aload_n 0, 1, pI 0), (.bipush (-4), 2, pI (-4))] 17 _ (by decide +kernel) ?_
      show zG w f 4 20 ([some (pR 0 0), some (pI a1), some (pI a2), some (pI a3)], [pI (-4), pR 0 0], (m, n))
      obtain ⟨r19, m20, q18, h⟩ := zb_k h
      refine zcallVI (pc := 20) (As := [pI (-4)]) (st := []) (c := 0) (j := 0) hF (m_X6_refuse  q18) w_X6_refuse k_6_73 (by decide +kernel) rfl rfl rfl rfl rfl rfl rfl ?_
      exact zretI (pc := 23) hF hR (by decide +kernel) rfl (congrArg Prod.fst (Option.some.inj h)) (congrArg (fun (q : Int32 × zMem) => (q.2, n)) (Option.some.inj h))

set_option maxHeartbeats 4000000 in
set_option maxRecDepth 100000 in
theorem m_X7_isShelf {w : zWd} {lc : Launch} {M : zWM} {a1 : Int32} {x : Int32}  (h : s_X7_isShelf a1 = some x) : zMet w lc 1 yX7_isShelf cX7_isShelf 2 (some .boolean) [pR 64 0, pI a1] M (zQI w x M) := by
  refine zmet (o := 7) (by decide +kernel) rfl (Nat.le_of_ble_eq_true rfl) rfl (fun f hl hF hR => ?_)
  unfold s_X7_isShelf at h
  show zG w f 2 0 ([some (pR 64 0), some (pI a1)], [], M)
  refine zrun hF [(.iload_n 1, 1, pI 0)] 0 _ (by decide +kernel) ?_
  show zG w f 2 1 ([some (pR 64 0), some (pI a1)], [pI a1], M)
  refine zif_lt (tgt := 14) (pc := 1) hF (by decide +kernel) (fun b1 => ?_) (fun b1 => ?_)
  · replace h := zit b1 h
    refine zrun hF [(.iconst 0, 1, pI 0)] 14 _ (by decide +kernel) ?_
    show zG w f 2 15 ([some (pR 64 0), some (pI a1)], [pI 0], M)
    exact zretI (pc := 15) hF hR (by decide +kernel) (by decide +kernel) (Option.some.inj h) rfl
  · replace h := zif b1 h
    refine zrun hF [(.iload_n 1, 1, pI 0), (.bipush 8, 2, pI 8)] 4 _ (by decide +kernel) ?_
    show zG w f 2 7 ([some (pR 64 0), some (pI a1)], [pI 8, pI a1], M)
    refine zicmp_ge (tgt := 14) (pc := 7) hF (by decide +kernel) (fun b2 => ?_) (fun b2 => ?_)
    · replace h := zit b2 h
      refine zrun hF [(.iconst 0, 1, pI 0)] 14 _ (by decide +kernel) ?_
      show zG w f 2 15 ([some (pR 64 0), some (pI a1)], [pI 0], M)
      exact zretI (pc := 15) hF hR (by decide +kernel) (by decide +kernel) (Option.some.inj h) rfl
    · replace h := zif b2 h
      refine zrun hF [(.iconst 1, 1, pI 1)] 10 _ (by decide +kernel) ?_
      show zG w f 2 11 ([some (pR 64 0), some (pI a1)], [pI 1], M)
      refine zgoto (tgt := 15) (pc := 11) hF (by decide +kernel) ?_
      exact zretI (pc := 15) hF hR (by decide +kernel) (by decide +kernel) (Option.some.inj h) rfl

set_option maxHeartbeats 4000000 in
set_option maxRecDepth 100000 in
theorem m_X7_no {w : zWd} {lc : Launch} {n : zMem} {a1 : Int32} {m : zMem} {x : Int32} {m0 : zMem}  (h : s_X7_no a1 m = some (x, m0)) : zMet w lc 1 yX7_no cX7_no 2 (some .int) [pR 64 0, pI a1] (n, m) (zQI w x (n, m0)) := by
  refine zmet (o := 7) (by decide +kernel) rfl (Nat.le_of_ble_eq_true rfl) rfl (fun f hl hF hR => ?_)
  unfold s_X7_no at h
  show zG w f 2 0 ([some (pR 64 0), some (pI a1)], [], (n, m))
  obtain ⟨c1, h⟩ := zchk h
  refine zrun hF [(.aload_n 0, 1, pI 0), (.getfield 19, 3, pR 64 7), (.iload_n 1, 1, pI 0), (.ineg, 1, pI 0), (.dup2, 1, pI 0), (.iaload, 1, pI 0), (.iconst 1, 1, pI 1), (.iadd, 1, pI 0), (.iastore, 1, pI 0)] 0 _ (by decide +kernel) ?_
  refine (And.intro rfl (And.intro rfl (And.intro rfl (And.intro rfl (And.intro rfl (And.intro c1 (And.intro rfl (And.intro rfl (And.intro c1 ?_)))))))))
  refine zlet_k (P := fun (m2 : zMem) => zG w f 2 11 ([some (pR 64 0), some (pI a1)], [], (n, m2))) h (fun m2 h => ?_)
  refine zrun hF [(.iload_n 1, 1, pI 0)] 11 _ (by decide +kernel) ?_
  show zG w f 2 12 ([some (pR 64 0), some (pI a1)], [pI a1], (n, m2))
  exact zretI (pc := 12) hF hR (by decide +kernel) rfl (congrArg Prod.fst (Option.some.inj h)) (congrArg (fun (q : Int32 × zMem) => (n, q.2)) (Option.some.inj h))

set_option maxHeartbeats 4000000 in
set_option maxRecDepth 100000 in
theorem m_X7_row_L34 {w : zWd} {f : zFr} {n : zMem} {x : Int32} {m0 : zMem} {lc : Launch} (hl : f.2.1 = lc) (hF : zFOK w f 7 cX7_row 5 2) (hR : zFin w f (some .int) (zQI w x (n, m0))) : ∀ (m : zMem), s_X7_row_L34 m = some (x, m0) → zG w f 5 34 ([some (pR 64 0), none, none, none, none], [], (n, m)) := by
  intro m h
  unfold s_X7_row_L34 at h
  refine zrun hF [(.aload_n 0, 1, pI 0), (.bipush (-6), 2, pI (-6))] 34 _ (by decide +kernel) ?_
  show zG w f 5 37 ([some (pR 64 0), none, none, none, none], [pI (-6), pR 64 0], (n, m))
  obtain ⟨r22, m23, q21, h⟩ := zb_k h
  refine zcallVI (pc := 37) (As := [pI (-6)]) (st := []) (c := 64) (j := 0) hF (m_X7_no  q21) w_X7_no k_7_100 (by decide +kernel) rfl rfl rfl rfl rfl rfl rfl ?_
  exact zretI (pc := 40) hF hR (by decide +kernel) rfl (congrArg Prod.fst (Option.some.inj h)) (congrArg (fun (q : Int32 × zMem) => (n, q.2)) (Option.some.inj h))

set_option maxHeartbeats 4000000 in
set_option maxRecDepth 100000 in
theorem m_X7_row_L79 {w : zWd} {f : zFr} {n : zMem} {x : Int32} {m0 : zMem} {lc : Launch} (hl : f.2.1 = lc) (hF : zFOK w f 7 cX7_row 5 2) (hR : zFin w f (some .int) (zQI w x (n, m0))) : ∀ (k : Nat) (x1 : Int32) (x4 : Int32) (m : zMem), s_X7_row_L79 k x1 x4 m = some (x, m0) → zG w f 5 79 ([some (pR 64 0), some (pI x1), none, none, some (pI x4)], [], (n, m)) := by
  intro k
  induction k with
  | zero => intro x1 x4 m h; exact zno h
  | succ k ih =>
    intro x1 x4 m h
    unfold s_X7_row_L79 at h
    refine zrun hF [(.iload 4, 2, pI 0), (.sipush 160, 3, pI 160)] 79 _ (by decide +kernel) ?_
    show zG w f 5 84 ([some (pR 64 0), some (pI x1), none, none, some (pI x4)], [pI 160, pI x4], (n, m))
    refine zicmp_ge (tgt := 107) (pc := 84) hF (by decide +kernel) (fun b24 => ?_) (fun b24 => ?_)
    · replace h := zit b24 h
      refine zrun hF [(.iconst 1, 1, pI 1)] 107 _ (by decide +kernel) ?_
      show zG w f 5 108 ([some (pR 64 0), some (pI x1), none, none, some (pI x4)], [pI 1], (n, m))
      exact zretI (pc := 108) hF hR (by decide +kernel) rfl (congrArg Prod.fst (Option.some.inj h)) (congrArg (fun (q : Int32 × zMem) => (n, q.2)) (Option.some.inj h))
    · replace h := zif b24 h
      obtain ⟨c25, h⟩ := zchk h
      refine zrun hF [(.aload_n 0, 1, pI 0), (.getfield 50, 3, pR 64 17), (.sipush 160, 3, pI 160), (.iload_n 1, 1, pI 0), (.imul, 1, pI 0), (.iload 4, 2, pI 0), (.iadd, 1, pI 0), (.lconst 0, 1, pL 0), (.lastore, 1, pI 0)] 87 _ (by decide +kernel) ?_
      refine (And.intro rfl (And.intro rfl (And.intro rfl (And.intro rfl (And.intro c25 ?_)))))
      refine zlet_k (P := fun (m26 : zMem) => zG w f 5 101 ([some (pR 64 0), some (pI x1), none, none, some (pI x4)], [], (n, m26))) h (fun m26 h => ?_)
      refine zrun hF [(.iinc 4 1, 3, pI 1)] 101 _ (by decide +kernel) ?_
      refine (And.intro rfl ?_)
      show zG w f 5 104 ([some (pR 64 0), some (pI x1), none, none, some (pI (x4 + 1))], [], (n, m26))
      refine zgoto (tgt := 79) (pc := 104) hF (by decide +kernel) ?_
      exact ih _ _ _  h

set_option maxHeartbeats 4000000 in
set_option maxRecDepth 100000 in
theorem m_X7_row {w : zWd} {lc : Launch} {n : zMem} {a1 : Int32} {a2 : Int32} {a3 : Int32} {m : zMem} {x : Int32} {m0 : zMem}  (h : s_X7_row a1 a2 a3 m = some (x, m0)) : zMet w lc 2 yX7_row cX7_row 5 (some .int) [pR 64 0, pI a1, pI a2, pI a3] (n, m) (zQI w x (n, m0)) := by
  refine zmet (o := 7) (by decide +kernel) rfl (Nat.le_of_ble_eq_true rfl) rfl (fun f hl hF hR => ?_)
  unfold s_X7_row at h
  show zG w f 5 0 ([some (pR 64 0), some (pI a1), some (pI a2), some (pI a3), none], [], (n, m))
  refine zrun hF [(.aload_n 0, 1, pI 0), (.iload_n 1, 1, pI 0)] 0 _ (by decide +kernel) ?_
  show zG w f 5 2 ([some (pR 64 0), some (pI a1), some (pI a2), some (pI a3), none], [pI a1, pR 64 0], (n, m))
  obtain ⟨r2, q1, h⟩ := zr_k h
  refine zcallVI (pc := 2) (As := [pI a1]) (st := []) (c := 64) (j := 0) hF (m_X7_isShelf  q1) w_X7_isShelf k_7_96 (by decide +kernel) rfl rfl rfl rfl rfl rfl rfl ?_
  refine zif_ne (tgt := 14) (pc := 5) hF (by decide +kernel) (fun b3 => ?_) (fun b3 => ?_)
  · replace h := zit b3 h
    refine zrun hF [(.aload_n 0, 1, pI 0), (.iconst (-1), 1, pI (-1))] 8 _ (by decide +kernel) ?_
    show zG w f 5 10 ([some (pR 64 0), some (pI a1), some (pI a2), some (pI a3), none], [pI (-1), pR 64 0], (n, m))
    obtain ⟨r5, m6, q4, h⟩ := zb_k h
    refine zcallVI (pc := 10) (As := [pI (-1)]) (st := []) (c := 64) (j := 0) hF (m_X7_no  q4) w_X7_no k_7_100 (by decide +kernel) rfl rfl rfl rfl rfl rfl rfl ?_
    exact zretI (pc := 13) hF hR (by decide +kernel) rfl (congrArg Prod.fst (Option.some.inj h)) (congrArg (fun (q : Int32 × zMem) => (n, q.2)) (Option.some.inj h))
  · replace h := zif b3 h
    refine zrun hF [(.iload_n 3, 1, pI 0)] 14 _ (by decide +kernel) ?_
    show zG w f 5 15 ([some (pR 64 0), some (pI a1), some (pI a2), some (pI a3), none], [pI a3], (n, m))
    refine zif_ge (tgt := 25) (pc := 15) hF (by decide +kernel) (fun b7 => ?_) (fun b7 => ?_)
    · replace h := zit b7 h
      refine zrun hF [(.iload_n 2, 1, pI 0)] 25 _ (by decide +kernel) ?_
      show zG w f 5 26 ([some (pR 64 0), some (pI a1), some (pI a2), some (pI a3), none], [pI a2], (n, m))
      refine zif_lt (tgt := 34) (pc := 26) hF (by decide +kernel) (fun b8 => ?_) (fun b8 => ?_)
      · replace h := zit b8 h
        refine zcut [true, false, false, false, true] ?_
        exact m_X7_row_L34 hl hF hR  _  h
      · replace h := zif b8 h
        refine zrun hF [(.iload_n 2, 1, pI 0), (.iconst 3, 1, pI 3)] 29 _ (by decide +kernel) ?_
        show zG w f 5 31 ([some (pR 64 0), some (pI a1), some (pI a2), some (pI a3), none], [pI 3, pI a2], (n, m))
        refine zicmp_le (tgt := 41) (pc := 31) hF (by decide +kernel) (fun b9 => ?_) (fun b9 => ?_)
        · replace h := zit b9 h
          refine zrun hF [(.iload_n 3, 1, pI 0), (.sipush 160, 3, pI 160)] 41 _ (by decide +kernel) ?_
          show zG w f 5 45 ([some (pR 64 0), some (pI a1), some (pI a2), some (pI a3), none], [pI 160, pI a3], (n, m))
          refine zicmp_le (tgt := 55) (pc := 45) hF (by decide +kernel) (fun b10 => ?_) (fun b10 => ?_)
          · replace h := zit b10 h
            obtain ⟨c11, h⟩ := zchk h
            refine zrun hF [(.aload_n 0, 1, pI 0), (.getfield 38, 3, pR 64 13), (.iload_n 1, 1, pI 0), (.iconst 1, 1, pI 1), (.iastore, 1, pI 0)] 55 _ (by decide +kernel) ?_
            refine (And.intro rfl (And.intro rfl (And.intro rfl (And.intro rfl (And.intro c11 ?_)))))
            refine zlet_k (P := fun (m12 : zMem) => zG w f 5 62 ([some (pR 64 0), some (pI a1), some (pI a2), some (pI a3), none], [], (n, m12))) h (fun m12 h => ?_)
            refine zrun hF [(.aload_n 0, 1, pI 0), (.getfield 41, 3, pR 64 14), (.iload_n 1, 1, pI 0), (.iload_n 2, 1, pI 0), (.iastore, 1, pI 0)] 62 _ (by decide +kernel) ?_
            refine (And.intro rfl (And.intro rfl (And.intro rfl (And.intro rfl (And.intro c11 ?_)))))
            refine zlet_k (P := fun (m13 : zMem) => zG w f 5 69 ([some (pR 64 0), some (pI a1), some (pI a2), some (pI a3), none], [], (n, m13))) h (fun m13 h => ?_)
            refine zrun hF [(.aload_n 0, 1, pI 0), (.getfield 44, 3, pR 64 15), (.iload_n 1, 1, pI 0), (.iload_n 3, 1, pI 0), (.iastore, 1, pI 0)] 69 _ (by decide +kernel) ?_
            refine (And.intro rfl (And.intro rfl (And.intro rfl (And.intro rfl (And.intro c11 ?_)))))
            refine zlet_k (P := fun (m14 : zMem) => zG w f 5 76 ([some (pR 64 0), some (pI a1), some (pI a2), some (pI a3), none], [], (n, m14))) h (fun m14 h => ?_)
            refine zrun hF [(.iconst 0, 1, pI 0), (.istore 4, 2, pI 0)] 76 _ (by decide +kernel) ?_
            refine (And.intro rfl ?_)
            show zG w f 5 79 ([some (pR 64 0), some (pI a1), some (pI a2), some (pI a3), some (pI 0)], [], (n, m14))
            refine zcut [true, true, false, false, true] ?_
            exact m_X7_row_L79 hl hF hR  zF _ _ _  h
          · replace h := zif b10 h
            refine zrun hF [(.aload_n 0, 1, pI 0), (.bipush (-7), 2, pI (-7))] 48 _ (by decide +kernel) ?_
            show zG w f 5 51 ([some (pR 64 0), some (pI a1), some (pI a2), some (pI a3), none], [pI (-7), pR 64 0], (n, m))
            obtain ⟨r16, m17, q15, h⟩ := zb_k h
            refine zcallVI (pc := 51) (As := [pI (-7)]) (st := []) (c := 64) (j := 0) hF (m_X7_no  q15) w_X7_no k_7_100 (by decide +kernel) rfl rfl rfl rfl rfl rfl rfl ?_
            exact zretI (pc := 54) hF hR (by decide +kernel) rfl (congrArg Prod.fst (Option.some.inj h)) (congrArg (fun (q : Int32 × zMem) => (n, q.2)) (Option.some.inj h))
        · replace h := zif b9 h
          refine zcut [true, false, false, false, true] ?_
          exact m_X7_row_L34 hl hF hR  _  h
    · replace h := zif b7 h
      refine zrun hF [(.aload_n 0, 1, pI 0), (.bipush (-4), 2, pI (-4))] 18 _ (by decide +kernel) ?_
      show zG w f 5 21 ([some (pR 64 0), some (pI a1), some (pI a2), some (pI a3), none], [pI (-4), pR 64 0], (n, m))
      obtain ⟨r19, m20, q18, h⟩ := zb_k h
      refine zcallVI (pc := 21) (As := [pI (-4)]) (st := []) (c := 64) (j := 0) hF (m_X7_no  q18) w_X7_no k_7_100 (by decide +kernel) rfl rfl rfl rfl rfl rfl rfl ?_
      exact zretI (pc := 24) hF hR (by decide +kernel) rfl (congrArg Prod.fst (Option.some.inj h)) (congrArg (fun (q : Int32 × zMem) => (n, q.2)) (Option.some.inj h))

set_option maxHeartbeats 4000000 in
set_option maxRecDepth 100000 in
theorem m_X4_holdsGuest {w : zWd} {lc : Launch} {n : zMem} {t : Nat} {m : zMem} {x : Int32} (ht : Nat.blt t 8 = true) (h : s_X4_holdsGuest t m = some x) : zMet w lc 1 yX4_holdsGuest cX4_holdsGuest 1 (some .boolean) [pR 8 t] (m, n) (zQI w x (m, n)) := by
  refine zmet (o := 4) (by decide +kernel) rfl (Nat.le_of_ble_eq_true rfl) rfl (fun f hl hF hR => ?_)
  unfold s_X4_holdsGuest at h
  show zG w f 1 0 ([some (pR 8 t)], [], (m, n))
  refine zrun hF [(.aload_n 0, 1, pI 0), (.getfield 15, 3, pR 8 1)] 0 _ (by decide +kernel) ?_
  refine (And.intro rfl (And.intro ht ?_))
  show zG w f 1 4 ([some (pR 8 t)], [pI (m.1 8 t 1)], (m, n))
  refine zif_lt (tgt := 20) (pc := 4) hF (by decide +kernel) (fun b1 => ?_) (fun b1 => ?_)
  · replace h := zit b1 h
    refine zrun hF [(.iconst 0, 1, pI 0)] 20 _ (by decide +kernel) ?_
    show zG w f 1 21 ([some (pR 8 t)], [pI 0], (m, n))
    exact zretI (pc := 21) hF hR (by decide +kernel) (by decide +kernel) (Option.some.inj h) rfl
  · replace h := zif b1 h
    refine zrun hF [(.aload_n 0, 1, pI 0), (.getfield 15, 3, pR 8 1), (.bipush 100, 2, pI 100)] 7 _ (by decide +kernel) ?_
    refine (And.intro rfl (And.intro ht ?_))
    show zG w f 1 13 ([some (pR 8 t)], [pI 100, pI (m.1 8 t 1)], (m, n))
    refine zicmp_ge (tgt := 20) (pc := 13) hF (by decide +kernel) (fun b2 => ?_) (fun b2 => ?_)
    · replace h := zit b2 h
      refine zrun hF [(.iconst 0, 1, pI 0)] 20 _ (by decide +kernel) ?_
      show zG w f 1 21 ([some (pR 8 t)], [pI 0], (m, n))
      exact zretI (pc := 21) hF hR (by decide +kernel) (by decide +kernel) (Option.some.inj h) rfl
    · replace h := zif b2 h
      refine zrun hF [(.iconst 1, 1, pI 1)] 16 _ (by decide +kernel) ?_
      show zG w f 1 17 ([some (pR 8 t)], [pI 1], (m, n))
      refine zgoto (tgt := 21) (pc := 17) hF (by decide +kernel) ?_
      exact zretI (pc := 21) hF hR (by decide +kernel) (by decide +kernel) (Option.some.inj h) rfl

set_option maxHeartbeats 4000000 in
set_option maxRecDepth 100000 in
theorem m_X4_isEmpty {w : zWd} {lc : Launch} {n : zMem} {t : Nat} {m : zMem} {x : Int32} (ht : Nat.blt t 8 = true) (h : s_X4_isEmpty t m = some x) : zMet w lc 1 yX4_isEmpty cX4_isEmpty 1 (some .boolean) [pR 8 t] (m, n) (zQI w x (m, n)) := by
  refine zmet (o := 4) (by decide +kernel) rfl (Nat.le_of_ble_eq_true rfl) rfl (fun f hl hF hR => ?_)
  unfold s_X4_isEmpty at h
  show zG w f 1 0 ([some (pR 8 t)], [], (m, n))
  refine zrun hF [(.aload_n 0, 1, pI 0), (.getfield 15, 3, pR 8 1), (.iconst (-1), 1, pI (-1))] 0 _ (by decide +kernel) ?_
  refine (And.intro rfl (And.intro ht ?_))
  show zG w f 1 5 ([some (pR 8 t)], [pI (-1), pI (m.1 8 t 1)], (m, n))
  refine zicmp_ne (tgt := 12) (pc := 5) hF (by decide +kernel) (fun b1 => ?_) (fun b1 => ?_)
  · replace h := zit b1 h
    refine zrun hF [(.iconst 1, 1, pI 1)] 8 _ (by decide +kernel) ?_
    show zG w f 1 9 ([some (pR 8 t)], [pI 1], (m, n))
    refine zgoto (tgt := 13) (pc := 9) hF (by decide +kernel) ?_
    exact zretI (pc := 13) hF hR (by decide +kernel) (by decide +kernel) (Option.some.inj h) rfl
  · replace h := zif b1 h
    refine zrun hF [(.iconst 0, 1, pI 0)] 12 _ (by decide +kernel) ?_
    show zG w f 1 13 ([some (pR 8 t)], [pI 0], (m, n))
    exact zretI (pc := 13) hF hR (by decide +kernel) (by decide +kernel) (Option.some.inj h) rfl

set_option maxHeartbeats 4000000 in
set_option maxRecDepth 100000 in
theorem m_X6_refusalOfRow {w : zWd} {lc : Launch} {n : zMem} {a1 : Int32} {m : zMem} {x : Int32}  (h : s_X6_refusalOfRow a1 m = some x) : zMet w lc 2 yX6_refusalOfRow cX6_refusalOfRow 2 (some .int) [pR 0 0, pI a1] (m, n) (zQI w x (m, n)) := by
  refine zmet (o := 6) (by decide +kernel) rfl (Nat.le_of_ble_eq_true rfl) rfl (fun f hl hF hR => ?_)
  unfold s_X6_refusalOfRow at h
  show zG w f 2 0 ([some (pR 0 0), some (pI a1)], [], (m, n))
  refine zrun hF [(.iload_n 1, 1, pI 0)] 0 _ (by decide +kernel) ?_
  show zG w f 2 1 ([some (pR 0 0), some (pI a1)], [pI a1], (m, n))
  obtain ⟨r2, q1, h⟩ := zr_k h
  refine zcallSI (pc := 1) (As := [pI a1]) (st := []) hF (m_X6_isShelf  q1) w_X6_isShelf k_6_69 (by decide +kernel) rfl rfl rfl rfl ?_
  refine zif_ne (tgt := 9) (pc := 4) hF (by decide +kernel) (fun b3 => ?_) (fun b3 => ?_)
  · replace h := zit b3 h
    refine zrun hF [(.iconst (-1), 1, pI (-1))] 7 _ (by decide +kernel) ?_
    show zG w f 2 8 ([some (pR 0 0), some (pI a1)], [pI (-1)], (m, n))
    exact zretI (pc := 8) hF hR (by decide +kernel) rfl (Option.some.inj h) rfl
  · replace h := zif b3 h
    obtain ⟨c4, h⟩ := zchk h
    refine zrun hF [(.aload_n 0, 1, pI 0), (.getfield 28, 3, pR 0 4), (.iload_n 1, 1, pI 0), (.aaload, 1, pI 0)] 9 _ (by decide +kernel) ?_
    refine (And.intro rfl (And.intro rfl (And.intro rfl (And.intro c4 ?_))))
    show zG w f 2 15 ([some (pR 0 0), some (pI a1)], [pR 8 (ix a1)], (m, n))
    obtain ⟨r6, q5, h⟩ := zr_k h
    refine zcallVI (pc := 15) (As := []) (st := []) (c := 8) (j := (ix a1)) hF (m_X4_holdsGuest (zinb_blt c4) q5) w_X4_holdsGuest k_6_91 (by decide +kernel) rfl (zinb_blt c4) rfl rfl rfl rfl rfl ?_
    refine zif_eq (tgt := 24) (pc := 18) hF (by decide +kernel) (fun b7 => ?_) (fun b7 => ?_)
    · replace h := zit b7 h
      refine zrun hF [(.aload_n 0, 1, pI 0), (.getfield 28, 3, pR 0 4), (.iload_n 1, 1, pI 0), (.aaload, 1, pI 0)] 24 _ (by decide +kernel) ?_
      refine (And.intro rfl (And.intro rfl (And.intro rfl (And.intro c4 ?_))))
      show zG w f 2 30 ([some (pR 0 0), some (pI a1)], [pR 8 (ix a1)], (m, n))
      obtain ⟨r9, q8, h⟩ := zr_k h
      refine zcallVI (pc := 30) (As := []) (st := []) (c := 8) (j := (ix a1)) hF (m_X4_isEmpty (zinb_blt c4) q8) w_X4_isEmpty k_6_95 (by decide +kernel) rfl (zinb_blt c4) rfl rfl rfl rfl rfl ?_
      refine zif_eq (tgt := 41) (pc := 33) hF (by decide +kernel) (fun b10 => ?_) (fun b10 => ?_)
      · replace h := zit b10 h
        refine zrun hF [(.iconst 0, 1, pI 0)] 41 _ (by decide +kernel) ?_
        show zG w f 2 42 ([some (pR 0 0), some (pI a1)], [pI 0], (m, n))
        exact zretI (pc := 42) hF hR (by decide +kernel) rfl (Option.some.inj h) rfl
      · replace h := zif b10 h
        refine zrun hF [(.bipush (-3), 2, pI (-3))] 36 _ (by decide +kernel) ?_
        show zG w f 2 38 ([some (pR 0 0), some (pI a1)], [pI (-3)], (m, n))
        refine zgoto (tgt := 42) (pc := 38) hF (by decide +kernel) ?_
        exact zretI (pc := 42) hF hR (by decide +kernel) rfl (Option.some.inj h) rfl
    · replace h := zif b7 h
      refine zrun hF [(.bipush (-2), 2, pI (-2))] 21 _ (by decide +kernel) ?_
      show zG w f 2 23 ([some (pR 0 0), some (pI a1)], [pI (-2)], (m, n))
      exact zretI (pc := 23) hF hR (by decide +kernel) rfl (Option.some.inj h) rfl

set_option maxHeartbeats 4000000 in
set_option maxRecDepth 100000 in
theorem m_X4_has {w : zWd} {lc : Launch} {n : zMem} {t : Nat} {a1 : Int32} {m : zMem} {x : Int32} (ht : Nat.blt t 8 = true) (h : s_X4_has t a1 m = some x) : zMet w lc 1 yX4_has cX4_has 2 (some .boolean) [pR 8 t, pI a1] (m, n) (zQI w x (m, n)) := by
  refine zmet (o := 4) (by decide +kernel) rfl (Nat.le_of_ble_eq_true rfl) rfl (fun f hl hF hR => ?_)
  unfold s_X4_has at h
  show zG w f 2 0 ([some (pR 8 t), some (pI a1)], [], (m, n))
  refine zrun hF [(.iload_n 1, 1, pI 0)] 0 _ (by decide +kernel) ?_
  show zG w f 2 1 ([some (pR 8 t), some (pI a1)], [pI a1], (m, n))
  refine zif_lt (tgt := 16) (pc := 1) hF (by decide +kernel) (fun b1 => ?_) (fun b1 => ?_)
  · replace h := zit b1 h
    refine zrun hF [(.iconst 0, 1, pI 0)] 16 _ (by decide +kernel) ?_
    show zG w f 2 17 ([some (pR 8 t), some (pI a1)], [pI 0], (m, n))
    exact zretI (pc := 17) hF hR (by decide +kernel) (by decide +kernel) (Option.some.inj h) rfl
  · replace h := zif b1 h
    refine zrun hF [(.iload_n 1, 1, pI 0), (.aload_n 0, 1, pI 0), (.getfield 19, 3, pR 8 2)] 4 _ (by decide +kernel) ?_
    refine (And.intro rfl (And.intro ht ?_))
    show zG w f 2 9 ([some (pR 8 t), some (pI a1)], [pI (m.1 8 t 2), pI a1], (m, n))
    refine zicmp_ge (tgt := 16) (pc := 9) hF (by decide +kernel) (fun b2 => ?_) (fun b2 => ?_)
    · replace h := zit b2 h
      refine zrun hF [(.iconst 0, 1, pI 0)] 16 _ (by decide +kernel) ?_
      show zG w f 2 17 ([some (pR 8 t), some (pI a1)], [pI 0], (m, n))
      exact zretI (pc := 17) hF hR (by decide +kernel) (by decide +kernel) (Option.some.inj h) rfl
    · replace h := zif b2 h
      refine zrun hF [(.iconst 1, 1, pI 1)] 12 _ (by decide +kernel) ?_
      show zG w f 2 13 ([some (pR 8 t), some (pI a1)], [pI 1], (m, n))
      refine zgoto (tgt := 17) (pc := 13) hF (by decide +kernel) ?_
      exact zretI (pc := 17) hF hR (by decide +kernel) (by decide +kernel) (Option.some.inj h) rfl

set_option maxHeartbeats 4000000 in
set_option maxRecDepth 100000 in
theorem m_X4_kept {w : zWd} {lc : Launch} {n : zMem} {t : Nat} {a1 : Int64} {m : zMem} {x : Int64} (ht : Nat.blt t 8 = true) (h : s_X4_kept t a1 m = some x) : zMet w lc 1 yX4_kept cX4_kept 3 (some .long) [pR 8 t, pL a1] (m, n) (zQL w x (m, n)) := by
  refine zmet (o := 4) (by decide +kernel) rfl (Nat.le_of_ble_eq_true rfl) rfl (fun f hl hF hR => ?_)
  unfold s_X4_kept at h
  show zG w f 3 0 ([some (pR 8 t), some (pL a1), none], [], (m, n))
  refine zrun hF [(.aload_n 0, 1, pI 0), (.getfield 15, 3, pR 8 1), (.bipush 100, 2, pI 100), (.isub, 1, pI 0)] 0 _ (by decide +kernel) ?_
  refine (And.intro rfl (And.intro ht ?_))
  show zG w f 3 7 ([some (pR 8 t), some (pL a1), none], [pI ((m.1 8 t 1) - 100)], (m, n))
  refine zswitch (pc := 7) [(0, 32), (1, 37), (2, 42)] 46 hF (by decide +kernel) ?_
  refine And.intro (fun b1 => ?_) (fun b1 => ?_)
  · replace h := zit b1 h
    refine zrun hF [(.lload_n 1, 1, pI 0), (.l2i, 1, pI 0), (.i2b, 1, pI 0), (.i2l, 1, pI 0)] 32 _ (by decide +kernel) ?_
    show zG w f 3 36 ([some (pR 8 t), some (pL a1), none], [pL (Int32.toInt64 (jb (Int64.toInt32 a1)))], (m, n))
    exact zretL (pc := 36) hF hR (by decide +kernel) (Option.some.inj h) rfl
  · replace h := zif b1 h
    refine And.intro (fun b2 => ?_) (fun b2 => ?_)
    · replace h := zit b2 h
      refine zrun hF [(.lload_n 1, 1, pI 0), (.l2i, 1, pI 0), (.i2s, 1, pI 0), (.i2l, 1, pI 0)] 37 _ (by decide +kernel) ?_
      show zG w f 3 41 ([some (pR 8 t), some (pL a1), none], [pL (Int32.toInt64 (js (Int64.toInt32 a1)))], (m, n))
      exact zretL (pc := 41) hF hR (by decide +kernel) (Option.some.inj h) rfl
    · replace h := zif b2 h
      refine And.intro (fun b3 => ?_) (fun b3 => ?_)
      · replace h := zit b3 h
        refine zrun hF [(.lload_n 1, 1, pI 0), (.l2i, 1, pI 0), (.i2l, 1, pI 0)] 42 _ (by decide +kernel) ?_
        show zG w f 3 45 ([some (pR 8 t), some (pL a1), none], [pL (Int32.toInt64 (Int64.toInt32 a1))], (m, n))
        exact zretL (pc := 45) hF hR (by decide +kernel) (Option.some.inj h) rfl
      · replace h := zif b3 h
        refine zrun hF [(.lload_n 1, 1, pI 0)] 46 _ (by decide +kernel) ?_
        show zG w f 3 47 ([some (pR 8 t), some (pL a1), none], [pL a1], (m, n))
        exact zretL (pc := 47) hF hR (by decide +kernel) (Option.some.inj h) rfl

set_option maxHeartbeats 4000000 in
set_option maxRecDepth 100000 in
theorem m_X4_put {w : zWd} {lc : Launch} {n : zMem} {t : Nat} {a1 : Int32} {a2 : Int64} {m : zMem} {m0 : zMem} (ht : Nat.blt t 8 = true) (h : s_X4_put t a1 a2 m = some m0) : zMet w lc 2 yX4_put cX4_put 4 none [pR 8 t, pI a1, pL a2] (m, n) (zQV w (m0, n)) := by
  refine zmet (o := 4) (by decide +kernel) rfl (Nat.le_of_ble_eq_true rfl) rfl (fun f hl hF hR => ?_)
  unfold s_X4_put at h
  show zG w f 4 0 ([some (pR 8 t), some (pI a1), some (pL a2), none], [], (m, n))
  refine zrun hF [(.aload_n 0, 1, pI 0), (.iload_n 1, 1, pI 0)] 0 _ (by decide +kernel) ?_
  show zG w f 4 2 ([some (pR 8 t), some (pI a1), some (pL a2), none], [pI a1, pR 8 t], (m, n))
  obtain ⟨r2, q1, h⟩ := zr_k h
  refine zcallVI (pc := 2) (As := [pI a1]) (st := []) (c := 8) (j := t) hF (m_X4_has ht q1) w_X4_has k_4_31 (by decide +kernel) rfl ht rfl rfl rfl rfl rfl ?_
  refine zif_eq (tgt := 19) (pc := 5) hF (by decide +kernel) (fun b3 => ?_) (fun b3 => ?_)
  · replace h := zit b3 h
    exact zretV (pc := 19) hF hR (by decide +kernel) (congrArg (fun q => (q, n)) (Option.some.inj h))
  · replace h := zif b3 h
    refine zrun hF [(.aload_n 0, 1, pI 0), (.getfield 9, 3, pR 8 0), (.iload_n 1, 1, pI 0), (.aload_n 0, 1, pI 0), (.lload_n 2, 1, pI 0)] 8 _ (by decide +kernel) ?_
    refine (And.intro rfl (And.intro ht ?_))
    show zG w f 4 15 ([some (pR 8 t), some (pI a1), some (pL a2), none], [pL a2, pR 8 t, pI a1, pR 9 t], (m, n))
    obtain ⟨r5, q4, h⟩ := zr_k h
    refine zcallVL (pc := 15) (As := [pL a2]) (st := [pI a1, pR 9 t]) (c := 8) (j := t) hF (m_X4_kept ht q4) w_X4_kept k_4_35 (by decide +kernel) rfl ht rfl rfl rfl rfl rfl ?_
    obtain ⟨c6, h⟩ := zchk h
    refine zrun hF [(.lastore, 1, pI 0)] 18 _ (by decide +kernel) ?_
    refine (And.intro rfl (And.intro ht (And.intro c6 ?_)))
    refine zlet_k (P := fun (m7 : zMem) => zG w f 4 19 ([some (pR 8 t), some (pI a1), some (pL a2), none], [], (m7, n))) h (fun m7 h => ?_)
    exact zretV (pc := 19) hF hR (by decide +kernel) (congrArg (fun q => (q, n)) (Option.some.inj h))

set_option maxHeartbeats 4000000 in
set_option maxRecDepth 100000 in
theorem m_X6_set {w : zWd} {lc : Launch} {n : zMem} {a1 : Int32} {a2 : Int32} {a3 : Int64} {m : zMem} {x : Int32} {m0 : zMem}  (h : s_X6_set a1 a2 a3 m = some (x, m0)) : zMet w lc 3 yX6_set cX6_set 6 (some .int) [pR 0 0, pI a1, pI a2, pL a3] (m, n) (zQI w x (m0, n)) := by
  refine zmet (o := 6) (by decide +kernel) rfl (Nat.le_of_ble_eq_true rfl) rfl (fun f hl hF hR => ?_)
  unfold s_X6_set at h
  show zG w f 6 0 ([some (pR 0 0), some (pI a1), some (pI a2), some (pL a3), none, none], [], (m, n))
  refine zrun hF [(.aload_n 0, 1, pI 0), (.iload_n 1, 1, pI 0)] 0 _ (by decide +kernel) ?_
  show zG w f 6 2 ([some (pR 0 0), some (pI a1), some (pI a2), some (pL a3), none, none], [pI a1, pR 0 0], (m, n))
  obtain ⟨r2, q1, h⟩ := zr_k h
  refine zcallVI (pc := 2) (As := [pI a1]) (st := []) (c := 0) (j := 0) hF (m_X6_refusalOfRow  q1) w_X6_refusalOfRow k_6_81 (by decide +kernel) rfl rfl rfl rfl rfl rfl rfl ?_
  refine zrun hF [(.istore 5, 2, pI 0), (.iload 5, 2, pI 0)] 5 _ (by decide +kernel) ?_
  refine (And.intro rfl ?_)
  show zG w f 6 9 ([some (pR 0 0), some (pI a1), some (pI a2), some (pL a3), none, some (pI r2)], [pI r2], (m, n))
  refine zif_eq (tgt := 19) (pc := 9) hF (by decide +kernel) (fun b3 => ?_) (fun b3 => ?_)
  · replace h := zit b3 h
    obtain ⟨c4, h⟩ := zchk h
    refine zrun hF [(.aload_n 0, 1, pI 0), (.getfield 28, 3, pR 0 4), (.iload_n 1, 1, pI 0), (.aaload, 1, pI 0), (.iload_n 2, 1, pI 0)] 19 _ (by decide +kernel) ?_
    refine (And.intro rfl (And.intro rfl (And.intro rfl (And.intro c4 ?_))))
    show zG w f 6 26 ([some (pR 0 0), some (pI a1), some (pI a2), some (pL a3), none, some (pI r2)], [pI a2, pR 8 (ix a1)], (m, n))
    obtain ⟨r6, q5, h⟩ := zr_k h
    refine zcallVI (pc := 26) (As := [pI a2]) (st := []) (c := 8) (j := (ix a1)) hF (m_X4_has (zinb_blt c4) q5) w_X4_has k_6_84 (by decide +kernel) rfl (zinb_blt c4) rfl rfl rfl rfl rfl ?_
    refine zif_ne (tgt := 39) (pc := 29) hF (by decide +kernel) (fun b7 => ?_) (fun b7 => ?_)
    · replace h := zit b7 h
      refine zrun hF [(.aload_n 0, 1, pI 0), (.bipush (-5), 2, pI (-5))] 32 _ (by decide +kernel) ?_
      show zG w f 6 35 ([some (pR 0 0), some (pI a1), some (pI a2), some (pL a3), none, some (pI r2)], [pI (-5), pR 0 0], (m, n))
      obtain ⟨r9, m10, q8, h⟩ := zb_k h
      refine zcallVI (pc := 35) (As := [pI (-5)]) (st := []) (c := 0) (j := 0) hF (m_X6_refuse  q8) w_X6_refuse k_6_73 (by decide +kernel) rfl rfl rfl rfl rfl rfl rfl ?_
      exact zretI (pc := 38) hF hR (by decide +kernel) rfl (congrArg Prod.fst (Option.some.inj h)) (congrArg (fun (q : Int32 × zMem) => (q.2, n)) (Option.some.inj h))
    · replace h := zif b7 h
      refine zrun hF [(.aload_n 0, 1, pI 0), (.getfield 28, 3, pR 0 4), (.iload_n 1, 1, pI 0), (.aaload, 1, pI 0), (.iload_n 2, 1, pI 0), (.lload_n 3, 1, pI 0)] 39 _ (by decide +kernel) ?_
      refine (And.intro rfl (And.intro rfl (And.intro rfl (And.intro c4 ?_))))
      show zG w f 6 47 ([some (pR 0 0), some (pI a1), some (pI a2), some (pL a3), none, some (pI r2)], [pL a3, pI a2, pR 8 (ix a1)], (m, n))
      obtain ⟨m13, q11, h⟩ := zr_k h
      refine zcallVV (pc := 47) (As := [pI a2, pL a3]) (st := []) (c := 8) (j := (ix a1)) hF (m_X4_put (zinb_blt c4) q11) w_X4_put k_6_87 (by decide +kernel) rfl (zinb_blt c4) rfl rfl rfl rfl rfl ?_
      refine zrun hF [(.iconst 1, 1, pI 1)] 50 _ (by decide +kernel) ?_
      show zG w f 6 51 ([some (pR 0 0), some (pI a1), some (pI a2), some (pL a3), none, some (pI r2)], [pI 1], (m13, n))
      exact zretI (pc := 51) hF hR (by decide +kernel) rfl (congrArg Prod.fst (Option.some.inj h)) (congrArg (fun (q : Int32 × zMem) => (q.2, n)) (Option.some.inj h))
  · replace h := zif b3 h
    refine zrun hF [(.aload_n 0, 1, pI 0), (.iload 5, 2, pI 0)] 12 _ (by decide +kernel) ?_
    show zG w f 6 15 ([some (pR 0 0), some (pI a1), some (pI a2), some (pL a3), none, some (pI r2)], [pI r2, pR 0 0], (m, n))
    obtain ⟨r15, m16, q14, h⟩ := zb_k h
    refine zcallVI (pc := 15) (As := [pI r2]) (st := []) (c := 0) (j := 0) hF (m_X6_refuse  q14) w_X6_refuse k_6_73 (by decide +kernel) rfl rfl rfl rfl rfl rfl rfl ?_
    exact zretI (pc := 18) hF hR (by decide +kernel) rfl (congrArg Prod.fst (Option.some.inj h)) (congrArg (fun (q : Int32 × zMem) => (q.2, n)) (Option.some.inj h))

