set_option maxHeartbeats 4000000 in
set_option maxRecDepth 100000 in
theorem m_X6_isShelf {w : zWd} {lc : Launch} {M : zWM} {a1 : Int32} {x : Int32}  (h : s_X6_isShelf a1 = some x) : zMet w lc 1 yX6_isShelf cX6_isShelf 1 (some .boolean) [pI a1] M (zQI w x M) := by
  refine zmet (o := 6) (by decide +kernel) rfl (Nat.le_of_ble_eq_true rfl) rfl (fun f hl hF hR => ?_)
  unfold s_X6_isShelf at h
  show zG w f 1 0 ([some (pI a1)], [], M)
  refine zrun hF [(.iload_n 0, 1, pI 0)] 0 _ (by decide +kernel) ?_
  show zG w f 1 1 ([some (pI a1)], [pI a1], M)
  refine zif_lt (tgt := 14) (pc := 1) hF (by decide +kernel) (fun b1 => ?_) (fun b1 => ?_)
  · replace h := zit b1 h
    refine zrun hF [(.iconst 0, 1, pI 0)] 14 _ (by decide +kernel) ?_
    show zG w f 1 15 ([some (pI a1)], [pI 0], M)
    exact zretI (pc := 15) hF hR (by decide +kernel) (by decide +kernel) (Option.some.inj h) rfl
  · replace h := zif b1 h
    refine zrun hF [(.iload_n 0, 1, pI 0), (.bipush 8, 2, pI 8)] 4 _ (by decide +kernel) ?_
    show zG w f 1 7 ([some (pI a1)], [pI 8, pI a1], M)
    refine zicmp_ge (tgt := 14) (pc := 7) hF (by decide +kernel) (fun b2 => ?_) (fun b2 => ?_)
    · replace h := zit b2 h
      refine zrun hF [(.iconst 0, 1, pI 0)] 14 _ (by decide +kernel) ?_
      show zG w f 1 15 ([some (pI a1)], [pI 0], M)
      exact zretI (pc := 15) hF hR (by decide +kernel) (by decide +kernel) (Option.some.inj h) rfl
    · replace h := zif b2 h
      refine zrun hF [(.iconst 1, 1, pI 1)] 10 _ (by decide +kernel) ?_
      show zG w f 1 11 ([some (pI a1)], [pI 1], M)
      refine zgoto (tgt := 15) (pc := 11) hF (by decide +kernel) ?_
      exact zretI (pc := 15) hF hR (by decide +kernel) (by decide +kernel) (Option.some.inj h) rfl

set_option maxHeartbeats 4000000 in
set_option maxRecDepth 100000 in
theorem m_X6_refuse {w : zWd} {lc : Launch} {n : zMem} {a1 : Int32} {m : zMem} {x : Int32} {m0 : zMem}  (h : s_X6_refuse a1 m = some (x, m0)) : zMet w lc 1 yX6_refuse cX6_refuse 2 (some .int) [pR 0 0, pI a1] (m, n) (zQI w x (m0, n)) := by
  refine zmet (o := 6) (by decide +kernel) rfl (Nat.le_of_ble_eq_true rfl) rfl (fun f hl hF hR => ?_)
  unfold s_X6_refuse at h
  show zG w f 2 0 ([some (pR 0 0), some (pI a1)], [], (m, n))
  refine zrun hF [(.iload_n 1, 1, pI 0), (.iconst (-1), 1, pI (-1))] 0 _ (by decide +kernel) ?_
  show zG w f 2 2 ([some (pR 0 0), some (pI a1)], [pI (-1), pI a1], (m, n))
  refine zicmp_gt (tgt := 22) (pc := 2) hF (by decide +kernel) (fun b1 => ?_) (fun b1 => ?_)
  · replace h := zit b1 h
    refine zrun hF [(.iload_n 1, 1, pI 0)] 22 _ (by decide +kernel) ?_
    show zG w f 2 23 ([some (pR 0 0), some (pI a1)], [pI a1], (m, n))
    exact zretI (pc := 23) hF hR (by decide +kernel) rfl (congrArg Prod.fst (Option.some.inj h)) (congrArg (fun (q : Int32 × zMem) => (q.2, n)) (Option.some.inj h))
  · replace h := zif b1 h
    refine zrun hF [(.iload_n 1, 1, pI 0), (.bipush (-7), 2, pI (-7))] 5 _ (by decide +kernel) ?_
    show zG w f 2 8 ([some (pR 0 0), some (pI a1)], [pI (-7), pI a1], (m, n))
    refine zicmp_lt (tgt := 22) (pc := 8) hF (by decide +kernel) (fun b2 => ?_) (fun b2 => ?_)
    · replace h := zit b2 h
      refine zrun hF [(.iload_n 1, 1, pI 0)] 22 _ (by decide +kernel) ?_
      show zG w f 2 23 ([some (pR 0 0), some (pI a1)], [pI a1], (m, n))
      exact zretI (pc := 23) hF hR (by decide +kernel) rfl (congrArg Prod.fst (Option.some.inj h)) (congrArg (fun (q : Int32 × zMem) => (q.2, n)) (Option.some.inj h))
    · replace h := zif b2 h
      obtain ⟨c3, h⟩ := zchk h
      refine zrun hF [(.aload_n 0, 1, pI 0), (.getfield 60, 3, pR 0 9), (.iload_n 1, 1, pI 0), (.ineg, 1, pI 0), (.dup2, 1, pI 0), (.iaload, 1, pI 0), (.iconst 1, 1, pI 1), (.iadd, 1, pI 0), (.iastore, 1, pI 0)] 11 _ (by decide +kernel) ?_
      refine (And.intro rfl (And.intro rfl (And.intro rfl (And.intro rfl (And.intro rfl (And.intro c3 (And.intro rfl (And.intro rfl (And.intro c3 ?_)))))))))
      refine zlet_k (P := fun (m4 : zMem) => zG w f 2 22 ([some (pR 0 0), some (pI a1)], [], (m4, n))) h (fun m4 h => ?_)
      refine zrun hF [(.iload_n 1, 1, pI 0)] 22 _ (by decide +kernel) ?_
      show zG w f 2 23 ([some (pR 0 0), some (pI a1)], [pI a1], (m4, n))
      exact zretI (pc := 23) hF hR (by decide +kernel) rfl (congrArg Prod.fst (Option.some.inj h)) (congrArg (fun (q : Int32 × zMem) => (q.2, n)) (Option.some.inj h))

set_option maxHeartbeats 4000000 in
set_option maxRecDepth 100000 in
theorem m_X4_become_L25 {w : zWd} {f : zFr} {n : zMem} {m0 : zMem} {lc : Launch} (hl : f.2.1 = lc) (hF : zFOK w f 4 cX4_become 4 1) (hR : zFin w f none (zQV w (m0, n))) : ∀ (k : Nat) (x0 : Nat) (x3 : Int32) (m : zMem), Nat.blt x0 8 = true → s_X4_become_L25 k x0 x3 m = some m0 → zG w f 4 25 ([some (pR 8 x0), none, none, some (pI x3)], [], (m, n)) := by
  intro k
  induction k with
  | zero => intro x0 x3 m hx0 h; exact zno h
  | succ k ih =>
    intro x0 x3 m hx0 h
    unfold s_X4_become_L25 at h
    refine zrun hF [(.iload_n 3, 1, pI 0), (.aload_n 0, 1, pI 0), (.getfield 19, 3, pR 8 2)] 25 _ (by decide +kernel) ?_
    refine (And.intro rfl (And.intro hx0 ?_))
    show zG w f 4 30 ([some (pR 8 x0), none, none, some (pI x3)], [pI (m.1 8 x0 2), pI x3], (m, n))
    refine zicmp_ge (tgt := 46) (pc := 30) hF (by decide +kernel) (fun b3 => ?_) (fun b3 => ?_)
    · replace h := zit b3 h
      exact zretV (pc := 46) hF hR (by decide +kernel) (congrArg (fun q => (q, n)) (Option.some.inj h))
    · replace h := zif b3 h
      obtain ⟨c4, h⟩ := zchk h
      refine zrun hF [(.aload_n 0, 1, pI 0), (.getfield 9, 3, pR 8 0), (.iload_n 3, 1, pI 0), (.lconst 0, 1, pL 0), (.lastore, 1, pI 0)] 33 _ (by decide +kernel) ?_
      refine (And.intro rfl (And.intro hx0 (And.intro rfl (And.intro hx0 (And.intro c4 ?_)))))
      refine zlet_k (P := fun (m5 : zMem) => zG w f 4 40 ([some (pR 8 x0), none, none, some (pI x3)], [], (m5, n))) h (fun m5 h => ?_)
      refine zrun hF [(.iinc 3 1, 3, pI 1)] 40 _ (by decide +kernel) ?_
      refine (And.intro rfl ?_)
      show zG w f 4 43 ([some (pR 8 x0), none, none, some (pI (x3 + 1))], [], (m5, n))
      refine zgoto (tgt := 25) (pc := 43) hF (by decide +kernel) ?_
      exact ih _ _ _ hx0 h

set_option maxHeartbeats 4000000 in
set_option maxRecDepth 100000 in
theorem m_X4_become {w : zWd} {lc : Launch} {n : zMem} {t : Nat} {a1 : Int32} {a2 : Int32} {m : zMem} {m0 : zMem} (ht : Nat.blt t 8 = true) (h : s_X4_become t a1 a2 m = some m0) : zMet w lc 1 yX4_become cX4_become 4 none [pR 8 t, pI a1, pI a2] (m, n) (zQV w (m0, n)) := by
  refine zmet (o := 4) (by decide +kernel) rfl (Nat.le_of_ble_eq_true rfl) rfl (fun f hl hF hR => ?_)
  unfold s_X4_become at h
  show zG w f 4 0 ([some (pR 8 t), some (pI a1), some (pI a2), none], [], (m, n))
  refine zrun hF [(.aload_n 0, 1, pI 0), (.bipush 100, 2, pI 100), (.iload_n 1, 1, pI 0), (.iadd, 1, pI 0), (.putfield 15, 3, pR 8 1)] 0 _ (by decide +kernel) ?_
  refine (And.intro rfl (And.intro ht (And.intro trivial ?_)))
  refine zlet_k (P := fun (m1 : zMem) => zG w f 4 8 ([some (pR 8 t), some (pI a1), some (pI a2), none], [], (m1, n))) h (fun m1 h => ?_)
  refine zrun hF [(.aload_n 0, 1, pI 0), (.iconst 0, 1, pI 0), (.iload_n 2, 1, pI 0), (.sipush 160, 3, pI 160), (.invokestatic 22, 3, pR 200 1), (.invokestatic 28, 3, pR 200 0), (.putfield 19, 3, pR 8 2)] 8 _ (by decide +kernel) ?_
  refine (And.intro rfl (And.intro rfl (And.intro rfl (And.intro ht (And.intro trivial ?_)))))
  refine zlet_k (P := fun (m2 : zMem) => zG w f 4 23 ([some (pR 8 t), some (pI a1), some (pI a2), none], [], (m2, n))) h (fun m2 h => ?_)
  refine zrun hF [(.iconst 0, 1, pI 0), (.istore_n 3, 1, pI 0)] 23 _ (by decide +kernel) ?_
  refine (And.intro rfl ?_)
  show zG w f 4 25 ([some (pR 8 t), some (pI a1), some (pI a2), some (pI 0)], [], (m2, n))
  refine zcut [true, false, false, true] ?_
  exact m_X4_become_L25 hl hF hR  zF _ _ _ ht h

set_option maxHeartbeats 4000000 in
set_option maxRecDepth 100000 in
theorem m_X6_row_L33 {w : zWd} {f : zFr} {n : zMem} {x : Int32} {m0 : zMem} {lc : Launch} (hl : f.2.1 = lc) (hF : zFOK w f 6 cX6_row 4 2) (hR : zFin w f (some .int) (zQI w x (m0, n))) : ∀ (m : zMem), s_X6_row_L33 m = some (x, m0) → zG w f 4 33 ([some (pR 0 0), none, none, none], [], (m, n)) := by
  intro m h
  unfold s_X6_row_L33 at h
  refine zrun hF [(.aload_n 0, 1, pI 0), (.bipush (-6), 2, pI (-6))] 33 _ (by decide +kernel) ?_
  show zG w f 4 36 ([some (pR 0 0), none, none, none], [pI (-6), pR 0 0], (m, n))
  obtain ⟨r22, m23, q21, h⟩ := zb_k h
  refine zcallVI (pc := 36) (As := [pI (-6)]) (st := []) (c := 0) (j := 0) hF (m_X6_refuse  q21) w_X6_refuse k_6_73 (by decide +kernel) rfl rfl rfl rfl rfl rfl rfl ?_
  exact zretI (pc := 39) hF hR (by decide +kernel) rfl (congrArg Prod.fst (Option.some.inj h)) (congrArg (fun (q : Int32 × zMem) => (q.2, n)) (Option.some.inj h))

set_option maxHeartbeats 4000000 in
set_option maxRecDepth 100000 in
theorem m_X6_row {w : zWd} {lc : Launch} {n : zMem} {a1 : Int32} {a2 : Int32} {a3 : Int32} {m : zMem} {x : Int32} {m0 : zMem}  (h : s_X6_row a1 a2 a3 m = some (x, m0)) : zMet w lc 2 yX6_row cX6_row 4 (some .int) [pR 0 0, pI a1, pI a2, pI a3] (m, n) (zQI w x (m0, n)) := by
  refine zmet (o := 6) (by decide +kernel) rfl (Nat.le_of_ble_eq_true rfl) rfl (fun f hl hF hR => ?_)
  unfold s_X6_row at h
  show zG w f 4 0 ([some (pR 0 0), some (pI a1), some (pI a2), some (pI a3)], [], (m, n))
  refine zrun hF [(.iload_n 1, 1, pI 0)] 0 _ (by decide +kernel) ?_
  show zG w f 4 1 ([some (pR 0 0), some (pI a1), some (pI a2), some (pI a3)], [pI a1], (m, n))
  obtain ⟨r2, q1, h⟩ := zr_k h
  refine zcallSI (pc := 1) (As := [pI a1]) (st := []) hF (m_X6_isShelf  q1) w_X6_isShelf k_6_69 (by decide +kernel) rfl rfl rfl rfl ?_
  refine zif_ne (tgt := 13) (pc := 4) hF (by decide +kernel) (fun b3 => ?_) (fun b3 => ?_)
  · replace h := zit b3 h
    refine zrun hF [(.aload_n 0, 1, pI 0), (.iconst (-1), 1, pI (-1))] 7 _ (by decide +kernel) ?_
    show zG w f 4 9 ([some (pR 0 0), some (pI a1), some (pI a2), some (pI a3)], [pI (-1), pR 0 0], (m, n))
    obtain ⟨r5, m6, q4, h⟩ := zb_k h
    refine zcallVI (pc := 9) (As := [pI (-1)]) (st := []) (c := 0) (j := 0) hF (m_X6_refuse  q4) w_X6_refuse k_6_73 (by decide +kernel) rfl rfl rfl rfl rfl rfl rfl ?_
    exact zretI (pc := 12) hF hR (by decide +kernel) rfl (congrArg Prod.fst (Option.some.inj h)) (congrArg (fun (q : Int32 × zMem) => (q.2, n)) (Option.some.inj h))
  · replace h := zif b3 h
    refine zrun hF [(.iload_n 3, 1, pI 0)] 13 _ (by decide +kernel) ?_
    show zG w f 4 14 ([some (pR 0 0), some (pI a1), some (pI a2), some (pI a3)], [pI a3], (m, n))
    refine zif_ge (tgt := 24) (pc := 14) hF (by decide +kernel) (fun b7 => ?_) (fun b7 => ?_)
    · replace h := zit b7 h
      refine zrun hF [(.iload_n 2, 1, pI 0)] 24 _ (by decide +kernel) ?_
      show zG w f 4 25 ([some (pR 0 0), some (pI a1), some (pI a2), some (pI a3)], [pI a2], (m, n))
      refine zif_lt (tgt := 33) (pc := 25) hF (by decide +kernel) (fun b8 => ?_) (fun b8 => ?_)
      · replace h := zit b8 h
        refine zcut [true, false, false, false] ?_
        exact m_X6_row_L33 hl hF hR  _  h
      · replace h := zif b8 h
        refine zrun hF [(.iload_n 2, 1, pI 0), (.iconst 3, 1, pI 3)] 28 _ (by decide +kernel) ?_
        show zG w f 4 30 ([some (pR 0 0), some (pI a1), some (pI a2), some (pI a3)], [pI 3, pI a2], (m, n))
        refine zicmp_le (tgt := 40) (pc := 30) hF (by decide +kernel) (fun b9 => ?_) (fun b9 => ?_)
        · replace h := zit b9 h
          refine zrun hF [(.iload_n 3, 1, pI 0), (.sipush 160, 3, pI 160)] 40 _ (by decide +kernel) ?_
          show zG w f 4 44 ([some (pR 0 0), some (pI a1), some (pI a2), some (pI a3)], [pI 160, pI a3], (m, n))
          refine zicmp_le (tgt := 54) (pc := 44) hF (by decide +kernel) (fun b10 => ?_) (fun b10 => ?_)
          · replace h := zit b10 h
            obtain ⟨c11, h⟩ := zchk h
            refine zrun hF [(.aload_n 0, 1, pI 0), (.getfield 28, 3, pR 0 4), (.iload_n 1, 1, pI 0), (.aaload, 1, pI 0), (.iload_n 2, 1, pI 0), (.iload_n 3, 1, pI 0)] 54 _ (by decide +kernel) ?_
            refine (And.intro rfl (And.intro rfl (And.intro rfl (And.intro c11 ?_))))
            show zG w f 4 62 ([some (pR 0 0), some (pI a1), some (pI a2), some (pI a3)], [pI a3, pI a2, pR 8 (ix a1)], (m, n))
            obtain ⟨m14, q12, h⟩ := zr_k h
            refine zcallVV (pc := 62) (As := [pI a2, pI a3]) (st := []) (c := 8) (j := (ix a1)) hF (m_X4_become (zinb_blt c11) q12) w_X4_become k_6_77 (by decide +kernel) rfl (zinb_blt c11) rfl rfl rfl rfl rfl ?_
            refine zrun hF [(.iconst 1, 1, pI 1)] 65 _ (by decide +kernel) ?_
            show zG w f 4 66 ([some (pR 0 0), some (pI a1), some (pI a2), some (pI a3)], [pI 1], (m14, n))
            exact zretI (pc := 66) hF hR (by decide +kernel) rfl (congrArg Prod.fst (Option.some.inj h)) (congrArg (fun (q : Int32 × zMem) => (q.2, n)) (Option.some.inj h))
          · replace h := zif b10 h
            refine zrun hF [(.aload_n 0, 1, pI 0), (.bipush (-7), 2, pI (-7))] 47 _ (by decide +kernel) ?_
            show zG w f 4 50 ([some (pR 0 0), some (pI a1), some (pI a2), some (pI a3)], [pI (-7), pR 0 0], (m, n))
            obtain ⟨r16, m17, q15, h⟩ := zb_k h
            refine zcallVI (pc := 50) (As := [pI (-7)]) (st := []) (c := 0) (j := 0) hF (m_X6_refuse  q15) w_X6_refuse k_6_73 (by decide +kernel) rfl rfl rfl rfl rfl rfl rfl ?_
            exact zretI (pc := 53) hF hR (by decide +kernel) rfl (congrArg Prod.fst (Option.some.inj h)) (congrArg (fun (q : Int32 × zMem) => (q.2, n)) (Option.some.inj h))
        · replace h := zif b9 h
          refine zcut [true, false, false, false] ?_
          exact m_X6_row_L33 hl hF hR  _  h
    · replace h := zif b7 h
      refine zrun hF [(.aload_n 0, 1, pI 0), (.bipush (-4), 2, pI (-4))] 17 _ (by decide +kernel) ?_
      show zG w f 4 20 ([some (pR 0 0), some (pI a1), some (pI a2), some (pI a3)], [pI (-4), pR 0 0], (m, n))
      obtain ⟨r19, m20, q18, h⟩ := zb_k h
      refine zcallVI (pc := 20) (As := [pI (-4)]) (st := []) (c := 0) (j := 0) hF (m_X6_refuse  q18) w_X6_refuse k_6_73 (by decide +kernel) rfl rfl rfl rfl rfl rfl rfl ?_
      exact zretI (pc := 23) hF hR (by decide +kernel) rfl (congrArg Prod.fst (Option.some.inj h)) (congrArg (fun (q : Int32 × zMem) => (q.2, n)) (Option.some.inj h))

