set_option maxHeartbeats 4000000 in
set_option maxRecDepth 100000 in
theorem m_X4_holdsGuest {w : zWd} {lc : Launch} {n : zMem} {t : Nat} {m : zMem} {x : Int32} (ht : Nat.blt t 8 = true) (h : s_X4_holdsGuest t m = some x) : zMet w lc 1 yX4_holdsGuest cX4_holdsGuest 1 (some .boolean) [pR 8 t] (m, n) (zQI w x (m, n)) := by
  refine zmet (o := 4) (by decide +kernel) rfl (Nat.le_of_ble_eq_true rfl) rfl (fun f hl hF hR => ?_)
  unfold s_X4_holdsGuest at h
  show zG w f 1 0 ([some (pR 8 t)], [], (m, n))
  refine zrun hF [(.aload_n 0, 1, pI 0), (.getfield 15, 3, pR 8 1)] 0 _ (by decide +kernel) ?_
  refine (And.intro rfl (And.intro ht ?_))
  show zG w f 1 4 ([some (pR 8 t)], [pI (m.1 8 t 1)], (m, n))
  refine zif_lt (tgt := 20) (pc := 4) hF (by decide +kernel) (fun b1 => ?_) (fun b1 => ?_)
  · replace h := zit b1 h
    refine zrun hF [(.iconst 0, 1, pI 0)] 20 _ (by decide +kernel) ?_
    show zG w f 1 21 ([some (pR 8 t)], [pI 0], (m, n))
    exact zretI (pc := 21) hF hR (by decide +kernel) (by decide +kernel) (Option.some.inj h) rfl
  · replace h := zif b1 h
    refine zrun hF [(.aload_n 0, 1, pI 0), (.getfield 15, 3, pR 8 1), (.bipush 100, 2, pI 100)] 7 _ (by decide +kernel) ?_
    refine (And.intro rfl (And.intro ht ?_))
    show zG w f 1 13 ([some (pR 8 t)], [pI 100, pI (m.1 8 t 1)], (m, n))
    refine zicmp_ge (tgt := 20) (pc := 13) hF (by decide +kernel) (fun b2 => ?_) (fun b2 => ?_)
    · replace h := zit b2 h
      refine zrun hF [(.iconst 0, 1, pI 0)] 20 _ (by decide +kernel) ?_
      show zG w f 1 21 ([some (pR 8 t)], [pI 0], (m, n))
      exact zretI (pc := 21) hF hR (by decide +kernel) (by decide +kernel) (Option.some.inj h) rfl
    · replace h := zif b2 h
      refine zrun hF [(.iconst 1, 1, pI 1)] 16 _ (by decide +kernel) ?_
      show zG w f 1 17 ([some (pR 8 t)], [pI 1], (m, n))
      refine zgoto (tgt := 21) (pc := 17) hF (by decide +kernel) ?_
      exact zretI (pc := 21) hF hR (by decide +kernel) (by decide +kernel) (Option.some.inj h) rfl

set_option maxHeartbeats 4000000 in
set_option maxRecDepth 100000 in
theorem m_X4_isEmpty {w : zWd} {lc : Launch} {n : zMem} {t : Nat} {m : zMem} {x : Int32} (ht : Nat.blt t 8 = true) (h : s_X4_isEmpty t m = some x) : zMet w lc 1 yX4_isEmpty cX4_isEmpty 1 (some .boolean) [pR 8 t] (m, n) (zQI w x (m, n)) := by
  refine zmet (o := 4) (by decide +kernel) rfl (Nat.le_of_ble_eq_true rfl) rfl (fun f hl hF hR => ?_)
  unfold s_X4_isEmpty at h
  show zG w f 1 0 ([some (pR 8 t)], [], (m, n))
  refine zrun hF [(.aload_n 0, 1, pI 0), (.getfield 15, 3, pR 8 1), (.iconst (-1), 1, pI (-1))] 0 _ (by decide +kernel) ?_
  refine (And.intro rfl (And.intro ht ?_))
  show zG w f 1 5 ([some (pR 8 t)], [pI (-1), pI (m.1 8 t 1)], (m, n))
  refine zicmp_ne (tgt := 12) (pc := 5) hF (by decide +kernel) (fun b1 => ?_) (fun b1 => ?_)
  · replace h := zit b1 h
    refine zrun hF [(.iconst 1, 1, pI 1)] 8 _ (by decide +kernel) ?_
    show zG w f 1 9 ([some (pR 8 t)], [pI 1], (m, n))
    refine zgoto (tgt := 13) (pc := 9) hF (by decide +kernel) ?_
    exact zretI (pc := 13) hF hR (by decide +kernel) (by decide +kernel) (Option.some.inj h) rfl
  · replace h := zif b1 h
    refine zrun hF [(.iconst 0, 1, pI 0)] 12 _ (by decide +kernel) ?_
    show zG w f 1 13 ([some (pR 8 t)], [pI 0], (m, n))
    exact zretI (pc := 13) hF hR (by decide +kernel) (by decide +kernel) (Option.some.inj h) rfl

set_option maxHeartbeats 4000000 in
set_option maxRecDepth 100000 in
theorem m_X6_refusalOfRow {w : zWd} {lc : Launch} {n : zMem} {a1 : Int32} {m : zMem} {x : Int32}  (h : s_X6_refusalOfRow a1 m = some x) : zMet w lc 2 yX6_refusalOfRow cX6_refusalOfRow 2 (some .int) [pR 0 0, pI a1] (m, n) (zQI w x (m, n)) := by
  refine zmet (o := 6) (by decide +kernel) rfl (Nat.le_of_ble_eq_true rfl) rfl (fun f hl hF hR => ?_)
  unfold s_X6_refusalOfRow at h
  show zG w f 2 0 ([some (pR 0 0), some (pI a1)], [], (m, n))
  refine zrun hF [(.iload_n 1, 1, pI 0)] 0 _ (by decide +kernel) ?_
  show zG w f 2 1 ([some (pR 0 0), some (pI a1)], [pI a1], (m, n))
  obtain ⟨r2, q1, h⟩ := zr_k h
  refine zcallSI (pc := 1) (As := [pI a1]) (st := []) hF (m_X6_isShelf  q1) w_X6_isShelf k_6_69 (by decide +kernel) rfl rfl rfl rfl ?_
  refine zif_ne (tgt := 9) (pc := 4) hF (by decide +kernel) (fun b3 => ?_) (fun b3 => ?_)
  · replace h := zit b3 h
    refine zrun hF [(.iconst (-1), 1, pI (-1))] 7 _ (by decide +kernel) ?_
    show zG w f 2 8 ([some (pR 0 0), some (pI a1)], [pI (-1)], (m, n))
    exact zretI (pc := 8) hF hR (by decide +kernel) rfl (Option.some.inj h) rfl
  · replace h := zif b3 h
    obtain ⟨c4, h⟩ := zchk h
    refine zrun hF [(.aload_n 0, 1, pI 0), (.getfield 28, 3, pR 0 4), (.iload_n 1, 1, pI 0), (.aaload, 1, pI 0)] 9 _ (by decide +kernel) ?_
    refine (And.intro rfl (And.intro rfl (And.intro rfl (And.intro c4 ?_))))
    show zG w f 2 15 ([some (pR 0 0), some (pI a1)], [pR 8 (ix a1)], (m, n))
    obtain ⟨r6, q5, h⟩ := zr_k h
    refine zcallVI (pc := 15) (As := []) (st := []) (c := 8) (j := (ix a1)) hF (m_X4_holdsGuest (zinb_blt c4) q5) w_X4_holdsGuest k_6_91 (by decide +kernel) rfl (zinb_blt c4) rfl rfl rfl rfl rfl ?_
    refine zif_eq (tgt := 24) (pc := 18) hF (by decide +kernel) (fun b7 => ?_) (fun b7 => ?_)
    · replace h := zit b7 h
      refine zrun hF [(.aload_n 0, 1, pI 0), (.getfield 28, 3, pR 0 4), (.iload_n 1, 1, pI 0), (.aaload, 1, pI 0)] 24 _ (by decide +kernel) ?_
      refine (And.intro rfl (And.intro rfl (And.intro rfl (And.intro c4 ?_))))
      show zG w f 2 30 ([some (pR 0 0), some (pI a1)], [pR 8 (ix a1)], (m, n))
      obtain ⟨r9, q8, h⟩ := zr_k h
      refine zcallVI (pc := 30) (As := []) (st := []) (c := 8) (j := (ix a1)) hF (m_X4_isEmpty (zinb_blt c4) q8) w_X4_isEmpty k_6_95 (by decide +kernel) rfl (zinb_blt c4) rfl rfl rfl rfl rfl ?_
      refine zif_eq (tgt := 41) (pc := 33) hF (by decide +kernel) (fun b10 => ?_) (fun b10 => ?_)
      · replace h := zit b10 h
        refine zrun hF [(.iconst 0, 1, pI 0)] 41 _ (by decide +kernel) ?_
        show zG w f 2 42 ([some (pR 0 0), some (pI a1)], [pI 0], (m, n))
        exact zretI (pc := 42) hF hR (by decide +kernel) rfl (Option.some.inj h) rfl
      · replace h := zif b10 h
        refine zrun hF [(.bipush (-3), 2, pI (-3))] 36 _ (by decide +kernel) ?_
        show zG w f 2 38 ([some (pR 0 0), some (pI a1)], [pI (-3)], (m, n))
        refine zgoto (tgt := 42) (pc := 38) hF (by decide +kernel) ?_
        exact zretI (pc := 42) hF hR (by decide +kernel) rfl (Option.some.inj h) rfl
    · replace h := zif b7 h
      refine zrun hF [(.bipush (-2), 2, pI (-2))] 21 _ (by decide +kernel) ?_
      show zG w f 2 23 ([some (pR 0 0), some (pI a1)], [pI (-2)], (m, n))
      exact zretI (pc := 23) hF hR (by decide +kernel) rfl (Option.some.inj h) rfl

set_option maxHeartbeats 4000000 in
set_option maxRecDepth 100000 in
theorem m_X4_has {w : zWd} {lc : Launch} {n : zMem} {t : Nat} {a1 : Int32} {m : zMem} {x : Int32} (ht : Nat.blt t 8 = true) (h : s_X4_has t a1 m = some x) : zMet w lc 1 yX4_has cX4_has 2 (some .boolean) [pR 8 t, pI a1] (m, n) (zQI w x (m, n)) := by
  refine zmet (o := 4) (by decide +kernel) rfl (Nat.le_of_ble_eq_true rfl) rfl (fun f hl hF hR => ?_)
  unfold s_X4_has at h
  show zG w f 2 0 ([some (pR 8 t), some (pI a1)], [], (m, n))
  refine zrun hF [(.iload_n 1, 1, pI 0)] 0 _ (by decide +kernel) ?_
  show zG w f 2 1 ([some (pR 8 t), some (pI a1)], [pI a1], (m, n))
  refine zif_lt (tgt := 16) (pc := 1) hF (by decide +kernel) (fun b1 => ?_) (fun b1 => ?_)
  · replace h := zit b1 h
    refine zrun hF [(.iconst 0, 1, pI 0)] 16 _ (by decide +kernel) ?_
    show zG w f 2 17 ([some (pR 8 t), some (pI a1)], [pI 0], (m, n))
    exact zretI (pc := 17) hF hR (by decide +kernel) (by decide +kernel) (Option.some.inj h) rfl
  · replace h := zif b1 h
    refine zrun hF [(.iload_n 1, 1, pI 0), (.aload_n 0, 1, pI 0), (.getfield 19, 3, pR 8 2)] 4 _ (by decide +kernel) ?_
    refine (And.intro rfl (And.intro ht ?_))
    show zG w f 2 9 ([some (pR 8 t), some (pI a1)], [pI (m.1 8 t 2), pI a1], (m, n))
    refine zicmp_ge (tgt := 16) (pc := 9) hF (by decide +kernel) (fun b2 => ?_) (fun b2 => ?_)
    · replace h := zit b2 h
      refine zrun hF [(.iconst 0, 1, pI 0)] 16 _ (by decide +kernel) ?_
      show zG w f 2 17 ([some (pR 8 t), some (pI a1)], [pI 0], (m, n))
      exact zretI (pc := 17) hF hR (by decide +kernel) (by decide +kernel) (Option.some.inj h) rfl
    · replace h := zif b2 h
      refine zrun hF [(.iconst 1, 1, pI 1)] 12 _ (by decide +kernel) ?_
      show zG w f 2 13 ([some (pR 8 t), some (pI a1)], [pI 1], (m, n))
      refine zgoto (tgt := 17) (pc := 13) hF (by decide +kernel) ?_
      exact zretI (pc := 17) hF hR (by decide +kernel) (by decide +kernel) (Option.some.inj h) rfl

set_option maxHeartbeats 4000000 in
set_option maxRecDepth 100000 in
theorem m_X4_kept {w : zWd} {lc : Launch} {n : zMem} {t : Nat} {a1 : Int64} {m : zMem} {x : Int64} (ht : Nat.blt t 8 = true) (h : s_X4_kept t a1 m = some x) : zMet w lc 1 yX4_kept cX4_kept 3 (some .long) [pR 8 t, pL a1] (m, n) (zQL w x (m, n)) := by
  refine zmet (o := 4) (by decide +kernel) rfl (Nat.le_of_ble_eq_true rfl) rfl (fun f hl hF hR => ?_)
  unfold s_X4_kept at h
  show zG w f 3 0 ([some (pR 8 t), some (pL a1), none], [], (m, n))
  refine zrun hF [(.aload_n 0, 1, pI 0), (.getfield 15, 3, pR 8 1), (.bipush 100, 2, pI 100), (.isub, 1, pI 0)] 0 _ (by decide +kernel) ?_
  refine (And.intro rfl (And.intro ht ?_))
  show zG w f 3 7 ([some (pR 8 t), some (pL a1), none], [pI ((m.1 8 t 1) - 100)], (m, n))
  refine zswitch (pc := 7) [(0, 32), (1, 37), (2, 42)] 46 hF (by decide +kernel) ?_
  refine And.intro (fun b1 => ?_) (fun b1 => ?_)
  · replace h := zit b1 h
    refine zrun hF [(.lload_n 1, 1, pI 0), (.l2i, 1, pI 0), (.i2b, 1, pI 0), (.i2l, 1, pI 0)] 32 _ (by decide +kernel) ?_
    show zG w f 3 36 ([some (pR 8 t), some (pL a1), none], [pL (Int32.toInt64 (jb (Int64.toInt32 a1)))], (m, n))
    exact zretL (pc := 36) hF hR (by decide +kernel) (Option.some.inj h) rfl
  · replace h := zif b1 h
    refine And.intro (fun b2 => ?_) (fun b2 => ?_)
    · replace h := zit b2 h
      refine zrun hF [(.lload_n 1, 1, pI 0), (.l2i, 1, pI 0), (.i2s, 1, pI 0), (.i2l, 1, pI 0)] 37 _ (by decide +kernel) ?_
      show zG w f 3 41 ([some (pR 8 t), some (pL a1), none], [pL (Int32.toInt64 (js (Int64.toInt32 a1)))], (m, n))
      exact zretL (pc := 41) hF hR (by decide +kernel) (Option.some.inj h) rfl
    · replace h := zif b2 h
      refine And.intro (fun b3 => ?_) (fun b3 => ?_)
      · replace h := zit b3 h
        refine zrun hF [(.lload_n 1, 1, pI 0), (.l2i, 1, pI 0), (.i2l, 1, pI 0)] 42 _ (by decide +kernel) ?_
        show zG w f 3 45 ([some (pR 8 t), some (pL a1), none], [pL (Int32.toInt64 (Int64.toInt32 a1))], (m, n))
        exact zretL (pc := 45) hF hR (by decide +kernel) (Option.some.inj h) rfl
      · replace h := zif b3 h
        refine zrun hF [(.lload_n 1, 1, pI 0)] 46 _ (by decide +kernel) ?_
        show zG w f 3 47 ([some (pR 8 t), some (pL a1), none], [pL a1], (m, n))
        exact zretL (pc := 47) hF hR (by decide +kernel) (Option.some.inj h) rfl

set_option maxHeartbeats 4000000 in
set_option maxRecDepth 100000 in
theorem m_X4_put {w : zWd} {lc : Launch} {n : zMem} {t : Nat} {a1 : Int32} {a2 : Int64} {m : zMem} {m0 : zMem} (ht : Nat.blt t 8 = true) (h : s_X4_put t a1 a2 m = some m0) : zMet w lc 2 yX4_put cX4_put 4 none [pR 8 t, pI a1, pL a2] (m, n) (zQV w (m0, n)) := by
  refine zmet (o := 4) (by decide +kernel) rfl (Nat.le_of_ble_eq_true rfl) rfl (fun f hl hF hR => ?_)
  unfold s_X4_put at h
  show zG w f 4 0 ([some (pR 8 t), some (pI a1), some (pL a2), none], [], (m, n))
  refine zrun hF [(.aload_n 0, 1, pI 0), (.iload_n 1, 1, pI 0)] 0 _ (by decide +kernel) ?_
  show zG w f 4 2 ([some (pR 8 t), some (pI a1), some (pL a2), none], [pI a1, pR 8 t], (m, n))
  obtain ⟨r2, q1, h⟩ := zr_k h
  refine zcallVI (pc := 2) (As := [pI a1]) (st := []) (c := 8) (j := t) hF (m_X4_has ht q1) w_X4_has k_4_31 (by decide +kernel) rfl ht rfl rfl rfl rfl rfl ?_
  refine zif_eq (tgt := 19) (pc := 5) hF (by decide +kernel) (fun b3 => ?_) (fun b3 => ?_)
  · replace h := zit b3 h
    exact zretV (pc := 19) hF hR (by decide +kernel) (congrArg (fun q => (q, n)) (Option.some.inj h))
  · replace h := zif b3 h
    refine zrun hF [(.aload_n 0, 1, pI 0), (.getfield 9, 3, pR 8 0), (.iload_n 1, 1, pI 0), (.aload_n 0, 1, pI 0), (.lload_n 2, 1, pI 0)] 8 _ (by decide +kernel) ?_
    refine (And.intro rfl (And.intro ht ?_))
    show zG w f 4 15 ([some (pR 8 t), some (pI a1), some (pL a2), none], [pL a2, pR 8 t, pI a1, pR 9 t], (m, n))
    obtain ⟨r5, q4, h⟩ := zr_k h
    refine zcallVL (pc := 15) (As := [pL a2]) (st := [pI a1, pR 9 t]) (c := 8) (j := t) hF (m_X4_kept ht q4) w_X4_kept k_4_35 (by decide +kernel) rfl ht rfl rfl rfl rfl rfl ?_
    obtain ⟨c6, h⟩ := zchk h
    refine zrun hF [(.lastore, 1, pI 0)] 18 _ (by decide +kernel) ?_
    refine (And.intro rfl (And.intro ht (And.intro c6 ?_)))
    refine zlet_k (P := fun (m7 : zMem) => zG w f 4 19 ([some (pR 8 t), some (pI a1), some (pL a2), none], [], (m7, n))) h (fun m7 h => ?_)
    exact zretV (pc := 19) hF hR (by decide +kernel) (congrArg (fun q => (q, n)) (Option.some.inj h))

