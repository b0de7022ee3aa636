set_option maxHeartbeats 4000000 in
set_option maxRecDepth 100000 in
theorem m_X6_element {w : zWd} {lc : Launch} {n : zMem} {a1 : Int32} {a2 : Int32} {m : zMem} {x : Int64}  (h : s_X6_element a1 a2 m = some x) : zMet w lc 2 yX6_element cX6_element 3 (some .long) [pR 0 0, pI a1, pI a2] (m, n) (zQL w x (m, n)) := by
  refine zmet (o := 6) (by decide +kernel) rfl (Nat.le_of_ble_eq_true rfl) rfl (fun f hl hF hR => ?_)
  unfold s_X6_element at h
  show zG w f 3 0 ([some (pR 0 0), some (pI a1), some (pI a2)], [], (m, n))
  refine zrun hF [(.iload_n 1, 1, pI 0)] 0 _ (by decide +kernel) ?_
  show zG w f 3 1 ([some (pR 0 0), some (pI a1), some (pI a2)], [pI a1], (m, n))
  obtain ⟨r2, q1, h⟩ := zr_k h
  refine zcallSI (pc := 1) (As := [pI a1]) (st := []) hF (m_X6_isShelf  q1) w_X6_isShelf k_6_69 (by decide +kernel) rfl rfl rfl rfl ?_
  refine zif_eq (tgt := 20) (pc := 4) hF (by decide +kernel) (fun b3 => ?_) (fun b3 => ?_)
  · replace h := zit b3 h
    refine zrun hF [(.lconst 0, 1, pL 0)] 20 _ (by decide +kernel) ?_
    show zG w f 3 21 ([some (pR 0 0), some (pI a1), some (pI a2)], [pL 0], (m, n))
    exact zretL (pc := 21) hF hR (by decide +kernel) (Option.some.inj h) rfl
  · replace h := zif b3 h
    obtain ⟨c4, h⟩ := zchk h
    refine zrun hF [(.aload_n 0, 1, pI 0), (.getfield 28, 3, pR 0 4), (.iload_n 1, 1, pI 0), (.aaload, 1, pI 0), (.iload_n 2, 1, pI 0)] 7 _ (by decide +kernel) ?_
    refine (And.intro rfl (And.intro rfl (And.intro rfl (And.intro c4 ?_))))
    show zG w f 3 14 ([some (pR 0 0), some (pI a1), some (pI a2)], [pI a2, pR 8 (ix a1)], (m, n))
    obtain ⟨r6, q5, h⟩ := zr_k h
    refine zcallVI (pc := 14) (As := [pI a2]) (st := []) (c := 8) (j := (ix a1)) hF (m_X4_has (zinb_blt c4) q5) w_X4_has k_6_84 (by decide +kernel) rfl (zinb_blt c4) rfl rfl rfl rfl rfl ?_
    refine zif_ne (tgt := 22) (pc := 17) hF (by decide +kernel) (fun b7 => ?_) (fun b7 => ?_)
    · replace h := zit b7 h
      refine zrun hF [(.lconst 0, 1, pL 0)] 20 _ (by decide +kernel) ?_
      show zG w f 3 21 ([some (pR 0 0), some (pI a1), some (pI a2)], [pL 0], (m, n))
      exact zretL (pc := 21) hF hR (by decide +kernel) (Option.some.inj h) rfl
    · replace h := zif b7 h
      obtain ⟨c8, h⟩ := zchk h
      refine zrun hF [(.aload_n 0, 1, pI 0), (.getfield 28, 3, pR 0 4), (.iload_n 1, 1, pI 0), (.aaload, 1, pI 0), (.getfield 105, 3, pR 8 0), (.iload_n 2, 1, pI 0), (.laload, 1, pI 0)] 22 _ (by decide +kernel) ?_
      refine (And.intro rfl (And.intro rfl (And.intro rfl (And.intro c4 (And.intro rfl (And.intro (zinb_blt c4) (And.intro rfl (And.intro (zinb_blt c4) (And.intro c8 ?_)))))))))
      show zG w f 3 33 ([some (pR 0 0), some (pI a1), some (pI a2)], [pL (m.2 9 (ix a1) (ix a2))], (m, n))
      exact zretL (pc := 33) hF hR (by decide +kernel) (Option.some.inj h) rfl

set_option maxHeartbeats 4000000 in
set_option maxRecDepth 100000 in
theorem m_X7_element {w : zWd} {lc : Launch} {n : zMem} {a1 : Int32} {a2 : Int32} {m : zMem} {x : Int64}  (h : s_X7_element a1 a2 m = some x) : zMet w lc 2 yX7_element cX7_element 3 (some .long) [pR 64 0, pI a1, pI a2] (n, m) (zQL w x (n, m)) := by
  refine zmet (o := 7) (by decide +kernel) rfl (Nat.le_of_ble_eq_true rfl) rfl (fun f hl hF hR => ?_)
  unfold s_X7_element at h
  show zG w f 3 0 ([some (pR 64 0), some (pI a1), some (pI a2)], [], (n, m))
  refine zrun hF [(.aload_n 0, 1, pI 0), (.iload_n 1, 1, pI 0)] 0 _ (by decide +kernel) ?_
  show zG w f 3 2 ([some (pR 64 0), some (pI a1), some (pI a2)], [pI a1, pR 64 0], (n, m))
  obtain ⟨r2, q1, h⟩ := zr_k h
  refine zcallVI (pc := 2) (As := [pI a1]) (st := []) (c := 64) (j := 0) hF (m_X7_isShelf  q1) w_X7_isShelf k_7_96 (by decide +kernel) rfl rfl rfl rfl rfl rfl rfl ?_
  refine zif_eq (tgt := 47) (pc := 5) hF (by decide +kernel) (fun b3 => ?_) (fun b3 => ?_)
  · replace h := zit b3 h
    refine zrun hF [(.lconst 0, 1, pL 0)] 47 _ (by decide +kernel) ?_
    show zG w f 3 48 ([some (pR 64 0), some (pI a1), some (pI a2)], [pL 0], (n, m))
    exact zretL (pc := 48) hF hR (by decide +kernel) (Option.some.inj h) rfl
  · replace h := zif b3 h
    obtain ⟨c4, h⟩ := zchk h
    refine zrun hF [(.aload_n 0, 1, pI 0), (.getfield 38, 3, pR 64 13), (.iload_n 1, 1, pI 0), (.iaload, 1, pI 0), (.iconst 1, 1, pI 1)] 8 _ (by decide +kernel) ?_
    refine (And.intro rfl (And.intro rfl (And.intro rfl (And.intro rfl (And.intro c4 ?_)))))
    show zG w f 3 15 ([some (pR 64 0), some (pI a1), some (pI a2)], [pI 1, pI (m.1 71 0 (ix a1))], (n, m))
    refine zicmp_ne (tgt := 47) (pc := 15) hF (by decide +kernel) (fun b5 => ?_) (fun b5 => ?_)
    · replace h := zit b5 h
      refine zrun hF [(.iload_n 2, 1, pI 0)] 18 _ (by decide +kernel) ?_
      show zG w f 3 19 ([some (pR 64 0), some (pI a1), some (pI a2)], [pI a2], (n, m))
      refine zif_lt (tgt := 47) (pc := 19) hF (by decide +kernel) (fun b6 => ?_) (fun b6 => ?_)
      · replace h := zit b6 h
        refine zrun hF [(.lconst 0, 1, pL 0)] 47 _ (by decide +kernel) ?_
        show zG w f 3 48 ([some (pR 64 0), some (pI a1), some (pI a2)], [pL 0], (n, m))
        exact zretL (pc := 48) hF hR (by decide +kernel) (Option.some.inj h) rfl
      · replace h := zif b6 h
        refine zrun hF [(.iload_n 2, 1, pI 0), (.aload_n 0, 1, pI 0), (.getfield 44, 3, pR 64 15), (.iload_n 1, 1, pI 0), (.iaload, 1, pI 0)] 22 _ (by decide +kernel) ?_
        refine (And.intro rfl (And.intro rfl (And.intro rfl (And.intro rfl (And.intro c4 ?_)))))
        show zG w f 3 29 ([some (pR 64 0), some (pI a1), some (pI a2)], [pI (m.1 73 0 (ix a1)), pI a2], (n, m))
        refine zicmp_ge (tgt := 47) (pc := 29) hF (by decide +kernel) (fun b7 => ?_) (fun b7 => ?_)
        · replace h := zit b7 h
          refine zrun hF [(.lconst 0, 1, pL 0)] 47 _ (by decide +kernel) ?_
          show zG w f 3 48 ([some (pR 64 0), some (pI a1), some (pI a2)], [pL 0], (n, m))
          exact zretL (pc := 48) hF hR (by decide +kernel) (Option.some.inj h) rfl
        · replace h := zif b7 h
          obtain ⟨c8, h⟩ := zchk h
          refine zrun hF [(.aload_n 0, 1, pI 0), (.getfield 50, 3, pR 64 17), (.sipush 160, 3, pI 160), (.iload_n 1, 1, pI 0), (.imul, 1, pI 0), (.iload_n 2, 1, pI 0), (.iadd, 1, pI 0), (.laload, 1, pI 0)] 32 _ (by decide +kernel) ?_
          refine (And.intro rfl (And.intro rfl (And.intro rfl (And.intro rfl (And.intro c8 ?_)))))
          show zG w f 3 44 ([some (pR 64 0), some (pI a1), some (pI a2)], [pL (m.2 75 0 (ix ((160 * a1) + a2)))], (n, m))
          refine zgoto (tgt := 48) (pc := 44) hF (by decide +kernel) ?_
          exact zretL (pc := 48) hF hR (by decide +kernel) (Option.some.inj h) rfl
    · replace h := zif b5 h
      refine zrun hF [(.lconst 0, 1, pL 0)] 47 _ (by decide +kernel) ?_
      show zG w f 3 48 ([some (pR 64 0), some (pI a1), some (pI a2)], [pL 0], (n, m))
      exact zretL (pc := 48) hF hR (by decide +kernel) (Option.some.inj h) rfl

set_option maxHeartbeats 4000000 in
set_option maxRecDepth 100000 in
theorem m_X5_exists {w : zWd} {lc : Launch} {n : zMem} {t : Nat} {a1 : Int32} {m : zMem} {x : Int32} (ht : Nat.blt t 3 = true) (h : s_X5_exists t a1 m = some x) : zMet w lc 1 yX5_exists cX5_exists 2 (some .boolean) [pR 1 t, pI a1] (m, n) (zQI w x (m, n)) := by
  refine zmet (o := 5) (by decide +kernel) rfl (Nat.le_of_ble_eq_true rfl) rfl (fun f hl hF hR => ?_)
  unfold s_X5_exists at h
  show zG w f 2 0 ([some (pR 1 t), some (pI a1)], [], (m, n))
  refine zrun hF [(.iload_n 1, 1, pI 0)] 0 _ (by decide +kernel) ?_
  show zG w f 2 1 ([some (pR 1 t), some (pI a1)], [pI a1], (m, n))
  refine zif_lt (tgt := 16) (pc := 1) hF (by decide +kernel) (fun b1 => ?_) (fun b1 => ?_)
  · replace h := zit b1 h
    refine zrun hF [(.iconst 0, 1, pI 0)] 16 _ (by decide +kernel) ?_
    show zG w f 2 17 ([some (pR 1 t), some (pI a1)], [pI 0], (m, n))
    exact zretI (pc := 17) hF hR (by decide +kernel) (by decide +kernel) (Option.some.inj h) rfl
  · replace h := zif b1 h
    refine zrun hF [(.iload_n 1, 1, pI 0), (.aload_n 0, 1, pI 0), (.getfield 31, 3, pR 1 6)] 4 _ (by decide +kernel) ?_
    refine (And.intro rfl (And.intro ht ?_))
    show zG w f 2 9 ([some (pR 1 t), some (pI a1)], [pI (m.1 1 t 6), pI a1], (m, n))
    refine zicmp_ge (tgt := 16) (pc := 9) hF (by decide +kernel) (fun b2 => ?_) (fun b2 => ?_)
    · replace h := zit b2 h
      refine zrun hF [(.iconst 0, 1, pI 0)] 16 _ (by decide +kernel) ?_
      show zG w f 2 17 ([some (pR 1 t), some (pI a1)], [pI 0], (m, n))
      exact zretI (pc := 17) hF hR (by decide +kernel) (by decide +kernel) (Option.some.inj h) rfl
    · replace h := zif b2 h
      refine zrun hF [(.iconst 1, 1, pI 1)] 12 _ (by decide +kernel) ?_
      show zG w f 2 13 ([some (pR 1 t), some (pI a1)], [pI 1], (m, n))
      refine zgoto (tgt := 17) (pc := 13) hF (by decide +kernel) ?_
      exact zretI (pc := 17) hF hR (by decide +kernel) (by decide +kernel) (Option.some.inj h) rfl

set_option maxHeartbeats 4000000 in
set_option maxRecDepth 100000 in
theorem m_X4_hold {w : zWd} {lc : Launch} {n : zMem} {t : Nat} {a1 : Int32} {m : zMem} {m0 : zMem} (ht : Nat.blt t 8 = true) (h : s_X4_hold t a1 m = some m0) : zMet w lc 1 yX4_hold cX4_hold 2 none [pR 8 t, pI a1] (m, n) (zQV w (m0, n)) := by
  refine zmet (o := 4) (by decide +kernel) rfl (Nat.le_of_ble_eq_true rfl) rfl (fun f hl hF hR => ?_)
  unfold s_X4_hold at h
  show zG w f 2 0 ([some (pR 8 t), some (pI a1)], [], (m, n))
  refine zrun hF [(.aload_n 0, 1, pI 0), (.iload_n 1, 1, pI 0), (.putfield 15, 3, pR 8 1)] 0 _ (by decide +kernel) ?_
  refine (And.intro rfl (And.intro ht (And.intro trivial ?_)))
  refine zlet_k (P := fun (m1 : zMem) => zG w f 2 5 ([some (pR 8 t), some (pI a1)], [], (m1, n))) h (fun m1 h => ?_)
  refine zrun hF [(.aload_n 0, 1, pI 0), (.iconst 0, 1, pI 0), (.putfield 19, 3, pR 8 2)] 5 _ (by decide +kernel) ?_
  refine (And.intro rfl (And.intro ht (And.intro trivial ?_)))
  refine zlet_k (P := fun (m2 : zMem) => zG w f 2 10 ([some (pR 8 t), some (pI a1)], [], (m2, n))) h (fun m2 h => ?_)
  exact zretV (pc := 10) hF hR (by decide +kernel) (congrArg (fun q => (q, n)) (Option.some.inj h))

set_option maxHeartbeats 4000000 in
set_option maxRecDepth 100000 in
theorem m_X6_show {w : zWd} {lc : Launch} {n : zMem} {a1 : Int32} {a2 : Int32} {m : zMem} {x : Int32} {m0 : zMem}  (h : s_X6_show a1 a2 m = some (x, m0)) : zMet w lc 2 yX6_show cX6_show 3 (some .int) [pR 0 0, pI a1, pI a2] (m, n) (zQI w x (m0, n)) := by
  refine zmet (o := 6) (by decide +kernel) rfl (Nat.le_of_ble_eq_true rfl) rfl (fun f hl hF hR => ?_)
  unfold s_X6_show at h
  show zG w f 3 0 ([some (pR 0 0), some (pI a1), some (pI a2)], [], (m, n))
  refine zrun hF [(.iload_n 1, 1, pI 0)] 0 _ (by decide +kernel) ?_
  show zG w f 3 1 ([some (pR 0 0), some (pI a1), some (pI a2)], [pI a1], (m, n))
  obtain ⟨r2, q1, h⟩ := zr_k h
  refine zcallSI (pc := 1) (As := [pI a1]) (st := []) hF (m_X6_isShelf  q1) w_X6_isShelf k_6_69 (by decide +kernel) rfl rfl rfl rfl ?_
  refine zif_ne (tgt := 13) (pc := 4) hF (by decide +kernel) (fun b3 => ?_) (fun b3 => ?_)
  · replace h := zit b3 h
    refine zrun hF [(.aload_n 0, 1, pI 0), (.iconst (-1), 1, pI (-1))] 7 _ (by decide +kernel) ?_
    show zG w f 3 9 ([some (pR 0 0), some (pI a1), some (pI a2)], [pI (-1), pR 0 0], (m, n))
    obtain ⟨r5, m6, q4, h⟩ := zb_k h
    refine zcallVI (pc := 9) (As := [pI (-1)]) (st := []) (c := 0) (j := 0) hF (m_X6_refuse  q4) w_X6_refuse k_6_73 (by decide +kernel) rfl rfl rfl rfl rfl rfl rfl ?_
    exact zretI (pc := 12) hF hR (by decide +kernel) rfl (congrArg Prod.fst (Option.some.inj h)) (congrArg (fun (q : Int32 × zMem) => (q.2, n)) (Option.some.inj h))
  · replace h := zif b3 h
    refine zrun hF [(.iload_n 2, 1, pI 0), (.iconst (-1), 1, pI (-1))] 13 _ (by decide +kernel) ?_
    show zG w f 3 15 ([some (pR 0 0), some (pI a1), some (pI a2)], [pI (-1), pI a2], (m, n))
    refine zicmp_ne (tgt := 30) (pc := 15) hF (by decide +kernel) (fun b7 => ?_) (fun b7 => ?_)
    · replace h := zit b7 h
      obtain ⟨c8, h⟩ := zchk h
      refine zrun hF [(.aload_n 0, 1, pI 0), (.getfield 28, 3, pR 0 4), (.iload_n 1, 1, pI 0), (.aaload, 1, pI 0), (.iconst (-1), 1, pI (-1))] 18 _ (by decide +kernel) ?_
      refine (And.intro rfl (And.intro rfl (And.intro rfl (And.intro c8 ?_))))
      show zG w f 3 25 ([some (pR 0 0), some (pI a1), some (pI a2)], [pI (-1), pR 8 (ix a1)], (m, n))
      obtain ⟨m11, q9, h⟩ := zr_k h
      refine zcallVV (pc := 25) (As := [pI (-1)]) (st := []) (c := 8) (j := (ix a1)) hF (m_X4_hold (zinb_blt c8) q9) w_X4_hold k_6_115 (by decide +kernel) rfl (zinb_blt c8) rfl rfl rfl rfl rfl ?_
      refine zrun hF [(.iconst 0, 1, pI 0)] 28 _ (by decide +kernel) ?_
      show zG w f 3 29 ([some (pR 0 0), some (pI a1), some (pI a2)], [pI 0], (m11, n))
      exact zretI (pc := 29) hF hR (by decide +kernel) rfl (congrArg Prod.fst (Option.some.inj h)) (congrArg (fun (q : Int32 × zMem) => (q.2, n)) (Option.some.inj h))
    · replace h := zif b7 h
      refine zrun hF [(.aload_n 0, 1, pI 0), (.getfield 10, 3, pR 0 0), (.iload_n 2, 1, pI 0)] 30 _ (by decide +kernel) ?_
      refine (And.intro rfl (And.intro rfl ?_))
      show zG w f 3 35 ([some (pR 0 0), some (pI a1), some (pI a2)], [pI a2, pR 1 0], (m, n))
      obtain ⟨r13, q12, h⟩ := zr_k h
      refine zcallVI (pc := 35) (As := [pI a2]) (st := []) (c := 1) (j := 0) hF (m_X5_exists rfl q12) w_X5_exists k_6_119 (by decide +kernel) rfl rfl rfl rfl rfl rfl rfl ?_
      refine zif_ne (tgt := 47) (pc := 38) hF (by decide +kernel) (fun b14 => ?_) (fun b14 => ?_)
      · replace h := zit b14 h
        refine zrun hF [(.aload_n 0, 1, pI 0), (.iconst (-1), 1, pI (-1))] 41 _ (by decide +kernel) ?_
        show zG w f 3 43 ([some (pR 0 0), some (pI a1), some (pI a2)], [pI (-1), pR 0 0], (m, n))
        obtain ⟨r16, m17, q15, h⟩ := zb_k h
        refine zcallVI (pc := 43) (As := [pI (-1)]) (st := []) (c := 0) (j := 0) hF (m_X6_refuse  q15) w_X6_refuse k_6_73 (by decide +kernel) rfl rfl rfl rfl rfl rfl rfl ?_
        exact zretI (pc := 46) hF hR (by decide +kernel) rfl (congrArg Prod.fst (Option.some.inj h)) (congrArg (fun (q : Int32 × zMem) => (q.2, n)) (Option.some.inj h))
      · replace h := zif b14 h
        obtain ⟨c18, h⟩ := zchk h
        refine zrun hF [(.aload_n 0, 1, pI 0), (.getfield 28, 3, pR 0 4), (.iload_n 1, 1, pI 0), (.aaload, 1, pI 0), (.iload_n 2, 1, pI 0)] 47 _ (by decide +kernel) ?_
        refine (And.intro rfl (And.intro rfl (And.intro rfl (And.intro c18 ?_))))
        show zG w f 3 54 ([some (pR 0 0), some (pI a1), some (pI a2)], [pI a2, pR 8 (ix a1)], (m, n))
        obtain ⟨m21, q19, h⟩ := zr_k h
        refine zcallVV (pc := 54) (As := [pI a2]) (st := []) (c := 8) (j := (ix a1)) hF (m_X4_hold (zinb_blt c18) q19) w_X4_hold k_6_115 (by decide +kernel) rfl (zinb_blt c18) rfl rfl rfl rfl rfl ?_
        refine zrun hF [(.iconst 1, 1, pI 1)] 57 _ (by decide +kernel) ?_
        show zG w f 3 58 ([some (pR 0 0), some (pI a1), some (pI a2)], [pI 1], (m21, n))
        exact zretI (pc := 58) hF hR (by decide +kernel) rfl (congrArg Prod.fst (Option.some.inj h)) (congrArg (fun (q : Int32 × zMem) => (q.2, n)) (Option.some.inj h))

