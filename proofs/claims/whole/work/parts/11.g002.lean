set_option maxHeartbeats 4000000 in
set_option maxRecDepth 100000 in
theorem m_X6_element {w : zWd} {lc : Launch} {n : zMem} {a1 : Int32} {a2 : Int32} {m : zMem} {x : Int64}  (h : s_X6_element a1 a2 m = some x) : zMet w lc 2 yX6_element cX6_element 3 (some .long) [pR 0 0, pI a1, pI a2] (m, n) (zQL w x (m, n)) := by
  refine zmet (o := 6) (by decide +kernel) rfl (Nat.le_of_ble_eq_true rfl) rfl (fun f hl hF hR => ?_)
  unfold s_X6_element at h
  show zG w f 3 0 ([some (pR 0 0), some (pI a1), some (pI a2)], [], (m, n))
  refine zrun hF [(.iload_n 1, 1, pI 0)] 0 _ (by decide +kernel) ?_
  show zG w f 3 1 ([some (pR 0 0), some (pI a1), some (pI a2)], [pI a1], (m, n))
  obtain ⟨r2, q1, h⟩ := zr_k h
  refine zcallSI (pc := 1) (As := [pI a1]) (st := []) hF (m_X6_isShelf  q1) w_X6_isShelf k_6_69 (by decide +kernel) rfl rfl rfl rfl ?_
  refine zif_eq (tgt := 20) (pc := 4) hF (by decide +kernel) (fun b3 => ?_) (fun b3 => ?_)
  · replace h := zit b3 h
    refine zrun hF [(.lconst 0, 1, pL 0)] 20 _ (by decide +kernel) ?_
    show zG w f 3 21 ([some (pR 0 0), some (pI a1), some (pI a2)], [pL 0], (m, n))
    exact zretL (pc := 21) hF hR (by decide +kernel) (Option.some.inj h) rfl
  · replace h := zif b3 h
    obtain ⟨c4, h⟩ := zchk h
    refine zrun hF [(.aload_n 0, 1, pI 0), (.getfield 28, 3, pR 0 4), (.iload_n 1, 1, pI 0), (.aaload, 1, pI 0), (.iload_n 2, 1, pI 0)] 7 _ (by decide +kernel) ?_
    refine (And.intro rfl (And.intro rfl (And.intro rfl (And.intro c4 ?_))))
    show zG w f 3 14 ([some (pR 0 0), some (pI a1), some (pI a2)], [pI a2, pR 8 (ix a1)], (m, n))
    obtain ⟨r6, q5, h⟩ := zr_k h
    refine zcallVI (pc := 14) (As := [pI a2]) (st := []) (c := 8) (j := (ix a1)) hF (m_X4_has (zinb_blt c4) q5) w_X4_has k_6_84 (by decide +kernel) rfl (zinb_blt c4) rfl rfl rfl rfl rfl ?_
    refine zif_ne (tgt := 22) (pc := 17) hF (by decide +kernel) (fun b7 => ?_) (fun b7 => ?_)
    · replace h := zit b7 h
      refine zrun hF [(.lconst 0, 1, pL 0)] 20 _ (by decide +kernel) ?_
      show zG w f 3 21 ([some (pR 0 0), some (pI a1), some (pI a2)], [pL 0], (m, n))
      exact zretL (pc := 21) hF hR (by decide +kernel) (Option.some.inj h) rfl
    · replace h := zif b7 h
      obtain ⟨c8, h⟩ := zchk h
      refine zrun hF [(.aload_n 0, 1, pI 0), (.getfield 28, 3, pR 0 4), (.iload_n 1, 1, pI 0), (.aaload, 1, pI 0), (.getfield 105, 3, pR 8 0), (.iload_n 2, 1, pI 0), (.laload, 1, pI 0)] 22 _ (by decide +kernel) ?_
      refine (And.intro rfl (And.intro rfl (And.intro rfl (And.intro c4 (And.intro rfl (And.intro (zinb_blt c4) (And.intro rfl (And.intro (zinb_blt c4) (And.intro c8 ?_)))))))))
      show zG w f 3 33 ([some (pR 0 0), some (pI a1), some (pI a2)], [pL (m.2 9 (ix a1) (ix a2))], (m, n))
      exact zretL (pc := 33) hF hR (by decide +kernel) (Option.some.inj h) rfl

set_option maxHeartbeats 4000000 in
set_option maxRecDepth 100000 in
theorem m_X7_element {w : zWd} {lc : Launch} {n : zMem} {a1 : Int32} {a2 : Int32} {m : zMem} {x : Int64}  (h : s_X7_element a1 a2 m = some x) : zMet w lc 2 yX7_element cX7_element 3 (some .long) [pR 64 0, pI a1, pI a2] (n, m) (zQL w x (n, m)) := by
  refine zmet (o := 7) (by decide +kernel) rfl (Nat.le_of_ble_eq_true rfl) rfl (fun f hl hF hR => ?_)
  unfold s_X7_element at h
  show zG w f 3 0 ([some (pR 64 0), some (pI a1), some (pI a2)], [], (n, m))
  refine zrun hF [(.aload_n 0, 1, pI 0), (.iload_n 1, 1, pI 0)] 0 _ (by decide +kernel) ?_
  show zG w f 3 2 ([some (pR 64 0), some (pI a1), some (pI a2)], [pI a1, pR 64 0], (n, m))
  obtain ⟨r2, q1, h⟩ := zr_k h
  refine zcallVI (pc := 2) (As := [pI a1]) (st := []) (c := 64) (j := 0) hF (m_X7_isShelf  q1) w_X7_isShelf k_7_96 (by decide +kernel) rfl rfl rfl rfl rfl rfl rfl ?_
  refine zif_eq (tgt := 47) (pc := 5) hF (by decide +kernel) (fun b3 => ?_) (fun b3 => ?_)
  · replace h := zit b3 h
    refine zrun hF [(.lconst 0, 1, pL 0)] 47 _ (by decide +kernel) ?_
    show zG w f 3 48 ([some (pR 64 0), some (pI a1), some (pI a2)], [pL 0], (n, m))
    exact zretL (pc := 48) hF hR (by decide +kernel) (Option.some.inj h) rfl
  · replace h := zif b3 h
    obtain ⟨c4, h⟩ := zchk h
    refine zrun hF [(.aload_n 0, 1, pI 0), (.getfield 38, 3, pR 64 13), (.iload_n 1, 1, pI 0), (.iaload, 1, pI 0), (.iconst 1, 1, pI 1)] 8 _ (by decide +kernel) ?_
    refine (And.intro rfl (And.intro rfl (And.intro rfl (And.intro rfl (And.intro c4 ?_)))))
    show zG w f 3 15 ([some (pR 64 0), some (pI a1), some (pI a2)], [pI 1, pI (m.1 71 0 (ix a1))], (n, m))
    refine zicmp_ne (tgt := 47) (pc := 15) hF (by decide +kernel) (fun b5 => ?_) (fun b5 => ?_)
    · replace h := zit b5 h
      refine zrun hF [(.iload_n 2, 1, pI 0)] 18 _ (by decide +kernel) ?_
      show zG w f 3 19 ([some (pR 64 0), some (pI a1), some (pI a2)], [pI a2], (n, m))
      refine zif_lt (tgt := 47) (pc := 19) hF (by decide +kernel) (fun b6 => ?_) (fun b6 => ?_)
      · replace h := zit b6 h
        refine zrun hF [(.lconst 0, 1, pL 0)] 47 _ (by decide +kernel) ?_
        show zG w f 3 48 ([some (pR 64 0), some (pI a1), some (pI a2)], [pL 0], (n, m))
        exact zretL (pc := 48) hF hR (by decide +kernel) (Option.some.inj h) rfl
      · replace h := zif b6 h
        refine zrun hF [(.iload_n 2, 1, pI 0), (.aload_n 0, 1, pI 0), (.getfield 44, 3, pR 64 15), (.iload_n 1, 1, pI 0), (.iaload, 1, pI 0)] 22 _ (by decide +kernel) ?_
        refine (And.intro rfl (And.intro rfl (And.intro rfl (And.intro rfl (And.intro c4 ?_)))))
        show zG w f 3 29 ([some (pR 64 0), some (pI a1), some (pI a2)], [pI (m.1 73 0 (ix a1)), pI a2], (n, m))
        refine zicmp_ge (tgt := 47) (pc := 29) hF (by decide +kernel) (fun b7 => ?_) (fun b7 => ?_)
        · replace h := zit b7 h
          refine zrun hF [(.lconst 0, 1, pL 0)] 47 _ (by decide +kernel) ?_
          show zG w f 3 48 ([some (pR 64 0), some (pI a1), some (pI a2)], [pL 0], (n, m))
          exact zretL (pc := 48) hF hR (by decide +kernel) (Option.some.inj h) rfl
        · replace h := zif b7 h
          obtain ⟨c8, h⟩ := zchk h
          refine zrun hF [(.aload_n 0, 1, pI 0), (.getfield 50, 3, pR 64 17), (.sipush 160, 3, pI 160), (.iload_n 1, 1, pI 0), (.imul, 1, pI 0), (.iload_n 2, 1, pI 0), (.iadd, 1, pI 0), (.laload, 1, pI 0)] 32 _ (by decide +kernel) ?_
          refine (And.intro rfl (And.intro rfl (And.intro rfl (And.intro rfl (And.intro c8 ?_)))))
          show zG w f 3 44 ([some (pR 64 0), some (pI a1), some (pI a2)], [pL (m.2 75 0 (ix ((160 * a1) + a2)))], (n, m))
          refine zgoto (tgt := 48) (pc := 44) hF (by decide +kernel) ?_
          exact zretL (pc := 48) hF hR (by decide +kernel) (Option.some.inj h) rfl
    · replace h := zif b5 h
      refine zrun hF [(.lconst 0, 1, pL 0)] 47 _ (by decide +kernel) ?_
      show zG w f 3 48 ([some (pR 64 0), some (pI a1), some (pI a2)], [pL 0], (n, m))
      exact zretL (pc := 48) hF hR (by decide +kernel) (Option.some.inj h) rfl

set_option maxHeartbeats 4000000 in
set_option maxRecDepth 100000 in
theorem m_X5_exists {w : zWd} {lc : Launch} {n : zMem} {t : Nat} {a1 : Int32} {m : zMem} {x : Int32} (ht : Nat.blt t 3 = true) (h : s_X5_exists t a1 m = some x) : zMet w lc 1 yX5_exists cX5_exists 2 (some .boolean) [pR 1 t, pI a1] (m, n) (zQI w x (m, n)) := by
  refine zmet (o := 5) (by decide +kernel) rfl (Nat.le_of_ble_eq_true rfl) rfl (fun f hl hF hR => ?_)
  unfold s_X5_exists at h
  show zG w f 2 0 ([some (pR 1 t), some (pI a1)], [], (m, n))
  refine zrun hF [(.iload_n 1, 1, pI 0)] 0 _ (by decide +kernel) ?_
  show zG w f 2 1 ([some (pR 1 t), some (pI a1)], [pI a1], (m, n))
  refine zif_lt (tgt := 16) (pc := 1) hF (by decide +kernel) (fun b1 => ?_) (fun b1 => ?_)
  · replace h := zit b1 h
    refine zrun hF [(.iconst 0, 1, pI 0)] 16 _ (by decide +kernel) ?_
    show zG w f 2 17 ([some (pR 1 t), some (pI a1)], [pI 0], (m, n))
    exact zretI (pc := 17) hF hR (by decide +kernel) (by decide +kernel) (Option.some.inj h) rfl
  · replace h := zif b1 h
    refine zrun hF [(.iload_n 1, 1, pI 0), (.aload_n 0, 1, pI 0), (.getfield 31, 3, pR 1 6)] 4 _ (by decide +kernel) ?_
    refine (And.intro rfl (And.intro ht ?_))
    show zG w f 2 9 ([some (pR 1 t), some (pI a1)], [pI (m.1 1 t 6), pI a1], (m, n))
    refine zicmp_ge (tgt := 16) (pc := 9) hF (by decide +kernel) (fun b2 => ?_) (fun b2 => ?_)
    · replace h := zit b2 h
      refine zrun hF [(.iconst 0, 1, pI 0)] 16 _ (by decide +kernel) ?_
      show zG w f 2 17 ([some (pR 1 t), some (pI a1)], [pI 0], (m, n))
      exact zretI (pc := 17) hF hR (by decide +kernel) (by decide +kernel) (Option.some.inj h) rfl
    · replace h := zif b2 h
      refine zrun hF [(.iconst 1, 1, pI 1)] 12 _ (by decide +kernel) ?_
      show zG w f 2 13 ([some (pR 1 t), some (pI a1)], [pI 1], (m, n))
      refine zgoto (tgt := 17) (pc := 13) hF (by decide +kernel) ?_
      exact zretI (pc := 17) hF hR (by decide +kernel) (by decide +kernel) (Option.some.inj h) rfl

set_option maxHeartbeats 4000000 in
set_option maxRecDepth 100000 in
theorem m_X4_hold {w : zWd} {lc : Launch} {n : zMem} {t : Nat} {a1 : Int32} {m : zMem} {m0 : zMem} (ht : Nat.blt t 8 = true) (h : s_X4_hold t a1 m = some m0) : zMet w lc 1 yX4_hold cX4_hold 2 none [pR 8 t, pI a1] (m, n) (zQV w (m0, n)) := by
  refine zmet (o := 4) (by decide +kernel) rfl (Nat.le_of_ble_eq_true rfl) rfl (fun f hl hF hR => ?_)
  unfold s_X4_hold at h
  show zG w f 2 0 ([some (pR 8 t), some (pI a1)], [], (m, n))
  refine zrun hF [(.aload_n 0, 1, pI 0), (.iload_n 1, 1, pI 0), (.putfield 15, 3, pR 8 1)] 0 _ (by decide +kernel) ?_
  refine (And.intro rfl (And.intro ht (And.intro trivial ?_)))
  refine zlet_k (P := fun (m1 : zMem) => zG w f 2 5 ([some (pR 8 t), some (pI a1)], [], (m1, n))) h (fun m1 h => ?_)
  refine zrun hF [(.aload_n 0, 1, pI 0), (.iconst 0, 1, pI 0), (.putfield 19, 3, pR 8 2)] 5 _ (by decide +kernel) ?_
  refine (And.intro rfl (And.intro ht (And.intro trivial ?_)))
  refine zlet_k (P := fun (m2 : zMem) => zG w f 2 10 ([some (pR 8 t), some (pI a1)], [], (m2, n))) h (fun m2 h => ?_)
  exact zretV (pc := 10) hF hR (by decide +kernel) (congrArg (fun q => (q, n)) (Option.some.inj h))

set_option maxHeartbeats 4000000 in
set_option maxRecDepth 100000 in
theorem m_X6_show {w : zWd} {lc : Launch} {n : zMem} {a1 : Int32} {a2 : Int32} {m : zMem} {x : Int32} {m0 : zMem}  (h : s_X6_show a1 a2 m = some (x, m0)) : zMet w lc 2 yX6_show cX6_show 3 (some .int) [pR 0 0, pI a1, pI a2] (m, n) (zQI w x (m0, n)) := by
  refine zmet (o := 6) (by decide +kernel) rfl (Nat.le_of_ble_eq_true rfl) rfl (fun f hl hF hR => ?_)
  unfold s_X6_show at h
  show zG w f 3 0 ([some (pR 0 0), some (pI a1), some (pI a2)], [], (m, n))
  refine zrun hF [(.iload_n 1, 1, pI 0)] 0 _ (by decide +kernel) ?_
  show zG w f 3 1 ([some (pR 0 0), some (pI a1), some (pI a2)], [pI a1], (m, n))
  obtain ⟨r2, q1, h⟩ := zr_k h
  refine zcallSI (pc := 1) (As := [pI a1]) (st := []) hF (m_X6_isShelf  q1) w_X6_isShelf k_6_69 (by decide +kernel) rfl rfl rfl rfl ?_
  refine zif_ne (tgt := 13) (pc := 4) hF (by decide +kernel) (fun b3 => ?_) (fun b3 => ?_)
  · replace h := zit b3 h
    refine zrun hF [(.aload_n 0, 1, pI 0), (.iconst (-1), 1, pI (-1))] 7 _ (by decide +kernel) ?_
    show zG w f 3 9 ([some (pR 0 0), some (pI a1), some (pI a2)], [pI (-1), pR 0 0], (m, n))
    obtain ⟨r5, m6, q4, h⟩ := zb_k h
    refine zcallVI (pc := 9) (As := [pI (-1)]) (st := []) (c := 0) (j := 0) hF (m_X6_refuse  q4) w_X6_refuse k_6_73 (by decide +kernel) rfl rfl rfl rfl rfl rfl rfl ?_
    exact zretI (pc := 12) hF hR (by decide +kernel) rfl (congrArg Prod.fst (Option.some.inj h)) (congrArg (fun (q : Int32 × zMem) => (q.2, n)) (Option.some.inj h))
  · replace h := zif b3 h
    refine zrun hF [(.iload_n 2, 1, pI 0), (.iconst (-1), 1, pI (-1))] 13 _ (by decide +kernel) ?_
    show zG w f 3 15 ([some (pR 0 0), some (pI a1), some (pI a2)], [pI (-1), pI a2], (m, n))
    refine zicmp_ne (tgt := 30) (pc := 15) hF (by decide +kernel) (fun b7 => ?_) (fun b7 => ?_)
    · replace h := zit b7 h
      obtain ⟨c8, h⟩ := zchk h
      refine zrun hF [(.aload_n 0, 1, pI 0), (.getfield 28, 3, pR 0 4), (.iload_n 1, 1, pI 0), (.aaload, 1, pI 0), (.iconst (-1), 1, pI (-1))] 18 _ (by decide +kernel) ?_
      refine (And.intro rfl (And.intro rfl (And.intro rfl (And.intro c8 ?_))))
      show zG w f 3 25 ([some (pR 0 0), some (pI a1), some (pI a2)], [pI (-1), pR 8 (ix a1)], (m, n))
      obtain ⟨m11, q9, h⟩ := zr_k h
      refine zcallVV (pc := 25) (As := [pI (-1)]) (st := []) (c := 8) (j := (ix a1)) hF (m_X4_hold (zinb_blt c8) q9) w_X4_hold k_6_115 (by decide +kernel) rfl (zinb_blt c8) rfl rfl rfl rfl rfl ?_
      refine zrun hF [(.iconst 0, 1, pI 0)] 28 _ (by decide +kernel) ?_
      show zG w f 3 29 ([some (pR 0 0), some (pI a1), some (pI a2)], [pI 0], (m11, n))
      exact zretI (pc := 29) hF hR (by decide +kernel) rfl (congrArg Prod.fst (Option.some.inj h)) (congrArg (fun (q : Int32 × zMem) => (q.2, n)) (Option.some.inj h))
    · replace h := zif b7 h
      refine zrun hF [(.aload_n 0, 1, pI 0), (.getfield 10, 3, pR 0 0), (.iload_n 2, 1, pI 0)] 30 _ (by decide +kernel) ?_
      refine (And.intro rfl (And.intro rfl ?_))
      show zG w f 3 35 ([some (pR 0 0), some (pI a1), some (pI a2)], [pI a2, pR 1 0], (m, n))
      obtain ⟨r13, q12, h⟩ := zr_k h
      refine zcallVI (pc := 35) (As := [pI a2]) (st := []) (c := 1) (j := 0) hF (m_X5_exists rfl q12) w_X5_exists k_6_119 (by decide +kernel) rfl rfl rfl rfl rfl rfl rfl ?_
      refine zif_ne (tgt := 47) (pc := 38) hF (by decide +kernel) (fun b14 => ?_) (fun b14 => ?_)
      · replace h := zit b14 h
        refine zrun hF [(.aload_n 0, 1, pI 0), (.iconst (-1), 1, pI (-1))] 41 _ (by decide +kernel) ?_
        show zG w f 3 43 ([some (pR 0 0), some (pI a1), some (pI a2)], [pI (-1), pR 0 0], (m, n))
        obtain ⟨r16, m17, q15, h⟩ := zb_k h
        refine zcallVI (pc := 43) (As := [pI (-1)]) (st := []) (c := 0) (j := 0) hF (m_X6_refuse  q15) w_X6_refuse k_6_73 (by decide +kernel) rfl rfl rfl rfl rfl rfl rfl ?_
        exact zretI (pc := 46) hF hR (by decide +kernel) rfl (congrArg Prod.fst (Option.some.inj h)) (congrArg (fun (q : Int32 × zMem) => (q.2, n)) (Option.some.inj h))
      · replace h := zif b14 h
        obtain ⟨c18, h⟩ := zchk h
        refine zrun hF [(.aload_n 0, 1, pI 0), (.getfield 28, 3, pR 0 4), (.iload_n 1, 1, pI 0), (.aaload, 1, pI 0), (.iload_n 2, 1, pI 0)] 47 _ (by decide +kernel) ?_
        refine (And.intro rfl (And.intro rfl (And.intro rfl (And.intro c18 ?_))))
        show zG w f 3 54 ([some (pR 0 0), some (pI a1), some (pI a2)], [pI a2, pR 8 (ix a1)], (m, n))
        obtain ⟨m21, q19, h⟩ := zr_k h
        refine zcallVV (pc := 54) (As := [pI a2]) (st := []) (c := 8) (j := (ix a1)) hF (m_X4_hold (zinb_blt c18) q19) w_X4_hold k_6_115 (by decide +kernel) rfl (zinb_blt c18) rfl rfl rfl rfl rfl ?_
        refine zrun hF [(.iconst 1, 1, pI 1)] 57 _ (by decide +kernel) ?_
        show zG w f 3 58 ([some (pR 0 0), some (pI a1), some (pI a2)], [pI 1], (m21, n))
        exact zretI (pc := 58) hF hR (by decide +kernel) rfl (congrArg Prod.fst (Option.some.inj h)) (congrArg (fun (q : Int32 × zMem) => (q.2, n)) (Option.some.inj h))

set_option maxHeartbeats 4000000 in
set_option maxRecDepth 100000 in
theorem m_X7_isGuest {w : zWd} {lc : Launch} {n : zMem} {a1 : Int32} {m : zMem} {x : Int32}  (h : s_X7_isGuest a1 m = some x) : zMet w lc 1 yX7_isGuest cX7_isGuest 2 (some .boolean) [pR 64 0, pI a1] (n, m) (zQI w x (n, m)) := by
  refine zmet (o := 7) (by decide +kernel) rfl (Nat.le_of_ble_eq_true rfl) rfl (fun f hl hF hR => ?_)
  unfold s_X7_isGuest at h
  show zG w f 2 0 ([some (pR 64 0), some (pI a1)], [], (n, m))
  refine zrun hF [(.iload_n 1, 1, pI 0)] 0 _ (by decide +kernel) ?_
  show zG w f 2 1 ([some (pR 64 0), some (pI a1)], [pI a1], (n, m))
  refine zif_lt (tgt := 16) (pc := 1) hF (by decide +kernel) (fun b1 => ?_) (fun b1 => ?_)
  · replace h := zit b1 h
    refine zrun hF [(.iconst 0, 1, pI 0)] 16 _ (by decide +kernel) ?_
    show zG w f 2 17 ([some (pR 64 0), some (pI a1)], [pI 0], (n, m))
    exact zretI (pc := 17) hF hR (by decide +kernel) (by decide +kernel) (Option.some.inj h) rfl
  · replace h := zif b1 h
    refine zrun hF [(.iload_n 1, 1, pI 0), (.aload_n 0, 1, pI 0), (.getfield 93, 3, pR 64 0)] 4 _ (by decide +kernel) ?_
    refine (And.intro rfl (And.intro rfl ?_))
    show zG w f 2 9 ([some (pR 64 0), some (pI a1)], [pI (m.1 64 0 0), pI a1], (n, m))
    refine zicmp_ge (tgt := 16) (pc := 9) hF (by decide +kernel) (fun b2 => ?_) (fun b2 => ?_)
    · replace h := zit b2 h
      refine zrun hF [(.iconst 0, 1, pI 0)] 16 _ (by decide +kernel) ?_
      show zG w f 2 17 ([some (pR 64 0), some (pI a1)], [pI 0], (n, m))
      exact zretI (pc := 17) hF hR (by decide +kernel) (by decide +kernel) (Option.some.inj h) rfl
    · replace h := zif b2 h
      refine zrun hF [(.iconst 1, 1, pI 1)] 12 _ (by decide +kernel) ?_
      show zG w f 2 13 ([some (pR 64 0), some (pI a1)], [pI 1], (n, m))
      refine zgoto (tgt := 17) (pc := 13) hF (by decide +kernel) ?_
      exact zretI (pc := 17) hF hR (by decide +kernel) (by decide +kernel) (Option.some.inj h) rfl

set_option maxHeartbeats 4000000 in
set_option maxRecDepth 100000 in
theorem m_X7_show_L21 {w : zWd} {f : zFr} {n : zMem} {x : Int32} {m0 : zMem} {lc : Launch} (hl : f.2.1 = lc) (hF : zFOK w f 7 cX7_show 3 2) (hR : zFin w f (some .int) (zQI w x (n, m0))) : ∀ (m : zMem), s_X7_show_L21 m = some (x, m0) → zG w f 3 21 ([some (pR 64 0), none, none], [], (n, m)) := by
  intro m h
  unfold s_X7_show_L21 at h
  refine zrun hF [(.aload_n 0, 1, pI 0), (.iconst (-1), 1, pI (-1))] 21 _ (by decide +kernel) ?_
  show zG w f 3 23 ([some (pR 64 0), none, none], [pI (-1), pR 64 0], (n, m))
  obtain ⟨r9, m10, q8, h⟩ := zb_k h
  refine zcallVI (pc := 23) (As := [pI (-1)]) (st := []) (c := 64) (j := 0) hF (m_X7_no  q8) w_X7_no k_7_100 (by decide +kernel) rfl rfl rfl rfl rfl rfl rfl ?_
  exact zretI (pc := 26) hF hR (by decide +kernel) rfl (congrArg Prod.fst (Option.some.inj h)) (congrArg (fun (q : Int32 × zMem) => (n, q.2)) (Option.some.inj h))

set_option maxHeartbeats 4000000 in
set_option maxRecDepth 100000 in
theorem m_X7_show_L42 {w : zWd} {f : zFr} {n : zMem} {x : Int32} {m0 : zMem} {lc : Launch} (hl : f.2.1 = lc) (hF : zFOK w f 7 cX7_show 3 2) (hR : zFin w f (some .int) (zQI w x (n, m0))) : ∀ (x1 : Int32) (x2 : Int32) (y1 : Int32) (y2 : Int32) (m : zMem), s_X7_show_L42 x1 x2 y1 y2 m = some (x, m0) → zG w f 3 42 ([some (pR 64 0), some (pI x1), some (pI x2)], [pI y2, pI y1, pR 71 0], (n, m)) := by
  intro x1 x2 y1 y2 m h
  unfold s_X7_show_L42 at h
  obtain ⟨c12, h⟩ := zchk h
  refine zrun hF [(.iastore, 1, pI 0)] 42 _ (by decide +kernel) ?_
  refine (And.intro rfl (And.intro rfl (And.intro c12 ?_)))
  refine zlet_k (P := fun (m13 : zMem) => zG w f 3 43 ([some (pR 64 0), some (pI x1), some (pI x2)], [], (n, m13))) h (fun m13 h => ?_)
  obtain ⟨c14, h⟩ := zchk h
  refine zrun hF [(.aload_n 0, 1, pI 0), (.getfield 47, 3, pR 64 16), (.iload_n 1, 1, pI 0), (.iload_n 2, 1, pI 0), (.iastore, 1, pI 0)] 43 _ (by decide +kernel) ?_
  refine (And.intro rfl (And.intro rfl (And.intro rfl (And.intro rfl (And.intro c14 ?_)))))
  refine zlet_k (P := fun (m15 : zMem) => zG w f 3 50 ([some (pR 64 0), some (pI x1), some (pI x2)], [], (n, m15))) h (fun m15 h => ?_)
  refine zrun hF [(.iload_n 2, 1, pI 0), (.iconst (-1), 1, pI (-1))] 50 _ (by decide +kernel) ?_
  show zG w f 3 52 ([some (pR 64 0), some (pI x1), some (pI x2)], [pI (-1), pI x2], (n, m15))
  refine zicmp_ne (tgt := 59) (pc := 52) hF (by decide +kernel) (fun b16 => ?_) (fun b16 => ?_)
  · replace h := zit b16 h
    refine zrun hF [(.iconst 0, 1, pI 0)] 55 _ (by decide +kernel) ?_
    show zG w f 3 56 ([some (pR 64 0), some (pI x1), some (pI x2)], [pI 0], (n, m15))
    refine zgoto (tgt := 60) (pc := 56) hF (by decide +kernel) ?_
    exact zretI (pc := 60) hF hR (by decide +kernel) rfl (congrArg Prod.fst (Option.some.inj h)) (congrArg (fun (q : Int32 × zMem) => (n, q.2)) (Option.some.inj h))
  · replace h := zif b16 h
    refine zrun hF [(.iconst 1, 1, pI 1)] 59 _ (by decide +kernel) ?_
    show zG w f 3 60 ([some (pR 64 0), some (pI x1), some (pI x2)], [pI 1], (n, m15))
    exact zretI (pc := 60) hF hR (by decide +kernel) rfl (congrArg Prod.fst (Option.some.inj h)) (congrArg (fun (q : Int32 × zMem) => (n, q.2)) (Option.some.inj h))

set_option maxHeartbeats 4000000 in
set_option maxRecDepth 100000 in
theorem m_X7_show_L27 {w : zWd} {f : zFr} {n : zMem} {x : Int32} {m0 : zMem} {lc : Launch} (hl : f.2.1 = lc) (hF : zFOK w f 7 cX7_show 3 2) (hR : zFin w f (some .int) (zQI w x (n, m0))) : ∀ (x1 : Int32) (x2 : Int32) (m : zMem), s_X7_show_L27 x1 x2 m = some (x, m0) → zG w f 3 27 ([some (pR 64 0), some (pI x1), some (pI x2)], [], (n, m)) := by
  intro x1 x2 m h
  unfold s_X7_show_L27 at h
  refine zrun hF [(.aload_n 0, 1, pI 0), (.getfield 38, 3, pR 64 13), (.iload_n 1, 1, pI 0), (.iload_n 2, 1, pI 0), (.iconst (-1), 1, pI (-1))] 27 _ (by decide +kernel) ?_
  refine (And.intro rfl (And.intro rfl ?_))
  show zG w f 3 34 ([some (pR 64 0), some (pI x1), some (pI x2)], [pI (-1), pI x2, pI x1, pR 71 0], (n, m))
  refine zicmp_ne (tgt := 41) (pc := 34) hF (by decide +kernel) (fun b11 => ?_) (fun b11 => ?_)
  · replace h := zit b11 h
    refine zrun hF [(.iconst 0, 1, pI 0)] 37 _ (by decide +kernel) ?_
    show zG w f 3 38 ([some (pR 64 0), some (pI x1), some (pI x2)], [pI 0, pI x1, pR 71 0], (n, m))
    refine zgoto (tgt := 42) (pc := 38) hF (by decide +kernel) ?_
    exact m_X7_show_L42 hl hF hR  _ _ _ _ _  h
  · replace h := zif b11 h
    refine zrun hF [(.iconst 2, 1, pI 2)] 41 _ (by decide +kernel) ?_
    show zG w f 3 42 ([some (pR 64 0), some (pI x1), some (pI x2)], [pI 2, pI x1, pR 71 0], (n, m))
    exact m_X7_show_L42 hl hF hR  _ _ _ _ _  h

set_option maxHeartbeats 4000000 in
set_option maxRecDepth 100000 in
theorem m_X7_show {w : zWd} {lc : Launch} {n : zMem} {a1 : Int32} {a2 : Int32} {m : zMem} {x : Int32} {m0 : zMem}  (h : s_X7_show a1 a2 m = some (x, m0)) : zMet w lc 2 yX7_show cX7_show 3 (some .int) [pR 64 0, pI a1, pI a2] (n, m) (zQI w x (n, m0)) := by
  refine zmet (o := 7) (by decide +kernel) rfl (Nat.le_of_ble_eq_true rfl) rfl (fun f hl hF hR => ?_)
  unfold s_X7_show at h
  show zG w f 3 0 ([some (pR 64 0), some (pI a1), some (pI a2)], [], (n, m))
  refine zrun hF [(.aload_n 0, 1, pI 0), (.iload_n 1, 1, pI 0)] 0 _ (by decide +kernel) ?_
  show zG w f 3 2 ([some (pR 64 0), some (pI a1), some (pI a2)], [pI a1, pR 64 0], (n, m))
  obtain ⟨r2, q1, h⟩ := zr_k h
  refine zcallVI (pc := 2) (As := [pI a1]) (st := []) (c := 64) (j := 0) hF (m_X7_isShelf  q1) w_X7_isShelf k_7_96 (by decide +kernel) rfl rfl rfl rfl rfl rfl rfl ?_
  refine zif_eq (tgt := 21) (pc := 5) hF (by decide +kernel) (fun b3 => ?_) (fun b3 => ?_)
  · replace h := zit b3 h
    refine zcut [true, false, false] ?_
    exact m_X7_show_L21 hl hF hR  _  h
  · replace h := zif b3 h
    refine zrun hF [(.iload_n 2, 1, pI 0), (.iconst (-1), 1, pI (-1))] 8 _ (by decide +kernel) ?_
    show zG w f 3 10 ([some (pR 64 0), some (pI a1), some (pI a2)], [pI (-1), pI a2], (n, m))
    refine zicmp_eq (tgt := 27) (pc := 10) hF (by decide +kernel) (fun b4 => ?_) (fun b4 => ?_)
    · replace h := zit b4 h
      exact m_X7_show_L27 hl hF hR  _ _ _  h
    · replace h := zif b4 h
      refine zrun hF [(.aload_n 0, 1, pI 0), (.iload_n 2, 1, pI 0)] 13 _ (by decide +kernel) ?_
      show zG w f 3 15 ([some (pR 64 0), some (pI a1), some (pI a2)], [pI a2, pR 64 0], (n, m))
      obtain ⟨r6, q5, h⟩ := zr_k h
      refine zcallVI (pc := 15) (As := [pI a2]) (st := []) (c := 64) (j := 0) hF (m_X7_isGuest  q5) w_X7_isGuest k_7_104 (by decide +kernel) rfl rfl rfl rfl rfl rfl rfl ?_
      refine zif_ne (tgt := 27) (pc := 18) hF (by decide +kernel) (fun b7 => ?_) (fun b7 => ?_)
      · replace h := zit b7 h
        refine zcut [true, false, false] ?_
        exact m_X7_show_L21 hl hF hR  _  h
      · replace h := zif b7 h
        exact m_X7_show_L27 hl hF hR  _ _ _  h

set_option maxHeartbeats 4000000 in
set_option maxRecDepth 100000 in
theorem m_X6_holds {w : zWd} {lc : Launch} {n : zMem} {a1 : Int32} {m : zMem} {x : Int32}  (h : s_X6_holds a1 m = some x) : zMet w lc 2 yX6_holds cX6_holds 2 (some .int) [pR 0 0, pI a1] (m, n) (zQI w x (m, n)) := by
  refine zmet (o := 6) (by decide +kernel) rfl (Nat.le_of_ble_eq_true rfl) rfl (fun f hl hF hR => ?_)
  unfold s_X6_holds at h
  show zG w f 2 0 ([some (pR 0 0), some (pI a1)], [], (m, n))
  refine zrun hF [(.iload_n 1, 1, pI 0)] 0 _ (by decide +kernel) ?_
  show zG w f 2 1 ([some (pR 0 0), some (pI a1)], [pI a1], (m, n))
  obtain ⟨r2, q1, h⟩ := zr_k h
  refine zcallSI (pc := 1) (As := [pI a1]) (st := []) hF (m_X6_isShelf  q1) w_X6_isShelf k_6_69 (by decide +kernel) rfl rfl rfl rfl ?_
  refine zif_eq (tgt := 19) (pc := 4) hF (by decide +kernel) (fun b3 => ?_) (fun b3 => ?_)
  · replace h := zit b3 h
    refine zrun hF [(.iconst (-1), 1, pI (-1))] 19 _ (by decide +kernel) ?_
    show zG w f 2 20 ([some (pR 0 0), some (pI a1)], [pI (-1)], (m, n))
    exact zretI (pc := 20) hF hR (by decide +kernel) rfl (Option.some.inj h) rfl
  · replace h := zif b3 h
    obtain ⟨c4, h⟩ := zchk h
    refine zrun hF [(.aload_n 0, 1, pI 0), (.getfield 28, 3, pR 0 4), (.iload_n 1, 1, pI 0), (.aaload, 1, pI 0), (.getfield 98, 3, pR 8 1)] 7 _ (by decide +kernel) ?_
    refine (And.intro rfl (And.intro rfl (And.intro rfl (And.intro c4 (And.intro rfl (And.intro (zinb_blt c4) ?_))))))
    show zG w f 2 16 ([some (pR 0 0), some (pI a1)], [pI (m.1 8 (ix a1) 1)], (m, n))
    refine zgoto (tgt := 20) (pc := 16) hF (by decide +kernel) ?_
    exact zretI (pc := 20) hF hR (by decide +kernel) rfl (Option.some.inj h) rfl

set_option maxHeartbeats 4000000 in
set_option maxRecDepth 100000 in
theorem m_X7_holds {w : zWd} {lc : Launch} {n : zMem} {a1 : Int32} {m : zMem} {x : Int32}  (h : s_X7_holds a1 m = some x) : zMet w lc 2 yX7_holds cX7_holds 2 (some .int) [pR 64 0, pI a1] (n, m) (zQI w x (n, m)) := by
  refine zmet (o := 7) (by decide +kernel) rfl (Nat.le_of_ble_eq_true rfl) rfl (fun f hl hF hR => ?_)
  unfold s_X7_holds at h
  show zG w f 2 0 ([some (pR 64 0), some (pI a1)], [], (n, m))
  refine zrun hF [(.aload_n 0, 1, pI 0), (.iload_n 1, 1, pI 0)] 0 _ (by decide +kernel) ?_
  show zG w f 2 2 ([some (pR 64 0), some (pI a1)], [pI a1, pR 64 0], (n, m))
  obtain ⟨r2, q1, h⟩ := zr_k h
  refine zcallVI (pc := 2) (As := [pI a1]) (st := []) (c := 64) (j := 0) hF (m_X7_isShelf  q1) w_X7_isShelf k_7_96 (by decide +kernel) rfl rfl rfl rfl rfl rfl rfl ?_
  refine zif_eq (tgt := 17) (pc := 5) hF (by decide +kernel) (fun b3 => ?_) (fun b3 => ?_)
  · replace h := zit b3 h
    refine zrun hF [(.iconst (-1), 1, pI (-1))] 17 _ (by decide +kernel) ?_
    show zG w f 2 18 ([some (pR 64 0), some (pI a1)], [pI (-1)], (n, m))
    exact zretI (pc := 18) hF hR (by decide +kernel) rfl (Option.some.inj h) rfl
  · replace h := zif b3 h
    obtain ⟨c4, h⟩ := zchk h
    refine zrun hF [(.aload_n 0, 1, pI 0), (.getfield 38, 3, pR 64 13), (.iload_n 1, 1, pI 0), (.iaload, 1, pI 0)] 8 _ (by decide +kernel) ?_
    refine (And.intro rfl (And.intro rfl (And.intro rfl (And.intro rfl (And.intro c4 ?_)))))
    show zG w f 2 14 ([some (pR 64 0), some (pI a1)], [pI (m.1 71 0 (ix a1))], (n, m))
    refine zif_ne (tgt := 19) (pc := 14) hF (by decide +kernel) (fun b5 => ?_) (fun b5 => ?_)
    · replace h := zit b5 h
      refine zrun hF [(.iconst (-1), 1, pI (-1))] 17 _ (by decide +kernel) ?_
      show zG w f 2 18 ([some (pR 64 0), some (pI a1)], [pI (-1)], (n, m))
      exact zretI (pc := 18) hF hR (by decide +kernel) rfl (Option.some.inj h) rfl
    · replace h := zif b5 h
      refine zrun hF [(.aload_n 0, 1, pI 0), (.getfield 38, 3, pR 64 13), (.iload_n 1, 1, pI 0), (.iaload, 1, pI 0), (.iconst 1, 1, pI 1)] 19 _ (by decide +kernel) ?_
      refine (And.intro rfl (And.intro rfl (And.intro rfl (And.intro rfl (And.intro c4 ?_)))))
      show zG w f 2 26 ([some (pR 64 0), some (pI a1)], [pI 1, pI (m.1 71 0 (ix a1))], (n, m))
      refine zicmp_ne (tgt := 41) (pc := 26) hF (by decide +kernel) (fun b6 => ?_) (fun b6 => ?_)
      · replace h := zit b6 h
        refine zrun hF [(.bipush 100, 2, pI 100), (.aload_n 0, 1, pI 0), (.getfield 41, 3, pR 64 14), (.iload_n 1, 1, pI 0), (.iaload, 1, pI 0), (.iadd, 1, pI 0)] 29 _ (by decide +kernel) ?_
        refine (And.intro rfl (And.intro rfl (And.intro rfl (And.intro rfl (And.intro c4 ?_)))))
        show zG w f 2 38 ([some (pR 64 0), some (pI a1)], [pI (100 + (m.1 72 0 (ix a1)))], (n, m))
        refine zgoto (tgt := 47) (pc := 38) hF (by decide +kernel) ?_
        exact zretI (pc := 47) hF hR (by decide +kernel) rfl (Option.some.inj h) rfl
      · replace h := zif b6 h
        refine zrun hF [(.aload_n 0, 1, pI 0), (.getfield 47, 3, pR 64 16), (.iload_n 1, 1, pI 0), (.iaload, 1, pI 0)] 41 _ (by decide +kernel) ?_
        refine (And.intro rfl (And.intro rfl (And.intro rfl (And.intro rfl (And.intro c4 ?_)))))
        show zG w f 2 47 ([some (pR 64 0), some (pI a1)], [pI (m.1 74 0 (ix a1))], (n, m))
        exact zretI (pc := 47) hF hR (by decide +kernel) rfl (Option.some.inj h) rfl

set_option maxHeartbeats 4000000 in
set_option maxRecDepth 100000 in
theorem m_X6_isKind {w : zWd} {lc : Launch} {M : zWM} {a1 : Int32} {x : Int32}  (h : s_X6_isKind a1 = some x) : zMet w lc 1 yX6_isKind cX6_isKind 1 (some .boolean) [pI a1] M (zQI w x M) := by
  refine zmet (o := 6) (by decide +kernel) rfl (Nat.le_of_ble_eq_true rfl) rfl (fun f hl hF hR => ?_)
  unfold s_X6_isKind at h
  show zG w f 1 0 ([some (pI a1)], [], M)
  refine zrun hF [(.iload_n 0, 1, pI 0)] 0 _ (by decide +kernel) ?_
  show zG w f 1 1 ([some (pI a1)], [pI a1], M)
  refine zif_lt (tgt := 14) (pc := 1) hF (by decide +kernel) (fun b1 => ?_) (fun b1 => ?_)
  · replace h := zit b1 h
    refine zrun hF [(.iconst 0, 1, pI 0)] 14 _ (by decide +kernel) ?_
    show zG w f 1 15 ([some (pI a1)], [pI 0], M)
    exact zretI (pc := 15) hF hR (by decide +kernel) (by decide +kernel) (Option.some.inj h) rfl
  · replace h := zif b1 h
    refine zrun hF [(.iload_n 0, 1, pI 0), (.bipush 7, 2, pI 7)] 4 _ (by decide +kernel) ?_
    show zG w f 1 7 ([some (pI a1)], [pI 7, pI a1], M)
    refine zicmp_ge (tgt := 14) (pc := 7) hF (by decide +kernel) (fun b2 => ?_) (fun b2 => ?_)
    · replace h := zit b2 h
      refine zrun hF [(.iconst 0, 1, pI 0)] 14 _ (by decide +kernel) ?_
      show zG w f 1 15 ([some (pI a1)], [pI 0], M)
      exact zretI (pc := 15) hF hR (by decide +kernel) (by decide +kernel) (Option.some.inj h) rfl
    · replace h := zif b2 h
      refine zrun hF [(.iconst 1, 1, pI 1)] 10 _ (by decide +kernel) ?_
      show zG w f 1 11 ([some (pI a1)], [pI 1], M)
      refine zgoto (tgt := 15) (pc := 11) hF (by decide +kernel) ?_
      exact zretI (pc := 15) hF hR (by decide +kernel) (by decide +kernel) (Option.some.inj h) rfl

set_option maxHeartbeats 4000000 in
set_option maxRecDepth 100000 in
theorem m_X5_isOf {w : zWd} {lc : Launch} {n : zMem} {t : Nat} {a1 : Int32} {a2 : Int32} {m : zMem} {x : Int32} (ht : Nat.blt t 3 = true) (h : s_X5_isOf t a1 a2 m = some x) : zMet w lc 1 yX5_isOf cX5_isOf 3 (some .boolean) [pR 1 t, pI a1, pI a2] (m, n) (zQI w x (m, n)) := by
  refine zmet (o := 5) (by decide +kernel) rfl (Nat.le_of_ble_eq_true rfl) rfl (fun f hl hF hR => ?_)
  unfold s_X5_isOf at h
  show zG w f 3 0 ([some (pR 1 t), some (pI a1), some (pI a2)], [], (m, n))
  obtain ⟨c1, h⟩ := zchk h
  obtain ⟨c2, h⟩ := zchk h
  refine zrun hF [(.getstatic 52, 3, pI 0), (.aload_n 0, 1, pI 0), (.getfield 9, 3, pR 1 0), (.iload_n 1, 1, pI 0), (.iaload, 1, pI 0), (.iaload, 1, pI 0), (.iload_n 2, 1, pI 0), (.ishr, 1, pI 0), (.iconst 1, 1, pI 1), (.iand, 1, pI 0)] 0 _ (by decide +kernel) ?_
  refine (And.intro rfl (And.intro ht (And.intro rfl (And.intro ht (And.intro c1 (And.intro rfl (And.intro c2 ?_)))))))
  show zG w f 3 14 ([some (pR 1 t), some (pI a1), some (pI a2)], [pI ((jshr (zLN.getD (ix (m.1 2 t (ix a1))) 0) a2) &&& 1)], (m, n))
  refine zif_eq (tgt := 21) (pc := 14) hF (by decide +kernel) (fun b3 => ?_) (fun b3 => ?_)
  · replace h := zit b3 h
    refine zrun hF [(.iconst 0, 1, pI 0)] 21 _ (by decide +kernel) ?_
    show zG w f 3 22 ([some (pR 1 t), some (pI a1), some (pI a2)], [pI 0], (m, n))
    exact zretI (pc := 22) hF hR (by decide +kernel) (by decide +kernel) (Option.some.inj h) rfl
  · replace h := zif b3 h
    refine zrun hF [(.iconst 1, 1, pI 1)] 17 _ (by decide +kernel) ?_
    show zG w f 3 18 ([some (pR 1 t), some (pI a1), some (pI a2)], [pI 1], (m, n))
    refine zgoto (tgt := 22) (pc := 18) hF (by decide +kernel) ?_
    exact zretI (pc := 22) hF hR (by decide +kernel) (by decide +kernel) (Option.some.inj h) rfl

set_option maxHeartbeats 4000000 in
set_option maxRecDepth 100000 in
theorem m_X5_distance_L24 {w : zWd} {f : zFr} {n : zMem} {x : Int32} {lc : Launch} {mr : zMem} (hl : f.2.1 = lc) (hF : zFOK w f 5 cX5_distance 5 1) (hR : zFin w f (some .int) (zQI w x (mr, n))) : ∀ (x0 : Nat) (y0 : Int32) (m : zMem), Nat.blt x0 3 = true → m = mr → s_X5_distance_L24 x0 y0 m = some x → zG w f 5 24 ([some (pR 1 x0), none, none, none, none], [pI y0], (m, n)) := by
  intro x0 y0 m hx0 hm h
  unfold s_X5_distance_L24 at h
  refine zrun hF [(.istore 4, 2, pI 0), (.iconst 2, 1, pI 2), (.iload 4, 2, pI 0), (.imul, 1, pI 0), (.aload_n 0, 1, pI 0), (.getfield 27, 3, pR 1 5)] 24 _ (by decide +kernel) ?_
  refine (And.intro rfl (And.intro rfl (And.intro hx0 ?_)))
  show zG w f 5 34 ([some (pR 1 x0), none, none, none, some (pI y0)], [pI (m.1 1 x0 5), pI (2 * y0)], (m, n))
  refine zicmp_gt (tgt := 42) (pc := 34) hF (by decide +kernel) (fun b5 => ?_) (fun b5 => ?_)
  · replace h := zit b5 h
    refine zrun hF [(.aload_n 0, 1, pI 0), (.getfield 27, 3, pR 1 5), (.iload 4, 2, pI 0), (.isub, 1, pI 0)] 42 _ (by decide +kernel) ?_
    refine (And.intro rfl (And.intro hx0 ?_))
    show zG w f 5 49 ([some (pR 1 x0), none, none, none, some (pI y0)], [pI ((m.1 1 x0 5) - y0)], (m, n))
    exact zretI (pc := 49) hF hR (by decide +kernel) rfl (Option.some.inj h) (congrArg (fun q => (q, n)) hm)
  · replace h := zif b5 h
    refine zrun hF [(.iload 4, 2, pI 0)] 37 _ (by decide +kernel) ?_
    show zG w f 5 39 ([some (pR 1 x0), none, none, none, some (pI y0)], [pI y0], (m, n))
    refine zgoto (tgt := 49) (pc := 39) hF (by decide +kernel) ?_
    exact zretI (pc := 49) hF hR (by decide +kernel) rfl (Option.some.inj h) (congrArg (fun q => (q, n)) hm)

set_option maxHeartbeats 4000000 in
set_option maxRecDepth 100000 in
theorem m_X5_distance {w : zWd} {lc : Launch} {n : zMem} {t : Nat} {a1 : Int32} {a2 : Int32} {m : zMem} {x : Int32} (ht : Nat.blt t 3 = true) (h : s_X5_distance t a1 a2 m = some x) : zMet w lc 1 yX5_distance cX5_distance 5 (some .int) [pR 1 t, pI a1, pI a2] (m, n) (zQI w x (m, n)) := by
  refine zmet (o := 5) (by decide +kernel) rfl (Nat.le_of_ble_eq_true rfl) rfl (fun f hl hF hR => ?_)
  unfold s_X5_distance at h
  show zG w f 5 0 ([some (pR 1 t), some (pI a1), some (pI a2), none, none], [], (m, n))
  obtain ⟨c1, h⟩ := zchk h
  obtain ⟨c2, h⟩ := zchk h
  refine zrun hF [(.aload_n 0, 1, pI 0), (.getfield 15, 3, pR 1 1), (.iload_n 1, 1, pI 0), (.iaload, 1, pI 0), (.aload_n 0, 1, pI 0), (.getfield 15, 3, pR 1 1), (.iload_n 2, 1, pI 0), (.iaload, 1, pI 0), (.isub, 1, pI 0), (.istore_n 3, 1, pI 0)] 0 _ (by decide +kernel) ?_
  refine (And.intro rfl (And.intro ht (And.intro rfl (And.intro ht (And.intro c1 (And.intro rfl (And.intro ht (And.intro rfl (And.intro ht (And.intro c2 (And.intro rfl ?_)))))))))))
  refine zlet_k (P := fun (v3 : Int32) => zG w f 5 14 ([some (pR 1 t), some (pI a1), some (pI a2), some (pI v3), none], [], (m, n))) h (fun v3 h => ?_)
  refine zrun hF [(.iload_n 3, 1, pI 0)] 14 _ (by decide +kernel) ?_
  show zG w f 5 15 ([some (pR 1 t), some (pI a1), some (pI a2), some (pI v3), none], [pI v3], (m, n))
  refine zif_ge (tgt := 23) (pc := 15) hF (by decide +kernel) (fun b4 => ?_) (fun b4 => ?_)
  · replace h := zit b4 h
    refine zrun hF [(.iload_n 3, 1, pI 0)] 23 _ (by decide +kernel) ?_
    show zG w f 5 24 ([some (pR 1 t), some (pI a1), some (pI a2), some (pI v3), none], [pI v3], (m, n))
    refine zcut [true, false, false, false, true] ?_
    exact m_X5_distance_L24 hl hF hR  _ _ _ ht rfl h
  · replace h := zif b4 h
    refine zrun hF [(.iload_n 3, 1, pI 0), (.ineg, 1, pI 0)] 18 _ (by decide +kernel) ?_
    show zG w f 5 20 ([some (pR 1 t), some (pI a1), some (pI a2), some (pI v3), none], [pI (-v3)], (m, n))
    refine zgoto (tgt := 24) (pc := 20) hF (by decide +kernel) ?_
    refine zcut [true, false, false, false, true] ?_
    exact m_X5_distance_L24 hl hF hR  _ _ _ ht rfl h

set_option maxHeartbeats 4000000 in
set_option maxRecDepth 100000 in
theorem m_X5_mayClink_L106 {w : zWd} {f : zFr} {n : zMem} {x : Int32} {lc : Launch} {mr : zMem} (hl : f.2.1 = lc) (hF : zFOK w f 5 cX5_mayClink 4 2) (hR : zFin w f (some .boolean) (zQI w x (mr, n))) : ∀ (m : zMem), m = mr → s_X5_mayClink_L106 m = some x → zG w f 4 106 ([none, none, none, none], [], (m, n)) := by
  intro m hm h
  unfold s_X5_mayClink_L106 at h
  refine zrun hF [(.iconst 1, 1, pI 1)] 106 _ (by decide +kernel) ?_
  show zG w f 4 107 ([none, none, none, none], [pI 1], (m, n))
  refine zgoto (tgt := 111) (pc := 107) hF (by decide +kernel) ?_
  exact zretI (pc := 111) hF hR (by decide +kernel) (by decide +kernel) (Option.some.inj h) (congrArg (fun q => (q, n)) hm)

set_option maxHeartbeats 4000000 in
set_option maxRecDepth 100000 in
theorem m_X5_mayClink_L85 {w : zWd} {f : zFr} {n : zMem} {x : Int32} {lc : Launch} {mr : zMem} (hl : f.2.1 = lc) (hF : zFOK w f 5 cX5_mayClink 4 2) (hR : zFin w f (some .boolean) (zQI w x (mr, n))) : ∀ (x0 : Nat) (x2 : Int32) (x3 : Int32) (m : zMem), Nat.blt x0 3 = true → m = mr → s_X5_mayClink_L85 x0 x2 x3 m = some x → zG w f 4 85 ([some (pR 1 x0), none, some (pI x2), some (pI x3)], [], (m, n)) := by
  intro x0 x2 x3 m hx0 hm h
  unfold s_X5_mayClink_L85 at h
  refine zrun hF [(.aload_n 0, 1, pI 0), (.iload_n 2, 1, pI 0), (.iconst 1, 1, pI 1)] 85 _ (by decide +kernel) ?_
  show zG w f 4 88 ([some (pR 1 x0), none, some (pI x2), some (pI x3)], [pI 1, pI x2, pR 1 x0], (m, n))
  obtain ⟨r23, q22, h⟩ := zr_k h
  refine zcallVI (pc := 88) (As := [pI x2, pI 1]) (st := []) (c := 1) (j := x0) hF (m_X5_isOf hx0 q22) w_X5_isOf k_5_70 (by decide +kernel) rfl hx0 rfl rfl rfl rfl rfl ?_
  refine zif_eq (tgt := 106) (pc := 91) hF (by decide +kernel) (fun b24 => ?_) (fun b24 => ?_)
  · replace h := zit b24 h
    refine zcut [false, true, false, false] ?_
    exact m_X5_mayClink_L106 hl hF hR  _  hm h
  · replace h := zif b24 h
    obtain ⟨c25, h⟩ := zchk h
    refine zrun hF [(.iload_n 3, 1, pI 0), (.aload_n 0, 1, pI 0), (.getfield 18, 3, pR 1 2), (.iload_n 2, 1, pI 0), (.iaload, 1, pI 0), (.iconst 1, 1, pI 1), (.iadd, 1, pI 0)] 94 _ (by decide +kernel) ?_
    refine (And.intro rfl (And.intro hx0 (And.intro rfl (And.intro hx0 (And.intro c25 ?_)))))
    show zG w f 4 103 ([some (pR 1 x0), none, some (pI x2), some (pI x3)], [pI ((m.1 4 x0 (ix x2)) + 1), pI x3], (m, n))
    refine zicmp_gt (tgt := 110) (pc := 103) hF (by decide +kernel) (fun b26 => ?_) (fun b26 => ?_)
    · replace h := zit b26 h
      refine zrun hF [(.iconst 0, 1, pI 0)] 110 _ (by decide +kernel) ?_
      show zG w f 4 111 ([some (pR 1 x0), none, some (pI x2), some (pI x3)], [pI 0], (m, n))
      exact zretI (pc := 111) hF hR (by decide +kernel) (by decide +kernel) (Option.some.inj h) (congrArg (fun q => (q, n)) hm)
    · replace h := zif b26 h
      refine zcut [false, true, false, false] ?_
      exact m_X5_mayClink_L106 hl hF hR  _  hm h

set_option maxHeartbeats 4000000 in
set_option maxRecDepth 100000 in
theorem m_X5_mayClink_L55 {w : zWd} {f : zFr} {n : zMem} {x : Int32} {lc : Launch} {mr : zMem} (hl : f.2.1 = lc) (hF : zFOK w f 5 cX5_mayClink 4 2) (hR : zFin w f (some .boolean) (zQI w x (mr, n))) : ∀ (x0 : Nat) (x1 : Int32) (x2 : Int32) (m : zMem), Nat.blt x0 3 = true → m = mr → s_X5_mayClink_L55 x0 x1 x2 m = some x → zG w f 4 55 ([some (pR 1 x0), some (pI x1), some (pI x2), none], [], (m, n)) := by
  intro x0 x1 x2 m hx0 hm h
  unfold s_X5_mayClink_L55 at h
  refine zrun hF [(.aload_n 0, 1, pI 0), (.iload_n 1, 1, pI 0), (.iload_n 2, 1, pI 0)] 55 _ (by decide +kernel) ?_
  show zG w f 4 58 ([some (pR 1 x0), some (pI x1), some (pI x2), none], [pI x2, pI x1, pR 1 x0], (m, n))
  obtain ⟨r16, q15, h⟩ := zr_k h
  refine zcallVI (pc := 58) (As := [pI x1, pI x2]) (st := []) (c := 1) (j := x0) hF (m_X5_distance hx0 q15) w_X5_distance k_5_74 (by decide +kernel) rfl hx0 rfl rfl rfl rfl rfl ?_
  refine zrun hF [(.istore_n 3, 1, pI 0), (.aload_n 0, 1, pI 0), (.iload_n 1, 1, pI 0), (.iconst 1, 1, pI 1)] 61 _ (by decide +kernel) ?_
  refine (And.intro rfl ?_)
  show zG w f 4 65 ([some (pR 1 x0), some (pI x1), some (pI x2), some (pI r16)], [pI 1, pI x1, pR 1 x0], (m, n))
  obtain ⟨r18, q17, h⟩ := zr_k h
  refine zcallVI (pc := 65) (As := [pI x1, pI 1]) (st := []) (c := 1) (j := x0) hF (m_X5_isOf hx0 q17) w_X5_isOf k_5_70 (by decide +kernel) rfl hx0 rfl rfl rfl rfl rfl ?_
  refine zif_eq (tgt := 85) (pc := 68) hF (by decide +kernel) (fun b19 => ?_) (fun b19 => ?_)
  · replace h := zit b19 h
    refine zcut [true, false, true, true] ?_
    exact m_X5_mayClink_L85 hl hF hR  _ _ _ _ hx0 hm h
  · replace h := zif b19 h
    obtain ⟨c20, h⟩ := zchk h
    refine zrun hF [(.iload_n 3, 1, pI 0), (.aload_n 0, 1, pI 0), (.getfield 18, 3, pR 1 2), (.iload_n 1, 1, pI 0), (.iaload, 1, pI 0), (.iconst 1, 1, pI 1), (.iadd, 1, pI 0)] 71 _ (by decide +kernel) ?_
    refine (And.intro rfl (And.intro hx0 (And.intro rfl (And.intro hx0 (And.intro c20 ?_)))))
    show zG w f 4 80 ([some (pR 1 x0), some (pI x1), some (pI x2), some (pI r16)], [pI ((m.1 4 x0 (ix x1)) + 1), pI r16], (m, n))
    refine zicmp_le (tgt := 85) (pc := 80) hF (by decide +kernel) (fun b21 => ?_) (fun b21 => ?_)
    · replace h := zit b21 h
      refine zcut [true, false, true, true] ?_
      exact m_X5_mayClink_L85 hl hF hR  _ _ _ _ hx0 hm h
    · replace h := zif b21 h
      refine zrun hF [(.iconst 0, 1, pI 0)] 83 _ (by decide +kernel) ?_
      show zG w f 4 84 ([some (pR 1 x0), some (pI x1), some (pI x2), some (pI r16)], [pI 0], (m, n))
      exact zretI (pc := 84) hF hR (by decide +kernel) (by decide +kernel) (Option.some.inj h) (congrArg (fun q => (q, n)) hm)

set_option maxHeartbeats 4000000 in
set_option maxRecDepth 100000 in
theorem m_X5_mayClink {w : zWd} {lc : Launch} {n : zMem} {t : Nat} {a1 : Int32} {a2 : Int32} {m : zMem} {x : Int32} (ht : Nat.blt t 3 = true) (h : s_X5_mayClink t a1 a2 m = some x) : zMet w lc 2 yX5_mayClink cX5_mayClink 4 (some .boolean) [pR 1 t, pI a1, pI a2] (m, n) (zQI w x (m, n)) := by
  refine zmet (o := 5) (by decide +kernel) rfl (Nat.le_of_ble_eq_true rfl) rfl (fun f hl hF hR => ?_)
  unfold s_X5_mayClink at h
  show zG w f 4 0 ([some (pR 1 t), some (pI a1), some (pI a2), none], [], (m, n))
  obtain ⟨c1, h⟩ := zchk h
  refine zrun hF [(.aload_n 0, 1, pI 0), (.getfield 21, 3, pR 1 3), (.iload_n 1, 1, pI 0), (.iaload, 1, pI 0), (.iload_n 2, 1, pI 0), (.ishr, 1, pI 0), (.iconst 1, 1, pI 1), (.iand, 1, pI 0)] 0 _ (by decide +kernel) ?_
  refine (And.intro rfl (And.intro ht (And.intro rfl (And.intro ht (And.intro c1 ?_)))))
  show zG w f 4 10 ([some (pR 1 t), some (pI a1), some (pI a2), none], [pI ((jshr (m.1 5 t (ix a1)) a2) &&& 1)], (m, n))
  refine zif_eq (tgt := 15) (pc := 10) hF (by decide +kernel) (fun b2 => ?_) (fun b2 => ?_)
  · replace h := zit b2 h
    refine zrun hF [(.aload_n 0, 1, pI 0), (.iload_n 1, 1, pI 0), (.iconst 5, 1, pI 5)] 15 _ (by decide +kernel) ?_
    show zG w f 4 18 ([some (pR 1 t), some (pI a1), some (pI a2), none], [pI 5, pI a1, pR 1 t], (m, n))
    obtain ⟨r4, q3, h⟩ := zr_k h
    refine zcallVI (pc := 18) (As := [pI a1, pI 5]) (st := []) (c := 1) (j := t) hF (m_X5_isOf ht q3) w_X5_isOf k_5_70 (by decide +kernel) rfl ht rfl rfl rfl rfl rfl ?_
    refine zif_ne (tgt := 33) (pc := 21) hF (by decide +kernel) (fun b5 => ?_) (fun b5 => ?_)
    · replace h := zit b5 h
      refine zrun hF [(.aload_n 0, 1, pI 0), (.iload_n 2, 1, pI 0), (.iconst 5, 1, pI 5)] 24 _ (by decide +kernel) ?_
      show zG w f 4 27 ([some (pR 1 t), some (pI a1), some (pI a2), none], [pI 5, pI a2, pR 1 t], (m, n))
      obtain ⟨r7, q6, h⟩ := zr_k h
      refine zcallVI (pc := 27) (As := [pI a2, pI 5]) (st := []) (c := 1) (j := t) hF (m_X5_isOf ht q6) w_X5_isOf k_5_70 (by decide +kernel) rfl ht rfl rfl rfl rfl rfl ?_
      refine zif_eq (tgt := 35) (pc := 30) hF (by decide +kernel) (fun b8 => ?_) (fun b8 => ?_)
      · replace h := zit b8 h
        refine zrun hF [(.aload_n 0, 1, pI 0), (.iload_n 1, 1, pI 0), (.iconst 3, 1, pI 3)] 35 _ (by decide +kernel) ?_
        show zG w f 4 38 ([some (pR 1 t), some (pI a1), some (pI a2), none], [pI 3, pI a1, pR 1 t], (m, n))
        obtain ⟨r10, q9, h⟩ := zr_k h
        refine zcallVI (pc := 38) (As := [pI a1, pI 3]) (st := []) (c := 1) (j := t) hF (m_X5_isOf ht q9) w_X5_isOf k_5_70 (by decide +kernel) rfl ht rfl rfl rfl rfl rfl ?_
        refine zif_eq (tgt := 55) (pc := 41) hF (by decide +kernel) (fun b11 => ?_) (fun b11 => ?_)
        · replace h := zit b11 h
          exact m_X5_mayClink_L55 hl hF hR  _ _ _ _ ht rfl h
        · replace h := zif b11 h
          refine zrun hF [(.aload_n 0, 1, pI 0), (.iload_n 2, 1, pI 0), (.iconst 3, 1, pI 3)] 44 _ (by decide +kernel) ?_
          show zG w f 4 47 ([some (pR 1 t), some (pI a1), some (pI a2), none], [pI 3, pI a2, pR 1 t], (m, n))
          obtain ⟨r13, q12, h⟩ := zr_k h
          refine zcallVI (pc := 47) (As := [pI a2, pI 3]) (st := []) (c := 1) (j := t) hF (m_X5_isOf ht q12) w_X5_isOf k_5_70 (by decide +kernel) rfl ht rfl rfl rfl rfl rfl ?_
          refine zif_eq (tgt := 55) (pc := 50) hF (by decide +kernel) (fun b14 => ?_) (fun b14 => ?_)
          · replace h := zit b14 h
            exact m_X5_mayClink_L55 hl hF hR  _ _ _ _ ht rfl h
          · replace h := zif b14 h
            refine zrun hF [(.iconst 0, 1, pI 0)] 53 _ (by decide +kernel) ?_
            show zG w f 4 54 ([some (pR 1 t), some (pI a1), some (pI a2), none], [pI 0], (m, n))
            exact zretI (pc := 54) hF hR (by decide +kernel) (by decide +kernel) (Option.some.inj h) rfl
      · replace h := zif b8 h
        refine zrun hF [(.iconst 0, 1, pI 0)] 33 _ (by decide +kernel) ?_
        show zG w f 4 34 ([some (pR 1 t), some (pI a1), some (pI a2), none], [pI 0], (m, n))
        exact zretI (pc := 34) hF hR (by decide +kernel) (by decide +kernel) (Option.some.inj h) rfl
    · replace h := zif b5 h
      refine zrun hF [(.iconst 0, 1, pI 0)] 33 _ (by decide +kernel) ?_
      show zG w f 4 34 ([some (pR 1 t), some (pI a1), some (pI a2), none], [pI 0], (m, n))
      exact zretI (pc := 34) hF hR (by decide +kernel) (by decide +kernel) (Option.some.inj h) rfl
  · replace h := zif b2 h
    refine zrun hF [(.iconst 0, 1, pI 0)] 13 _ (by decide +kernel) ?_
    show zG w f 4 14 ([some (pR 1 t), some (pI a1), some (pI a2), none], [pI 0], (m, n))
    exact zretI (pc := 14) hF hR (by decide +kernel) (by decide +kernel) (Option.some.inj h) rfl

