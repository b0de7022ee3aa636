set_option maxHeartbeats 4000000 in
set_option maxRecDepth 100000 in
theorem m_X6_guestOf {w : zWd} {lc : Launch} {n : zMem} {a1 : Int32} {a2 : Int32} {m : zMem} {x : Int32} {m0 : zMem}  (h : s_X6_guestOf a1 a2 m = some (x, m0)) : zMet w lc 5 yX6_guestOf cX6_guestOf 3 (some .int) [pR 0 0, pI a1, pI a2] (m, n) (zQI w x (m0, n)) := by
  refine zmet (o := 6) (by decide +kernel) rfl (Nat.le_of_ble_eq_true rfl) rfl (fun f hl hF hR => ?_)
  unfold s_X6_guestOf at h
  show zG w f 3 0 ([some (pR 0 0), some (pI a1), some (pI a2)], [], (m, n))
  refine zrun hF [(.aload_n 0, 1, pI 0), (.getfield 10, 3, pR 0 0), (.iload_n 1, 1, pI 0)] 0 _ (by decide +kernel) ?_
  refine (And.intro rfl (And.intro rfl ?_))
  show zG w f 3 5 ([some (pR 0 0), some (pI a1), some (pI a2)], [pI a1, pR 1 0], (m, n))
  obtain ⟨r2, q1, h⟩ := zr_k h
  refine zcallVI (pc := 5) (As := [pI a1]) (st := []) (c := 1) (j := 0) hF (m_X5_exists rfl q1) w_X5_exists k_6_119 (by decide +kernel) rfl rfl rfl rfl rfl rfl rfl ?_
  refine zif_ne (tgt := 18) (pc := 8) hF (by decide +kernel) (fun b3 => ?_) (fun b3 => ?_)
  · replace h := zit b3 h
    refine zrun hF [(.aload_n 0, 1, pI 0), (.bipush (-5), 2, pI (-5))] 11 _ (by decide +kernel) ?_
    show zG w f 3 14 ([some (pR 0 0), some (pI a1), some (pI a2)], [pI (-5), pR 0 0], (m, n))
    obtain ⟨r5, m6, q4, h⟩ := zb_k h
    refine zcallVI (pc := 14) (As := [pI (-5)]) (st := []) (c := 0) (j := 0) hF (m_X6_refuse  q4) w_X6_refuse k_6_73 (by decide +kernel) rfl rfl rfl rfl rfl rfl rfl ?_
    exact zretI (pc := 17) hF hR (by decide +kernel) rfl (congrArg Prod.fst (Option.some.inj h)) (congrArg (fun (q : Int32 × zMem) => (q.2, n)) (Option.some.inj h))
  · replace h := zif b3 h
    refine zrun hF [(.iload_n 2, 1, pI 0)] 18 _ (by decide +kernel) ?_
    show zG w f 3 19 ([some (pR 0 0), some (pI a1), some (pI a2)], [pI a2], (m, n))
    refine zswitch (pc := 19) [(0, 56), (1, 66), (2, 76), (3, 86), (4, 96), (5, 106)] 115 hF (by decide +kernel) ?_
    refine And.intro (fun b7 => ?_) (fun b7 => ?_)
    · replace h := zit b7 h
      obtain ⟨c8, h⟩ := zchk h
      refine zrun hF [(.aload_n 0, 1, pI 0), (.getfield 10, 3, pR 0 0), (.getfield 151, 3, pR 1 0), (.iload_n 1, 1, pI 0), (.iaload, 1, pI 0)] 56 _ (by decide +kernel) ?_
      refine (And.intro rfl (And.intro rfl (And.intro rfl (And.intro rfl (And.intro rfl (And.intro rfl (And.intro c8 ?_)))))))
      show zG w f 3 65 ([some (pR 0 0), some (pI a1), some (pI a2)], [pI (m.1 2 0 (ix a1))], (m, n))
      exact zretI (pc := 65) hF hR (by decide +kernel) rfl (congrArg Prod.fst (Option.some.inj h)) (congrArg (fun (q : Int32 × zMem) => (q.2, n)) (Option.some.inj h))
    · replace h := zif b7 h
      refine And.intro (fun b9 => ?_) (fun b9 => ?_)
      · replace h := zit b9 h
        obtain ⟨c10, h⟩ := zchk h
        refine zrun hF [(.aload_n 0, 1, pI 0), (.getfield 10, 3, pR 0 0), (.getfield 154, 3, pR 1 1), (.iload_n 1, 1, pI 0), (.iaload, 1, pI 0)] 66 _ (by decide +kernel) ?_
        refine (And.intro rfl (And.intro rfl (And.intro rfl (And.intro rfl (And.intro rfl (And.intro rfl (And.intro c10 ?_)))))))
        show zG w f 3 75 ([some (pR 0 0), some (pI a1), some (pI a2)], [pI (m.1 3 0 (ix a1))], (m, n))
        exact zretI (pc := 75) hF hR (by decide +kernel) rfl (congrArg Prod.fst (Option.some.inj h)) (congrArg (fun (q : Int32 × zMem) => (q.2, n)) (Option.some.inj h))
      · replace h := zif b9 h
        refine And.intro (fun b11 => ?_) (fun b11 => ?_)
        · replace h := zit b11 h
          obtain ⟨c12, h⟩ := zchk h
          refine zrun hF [(.aload_n 0, 1, pI 0), (.getfield 10, 3, pR 0 0), (.getfield 157, 3, pR 1 2), (.iload_n 1, 1, pI 0), (.iaload, 1, pI 0)] 76 _ (by decide +kernel) ?_
          refine (And.intro rfl (And.intro rfl (And.intro rfl (And.intro rfl (And.intro rfl (And.intro rfl (And.intro c12 ?_)))))))
          show zG w f 3 85 ([some (pR 0 0), some (pI a1), some (pI a2)], [pI (m.1 4 0 (ix a1))], (m, n))
          exact zretI (pc := 85) hF hR (by decide +kernel) rfl (congrArg Prod.fst (Option.some.inj h)) (congrArg (fun (q : Int32 × zMem) => (q.2, n)) (Option.some.inj h))
        · replace h := zif b11 h
          refine And.intro (fun b13 => ?_) (fun b13 => ?_)
          · replace h := zit b13 h
            obtain ⟨c14, h⟩ := zchk h
            refine zrun hF [(.aload_n 0, 1, pI 0), (.getfield 10, 3, pR 0 0), (.getfield 160, 3, pR 1 4), (.iload_n 1, 1, pI 0), (.iaload, 1, pI 0)] 86 _ (by decide +kernel) ?_
            refine (And.intro rfl (And.intro rfl (And.intro rfl (And.intro rfl (And.intro rfl (And.intro rfl (And.intro c14 ?_)))))))
            show zG w f 3 95 ([some (pR 0 0), some (pI a1), some (pI a2)], [pI (m.1 6 0 (ix a1))], (m, n))
            exact zretI (pc := 95) hF hR (by decide +kernel) rfl (congrArg Prod.fst (Option.some.inj h)) (congrArg (fun (q : Int32 × zMem) => (q.2, n)) (Option.some.inj h))
          · replace h := zif b13 h
            refine And.intro (fun b15 => ?_) (fun b15 => ?_)
            · replace h := zit b15 h
              obtain ⟨c16, h⟩ := zchk h
              refine zrun hF [(.aload_n 0, 1, pI 0), (.getfield 10, 3, pR 0 0), (.getfield 163, 3, pR 1 3), (.iload_n 1, 1, pI 0), (.iaload, 1, pI 0)] 96 _ (by decide +kernel) ?_
              refine (And.intro rfl (And.intro rfl (And.intro rfl (And.intro rfl (And.intro rfl (And.intro rfl (And.intro c16 ?_)))))))
              show zG w f 3 105 ([some (pR 0 0), some (pI a1), some (pI a2)], [pI (m.1 5 0 (ix a1))], (m, n))
              exact zretI (pc := 105) hF hR (by decide +kernel) rfl (congrArg Prod.fst (Option.some.inj h)) (congrArg (fun (q : Int32 × zMem) => (q.2, n)) (Option.some.inj h))
            · replace h := zif b15 h
              refine And.intro (fun b17 => ?_) (fun b17 => ?_)
              · replace h := zit b17 h
                refine zrun hF [(.aload_n 0, 1, pI 0), (.getfield 10, 3, pR 0 0), (.iload_n 1, 1, pI 0)] 106 _ (by decide +kernel) ?_
                refine (And.intro rfl (And.intro rfl ?_))
                show zG w f 3 111 ([some (pR 0 0), some (pI a1), some (pI a2)], [pI a1, pR 1 0], (m, n))
                obtain ⟨r19, q18, h⟩ := zr_k h
                refine zcallVI (pc := 111) (As := [pI a1]) (st := []) (c := 1) (j := 0) hF (m_X5_lacksOf rfl q18) w_X5_lacksOf k_6_166 (by decide +kernel) rfl rfl rfl rfl rfl rfl rfl ?_
                exact zretI (pc := 114) hF hR (by decide +kernel) rfl (congrArg Prod.fst (Option.some.inj h)) (congrArg (fun (q : Int32 × zMem) => (q.2, n)) (Option.some.inj h))
              · replace h := zif b17 h
                refine zrun hF [(.aload_n 0, 1, pI 0), (.bipush (-5), 2, pI (-5))] 115 _ (by decide +kernel) ?_
                show zG w f 3 118 ([some (pR 0 0), some (pI a1), some (pI a2)], [pI (-5), pR 0 0], (m, n))
                obtain ⟨r21, m22, q20, h⟩ := zb_k h
                refine zcallVI (pc := 118) (As := [pI (-5)]) (st := []) (c := 0) (j := 0) hF (m_X6_refuse  q20) w_X6_refuse k_6_73 (by decide +kernel) rfl rfl rfl rfl rfl rfl rfl ?_
                exact zretI (pc := 121) hF hR (by decide +kernel) rfl (congrArg Prod.fst (Option.some.inj h)) (congrArg (fun (q : Int32 × zMem) => (q.2, n)) (Option.some.inj h))

set_option maxHeartbeats 4000000 in
set_option maxRecDepth 100000 in
theorem m_X7_guestOf {w : zWd} {lc : Launch} {n : zMem} {a1 : Int32} {a2 : Int32} {m : zMem} {x : Int32} {m0 : zMem}  (h : s_X7_guestOf a1 a2 m = some (x, m0)) : zMet w lc 5 yX7_guestOf cX7_guestOf 3 (some .int) [pR 64 0, pI a1, pI a2] (n, m) (zQI w x (n, m0)) := by
  refine zmet (o := 7) (by decide +kernel) rfl (Nat.le_of_ble_eq_true rfl) rfl (fun f hl hF hR => ?_)
  unfold s_X7_guestOf at h
  show zG w f 3 0 ([some (pR 64 0), some (pI a1), some (pI a2)], [], (n, m))
  refine zrun hF [(.aload_n 0, 1, pI 0), (.iload_n 1, 1, pI 0)] 0 _ (by decide +kernel) ?_
  show zG w f 3 2 ([some (pR 64 0), some (pI a1), some (pI a2)], [pI a1, pR 64 0], (n, m))
  obtain ⟨r2, q1, h⟩ := zr_k h
  refine zcallVI (pc := 2) (As := [pI a1]) (st := []) (c := 64) (j := 0) hF (m_X7_isGuest  q1) w_X7_isGuest k_7_104 (by decide +kernel) rfl rfl rfl rfl rfl rfl rfl ?_
  refine zif_ne (tgt := 15) (pc := 5) hF (by decide +kernel) (fun b3 => ?_) (fun b3 => ?_)
  · replace h := zit b3 h
    refine zrun hF [(.aload_n 0, 1, pI 0), (.bipush (-5), 2, pI (-5))] 8 _ (by decide +kernel) ?_
    show zG w f 3 11 ([some (pR 64 0), some (pI a1), some (pI a2)], [pI (-5), pR 64 0], (n, m))
    obtain ⟨r5, m6, q4, h⟩ := zb_k h
    refine zcallVI (pc := 11) (As := [pI (-5)]) (st := []) (c := 64) (j := 0) hF (m_X7_no  q4) w_X7_no k_7_100 (by decide +kernel) rfl rfl rfl rfl rfl rfl rfl ?_
    exact zretI (pc := 14) hF hR (by decide +kernel) rfl (congrArg Prod.fst (Option.some.inj h)) (congrArg (fun (q : Int32 × zMem) => (n, q.2)) (Option.some.inj h))
  · replace h := zif b3 h
    refine zrun hF [(.iload_n 2, 1, pI 0)] 15 _ (by decide +kernel) ?_
    show zG w f 3 16 ([some (pR 64 0), some (pI a1), some (pI a2)], [pI a2], (n, m))
    refine zswitch (pc := 16) [(0, 56), (1, 63), (2, 70), (3, 77), (4, 84), (5, 91)] 97 hF (by decide +kernel) ?_
    refine And.intro (fun b7 => ?_) (fun b7 => ?_)
    · replace h := zit b7 h
      obtain ⟨c8, h⟩ := zchk h
      refine zrun hF [(.aload_n 0, 1, pI 0), (.getfield 23, 3, pR 64 8), (.iload_n 1, 1, pI 0), (.iaload, 1, pI 0)] 56 _ (by decide +kernel) ?_
      refine (And.intro rfl (And.intro rfl (And.intro rfl (And.intro rfl (And.intro c8 ?_)))))
      show zG w f 3 62 ([some (pR 64 0), some (pI a1), some (pI a2)], [pI (m.1 66 0 (ix a1))], (n, m))
      exact zretI (pc := 62) hF hR (by decide +kernel) rfl (congrArg Prod.fst (Option.some.inj h)) (congrArg (fun (q : Int32 × zMem) => (n, q.2)) (Option.some.inj h))
    · replace h := zif b7 h
      refine And.intro (fun b9 => ?_) (fun b9 => ?_)
      · replace h := zit b9 h
        obtain ⟨c10, h⟩ := zchk h
        refine zrun hF [(.aload_n 0, 1, pI 0), (.getfield 29, 3, pR 64 10), (.iload_n 1, 1, pI 0), (.iaload, 1, pI 0)] 63 _ (by decide +kernel) ?_
        refine (And.intro rfl (And.intro rfl (And.intro rfl (And.intro rfl (And.intro c10 ?_)))))
        show zG w f 3 69 ([some (pR 64 0), some (pI a1), some (pI a2)], [pI (m.1 68 0 (ix a1))], (n, m))
        exact zretI (pc := 69) hF hR (by decide +kernel) rfl (congrArg Prod.fst (Option.some.inj h)) (congrArg (fun (q : Int32 × zMem) => (n, q.2)) (Option.some.inj h))
      · replace h := zif b9 h
        refine And.intro (fun b11 => ?_) (fun b11 => ?_)
        · replace h := zit b11 h
          obtain ⟨c12, h⟩ := zchk h
          refine zrun hF [(.aload_n 0, 1, pI 0), (.getfield 26, 3, pR 64 9), (.iload_n 1, 1, pI 0), (.iaload, 1, pI 0)] 70 _ (by decide +kernel) ?_
          refine (And.intro rfl (And.intro rfl (And.intro rfl (And.intro rfl (And.intro c12 ?_)))))
          show zG w f 3 76 ([some (pR 64 0), some (pI a1), some (pI a2)], [pI (m.1 67 0 (ix a1))], (n, m))
          exact zretI (pc := 76) hF hR (by decide +kernel) rfl (congrArg Prod.fst (Option.some.inj h)) (congrArg (fun (q : Int32 × zMem) => (n, q.2)) (Option.some.inj h))
        · replace h := zif b11 h
          refine And.intro (fun b13 => ?_) (fun b13 => ?_)
          · replace h := zit b13 h
            obtain ⟨c14, h⟩ := zchk h
            refine zrun hF [(.aload_n 0, 1, pI 0), (.getfield 35, 3, pR 64 12), (.iload_n 1, 1, pI 0), (.iaload, 1, pI 0)] 77 _ (by decide +kernel) ?_
            refine (And.intro rfl (And.intro rfl (And.intro rfl (And.intro rfl (And.intro c14 ?_)))))
            show zG w f 3 83 ([some (pR 64 0), some (pI a1), some (pI a2)], [pI (m.1 70 0 (ix a1))], (n, m))
            exact zretI (pc := 83) hF hR (by decide +kernel) rfl (congrArg Prod.fst (Option.some.inj h)) (congrArg (fun (q : Int32 × zMem) => (n, q.2)) (Option.some.inj h))
          · replace h := zif b13 h
            refine And.intro (fun b15 => ?_) (fun b15 => ?_)
            · replace h := zit b15 h
              obtain ⟨c16, h⟩ := zchk h
              refine zrun hF [(.aload_n 0, 1, pI 0), (.getfield 32, 3, pR 64 11), (.iload_n 1, 1, pI 0), (.iaload, 1, pI 0)] 84 _ (by decide +kernel) ?_
              refine (And.intro rfl (And.intro rfl (And.intro rfl (And.intro rfl (And.intro c16 ?_)))))
              show zG w f 3 90 ([some (pR 64 0), some (pI a1), some (pI a2)], [pI (m.1 69 0 (ix a1))], (n, m))
              exact zretI (pc := 90) hF hR (by decide +kernel) rfl (congrArg Prod.fst (Option.some.inj h)) (congrArg (fun (q : Int32 × zMem) => (n, q.2)) (Option.some.inj h))
            · replace h := zif b15 h
              refine And.intro (fun b17 => ?_) (fun b17 => ?_)
              · replace h := zit b17 h
                refine zrun hF [(.aload_n 0, 1, pI 0), (.iload_n 1, 1, pI 0)] 91 _ (by decide +kernel) ?_
                show zG w f 3 93 ([some (pR 64 0), some (pI a1), some (pI a2)], [pI a1, pR 64 0], (n, m))
                obtain ⟨r19, q18, h⟩ := zr_k h
                refine zcallVI (pc := 93) (As := [pI a1]) (st := []) (c := 64) (j := 0) hF (m_X7_lacks  q18) w_X7_lacks k_7_111 (by decide +kernel) rfl rfl rfl rfl rfl rfl rfl ?_
                exact zretI (pc := 96) hF hR (by decide +kernel) rfl (congrArg Prod.fst (Option.some.inj h)) (congrArg (fun (q : Int32 × zMem) => (n, q.2)) (Option.some.inj h))
              · replace h := zif b17 h
                refine zrun hF [(.aload_n 0, 1, pI 0), (.bipush (-5), 2, pI (-5))] 97 _ (by decide +kernel) ?_
                show zG w f 3 100 ([some (pR 64 0), some (pI a1), some (pI a2)], [pI (-5), pR 64 0], (n, m))
                obtain ⟨r21, m22, q20, h⟩ := zb_k h
                refine zcallVI (pc := 100) (As := [pI (-5)]) (st := []) (c := 64) (j := 0) hF (m_X7_no  q20) w_X7_no k_7_100 (by decide +kernel) rfl rfl rfl rfl rfl rfl rfl ?_
                exact zretI (pc := 103) hF hR (by decide +kernel) rfl (congrArg Prod.fst (Option.some.inj h)) (congrArg (fun (q : Int32 × zMem) => (n, q.2)) (Option.some.inj h))

set_option maxHeartbeats 4000000 in
set_option maxRecDepth 100000 in
theorem m_X6_refusalOfPair {w : zWd} {lc : Launch} {n : zMem} {a1 : Int32} {a2 : Int32} {m : zMem} {x : Int32}  (h : s_X6_refusalOfPair a1 a2 m = some x) : zMet w lc 2 yX6_refusalOfPair cX6_refusalOfPair 3 (some .int) [pR 0 0, pI a1, pI a2] (m, n) (zQI w x (m, n)) := by
  refine zmet (o := 6) (by decide +kernel) rfl (Nat.le_of_ble_eq_true rfl) rfl (fun f hl hF hR => ?_)
  unfold s_X6_refusalOfPair at h
  show zG w f 3 0 ([some (pR 0 0), some (pI a1), some (pI a2)], [], (m, n))
  refine zrun hF [(.aload_n 0, 1, pI 0), (.getfield 10, 3, pR 0 0), (.iload_n 1, 1, pI 0)] 0 _ (by decide +kernel) ?_
  refine (And.intro rfl (And.intro rfl ?_))
  show zG w f 3 5 ([some (pR 0 0), some (pI a1), some (pI a2)], [pI a1, pR 1 0], (m, n))
  obtain ⟨r2, q1, h⟩ := zr_k h
  refine zcallVI (pc := 5) (As := [pI a1]) (st := []) (c := 1) (j := 0) hF (m_X5_exists rfl q1) w_X5_exists k_6_119 (by decide +kernel) rfl rfl rfl rfl rfl rfl rfl ?_
  refine zif_eq (tgt := 22) (pc := 8) hF (by decide +kernel) (fun b3 => ?_) (fun b3 => ?_)
  · replace h := zit b3 h
    refine zrun hF [(.iconst (-1), 1, pI (-1))] 22 _ (by decide +kernel) ?_
    show zG w f 3 23 ([some (pR 0 0), some (pI a1), some (pI a2)], [pI (-1)], (m, n))
    exact zretI (pc := 23) hF hR (by decide +kernel) rfl (Option.some.inj h) rfl
  · replace h := zif b3 h
    refine zrun hF [(.aload_n 0, 1, pI 0), (.getfield 10, 3, pR 0 0), (.iload_n 2, 1, pI 0)] 11 _ (by decide +kernel) ?_
    refine (And.intro rfl (And.intro rfl ?_))
    show zG w f 3 16 ([some (pR 0 0), some (pI a1), some (pI a2)], [pI a2, pR 1 0], (m, n))
    obtain ⟨r5, q4, h⟩ := zr_k h
    refine zcallVI (pc := 16) (As := [pI a2]) (st := []) (c := 1) (j := 0) hF (m_X5_exists rfl q4) w_X5_exists k_6_119 (by decide +kernel) rfl rfl rfl rfl rfl rfl rfl ?_
    refine zif_ne (tgt := 24) (pc := 19) hF (by decide +kernel) (fun b6 => ?_) (fun b6 => ?_)
    · replace h := zit b6 h
      refine zrun hF [(.iconst (-1), 1, pI (-1))] 22 _ (by decide +kernel) ?_
      show zG w f 3 23 ([some (pR 0 0), some (pI a1), some (pI a2)], [pI (-1)], (m, n))
      exact zretI (pc := 23) hF hR (by decide +kernel) rfl (Option.some.inj h) rfl
    · replace h := zif b6 h
      refine zrun hF [(.iload_n 1, 1, pI 0), (.iload_n 2, 1, pI 0)] 24 _ (by decide +kernel) ?_
      show zG w f 3 26 ([some (pR 0 0), some (pI a1), some (pI a2)], [pI a2, pI a1], (m, n))
      refine zicmp_ne (tgt := 34) (pc := 26) hF (by decide +kernel) (fun b7 => ?_) (fun b7 => ?_)
      · replace h := zit b7 h
        refine zrun hF [(.bipush (-6), 2, pI (-6))] 29 _ (by decide +kernel) ?_
        show zG w f 3 31 ([some (pR 0 0), some (pI a1), some (pI a2)], [pI (-6)], (m, n))
        refine zgoto (tgt := 35) (pc := 31) hF (by decide +kernel) ?_
        exact zretI (pc := 35) hF hR (by decide +kernel) rfl (Option.some.inj h) rfl
      · replace h := zif b7 h
        refine zrun hF [(.iconst 0, 1, pI 0)] 34 _ (by decide +kernel) ?_
        show zG w f 3 35 ([some (pR 0 0), some (pI a1), some (pI a2)], [pI 0], (m, n))
        exact zretI (pc := 35) hF hR (by decide +kernel) rfl (Option.some.inj h) rfl

set_option maxHeartbeats 4000000 in
set_option maxRecDepth 100000 in
theorem m_X5_mark_5_L15 {w : zWd} {f : zFr} {n : zMem} {x : Int32} {m0 : zMem} {lc : Launch} (hl : f.2.1 = lc) (hF : zFOK w f 5 cX5_mark 6 2) (hR : zFin w f (some .boolean) (zQI w x (m0, n))) : ∀ (x1 : Nat) (x2 : Int32) (x3 : Int32) (x4 : Int32) (y0 : Int32) (m : zMem), Nat.blt x1 3 = true → s_X5_mark_5_L15 x1 x2 x3 x4 y0 m = some (x, m0) → zG w f 6 15 ([none, some (pR 5 x1), some (pI x2), some (pI x3), some (pI x4), none], [pI y0], (m, n)) := by
  intro x1 x2 x3 x4 y0 m hx1 h
  unfold s_X5_mark_5_L15 at h
  refine zrun hF [(.istore 5, 2, pI 0), (.iload 5, 2, pI 0), (.iload 4, 2, pI 0)] 15 _ (by decide +kernel) ?_
  refine (And.intro rfl ?_)
  show zG w f 6 21 ([none, some (pR 5 x1), some (pI x2), some (pI x3), some (pI x4), some (pI y0)], [pI x4, pI y0], (m, n))
  refine zicmp_ne (tgt := 26) (pc := 21) hF (by decide +kernel) (fun b3 => ?_) (fun b3 => ?_)
  · replace h := zit b3 h
    refine zrun hF [(.iconst 0, 1, pI 0)] 24 _ (by decide +kernel) ?_
    show zG w f 6 25 ([none, some (pR 5 x1), some (pI x2), some (pI x3), some (pI x4), some (pI y0)], [pI 0], (m, n))
    exact zretI (pc := 25) hF hR (by decide +kernel) (by decide +kernel) (congrArg Prod.fst (Option.some.inj h)) (congrArg (fun (q : Int32 × zMem) => (q.2, n)) (Option.some.inj h))
  · replace h := zif b3 h
    obtain ⟨c4, h⟩ := zchk h
    refine zrun hF [(.aload_n 1, 1, pI 0), (.iload_n 2, 1, pI 0), (.dup2, 1, pI 0), (.iaload, 1, pI 0), (.iload_n 3, 1, pI 0)] 26 _ (by decide +kernel) ?_
    refine (And.intro rfl (And.intro rfl (And.intro hx1 (And.intro c4 ?_))))
    show zG w f 6 31 ([none, some (pR 5 x1), some (pI x2), some (pI x3), some (pI x4), some (pI y0)], [pI x3, pI (m.1 5 x1 (ix x2)), pI x2, pR 5 x1], (m, n))
    obtain ⟨r6, q5, h⟩ := zr_k h
    refine zcallNI (pc := 31) (As := [pI x3]) (st := [pI (m.1 5 x1 (ix x2)), pI x2, pR 5 x1]) hF (m_X6_bit  q5) w_X6_bit k_5_55 (by decide +kernel) rfl rfl rfl rfl ?_
    refine zrun hF [(.ixor, 1, pI 0), (.iastore, 1, pI 0)] 34 _ (by decide +kernel) ?_
    refine (And.intro rfl (And.intro hx1 (And.intro c4 ?_)))
    refine zlet_k (P := fun (m7 : zMem) => zG w f 6 36 ([none, some (pR 5 x1), some (pI x2), some (pI x3), some (pI x4), some (pI y0)], [], (m7, n))) h (fun m7 h => ?_)
    obtain ⟨c8, h⟩ := zchk h
    refine zrun hF [(.aload_n 1, 1, pI 0), (.iload_n 3, 1, pI 0), (.dup2, 1, pI 0), (.iaload, 1, pI 0), (.iload_n 2, 1, pI 0)] 36 _ (by decide +kernel) ?_
    refine (And.intro rfl (And.intro rfl (And.intro hx1 (And.intro c8 ?_))))
    show zG w f 6 41 ([none, some (pR 5 x1), some (pI x2), some (pI x3), some (pI x4), some (pI y0)], [pI x2, pI (m7.1 5 x1 (ix x3)), pI x3, pR 5 x1], (m7, n))
    obtain ⟨r10, q9, h⟩ := zr_k h
    refine zcallNI (pc := 41) (As := [pI x2]) (st := [pI (m7.1 5 x1 (ix x3)), pI x3, pR 5 x1]) hF (m_X6_bit  q9) w_X6_bit k_5_55 (by decide +kernel) rfl rfl rfl rfl ?_
    refine zrun hF [(.ixor, 1, pI 0), (.iastore, 1, pI 0)] 44 _ (by decide +kernel) ?_
    refine (And.intro rfl (And.intro hx1 (And.intro c8 ?_)))
    refine zlet_k (P := fun (m11 : zMem) => zG w f 6 46 ([none, some (pR 5 x1), some (pI x2), some (pI x3), some (pI x4), some (pI y0)], [], (m11, n))) h (fun m11 h => ?_)
    refine zrun hF [(.iconst 1, 1, pI 1)] 46 _ (by decide +kernel) ?_
    show zG w f 6 47 ([none, some (pR 5 x1), some (pI x2), some (pI x3), some (pI x4), some (pI y0)], [pI 1], (m11, n))
    exact zretI (pc := 47) hF hR (by decide +kernel) (by decide +kernel) (congrArg Prod.fst (Option.some.inj h)) (congrArg (fun (q : Int32 × zMem) => (q.2, n)) (Option.some.inj h))

set_option maxHeartbeats 4000000 in
set_option maxRecDepth 100000 in
theorem m_X5_mark_5 {w : zWd} {lc : Launch} {n : zMem} {t : Nat} {a1 : Nat} {a2 : Int32} {a3 : Int32} {a4 : Int32} {m : zMem} {x : Int32} {m0 : zMem} (ht : Nat.blt t 3 = true) (ha1 : Nat.blt a1 3 = true) (h : s_X5_mark_5 t a1 a2 a3 a4 m = some (x, m0)) : zMet w lc 2 yX5_mark cX5_mark 6 (some .boolean) [pR 1 t, pR 5 a1, pI a2, pI a3, pI a4] (m, n) (zQI w x (m0, n)) := by
  refine zmet (o := 5) (by decide +kernel) rfl (Nat.le_of_ble_eq_true rfl) rfl (fun f hl hF hR => ?_)
  unfold s_X5_mark_5 at h
  show zG w f 6 0 ([some (pR 1 t), some (pR 5 a1), some (pI a2), some (pI a3), some (pI a4), none], [], (m, n))
  obtain ⟨c1, h⟩ := zchk h
  refine zrun hF [(.aload_n 1, 1, pI 0), (.iload_n 2, 1, pI 0), (.iaload, 1, pI 0), (.iload_n 3, 1, pI 0), (.ishr, 1, pI 0), (.iconst 1, 1, pI 1), (.iand, 1, pI 0)] 0 _ (by decide +kernel) ?_
  refine (And.intro rfl (And.intro ha1 (And.intro c1 ?_)))
  show zG w f 6 7 ([some (pR 1 t), some (pR 5 a1), some (pI a2), some (pI a3), some (pI a4), none], [pI ((jshr (m.1 5 a1 (ix a2)) a3) &&& 1)], (m, n))
  refine zif_eq (tgt := 14) (pc := 7) hF (by decide +kernel) (fun b2 => ?_) (fun b2 => ?_)
  · replace h := zit b2 h
    refine zrun hF [(.iconst 0, 1, pI 0)] 14 _ (by decide +kernel) ?_
    show zG w f 6 15 ([some (pR 1 t), some (pR 5 a1), some (pI a2), some (pI a3), some (pI a4), none], [pI 0], (m, n))
    refine zcut [false, true, true, true, true, true] ?_
    exact m_X5_mark_5_L15 hl hF hR  _ _ _ _ _ _ ha1 h
  · replace h := zif b2 h
    refine zrun hF [(.iconst 1, 1, pI 1)] 10 _ (by decide +kernel) ?_
    show zG w f 6 11 ([some (pR 1 t), some (pR 5 a1), some (pI a2), some (pI a3), some (pI a4), none], [pI 1], (m, n))
    refine zgoto (tgt := 15) (pc := 11) hF (by decide +kernel) ?_
    refine zcut [false, true, true, true, true, true] ?_
    exact m_X5_mark_5_L15 hl hF hR  _ _ _ _ _ _ ha1 h

set_option maxHeartbeats 4000000 in
set_option maxRecDepth 100000 in
theorem m_X6_bar {w : zWd} {lc : Launch} {n : zMem} {a1 : Int32} {a2 : Int32} {a3 : Int32} {m : zMem} {x : Int32} {m0 : zMem}  (h : s_X6_bar a1 a2 a3 m = some (x, m0)) : zMet w lc 3 yX6_bar cX6_bar 5 (some .int) [pR 0 0, pI a1, pI a2, pI a3] (m, n) (zQI w x (m0, n)) := by
  refine zmet (o := 6) (by decide +kernel) rfl (Nat.le_of_ble_eq_true rfl) rfl (fun f hl hF hR => ?_)
  unfold s_X6_bar at h
  show zG w f 5 0 ([some (pR 0 0), some (pI a1), some (pI a2), some (pI a3), none], [], (m, n))
  refine zrun hF [(.aload_n 0, 1, pI 0), (.iload_n 1, 1, pI 0), (.iload_n 2, 1, pI 0)] 0 _ (by decide +kernel) ?_
  show zG w f 5 3 ([some (pR 0 0), some (pI a1), some (pI a2), some (pI a3), none], [pI a2, pI a1, pR 0 0], (m, n))
  obtain ⟨r2, q1, h⟩ := zr_k h
  refine zcallVI (pc := 3) (As := [pI a1, pI a2]) (st := []) (c := 0) (j := 0) hF (m_X6_refusalOfPair  q1) w_X6_refusalOfPair k_6_169 (by decide +kernel) rfl rfl rfl rfl rfl rfl rfl ?_
  refine zrun hF [(.istore 4, 2, pI 0), (.iload 4, 2, pI 0)] 6 _ (by decide +kernel) ?_
  refine (And.intro rfl ?_)
  show zG w f 5 10 ([some (pR 0 0), some (pI a1), some (pI a2), some (pI a3), some (pI r2)], [pI r2], (m, n))
  refine zif_eq (tgt := 20) (pc := 10) hF (by decide +kernel) (fun b3 => ?_) (fun b3 => ?_)
  · replace h := zit b3 h
    refine zrun hF [(.aload_n 0, 1, pI 0), (.getfield 10, 3, pR 0 0), (.aload_n 0, 1, pI 0), (.getfield 10, 3, pR 0 0), (.getfield 163, 3, pR 1 3), (.iload_n 1, 1, pI 0), (.iload_n 2, 1, pI 0), (.iload_n 3, 1, pI 0)] 20 _ (by decide +kernel) ?_
    refine (And.intro rfl (And.intro rfl (And.intro rfl (And.intro rfl (And.intro rfl (And.intro rfl ?_))))))
    show zG w f 5 34 ([some (pR 0 0), some (pI a1), some (pI a2), some (pI a3), some (pI r2)], [pI a3, pI a2, pI a1, pR 5 0, pR 1 0], (m, n))
    obtain ⟨r5, m6, q4, h⟩ := zb_k h
    refine zcallVI (pc := 34) (As := [pR 5 0, pI a1, pI a2, pI a3]) (st := []) (c := 1) (j := 0) hF (m_X5_mark_5 rfl rfl q4) w_X5_mark k_6_172 (by decide +kernel) rfl rfl rfl rfl rfl rfl rfl ?_
    refine zif_eq (tgt := 44) (pc := 37) hF (by decide +kernel) (fun b7 => ?_) (fun b7 => ?_)
    · replace h := zit b7 h
      refine zrun hF [(.iconst 0, 1, pI 0)] 44 _ (by decide +kernel) ?_
      show zG w f 5 45 ([some (pR 0 0), some (pI a1), some (pI a2), some (pI a3), some (pI r2)], [pI 0], (m6, n))
      exact zretI (pc := 45) hF hR (by decide +kernel) rfl (congrArg Prod.fst (Option.some.inj h)) (congrArg (fun (q : Int32 × zMem) => (q.2, n)) (Option.some.inj h))
    · replace h := zif b7 h
      refine zrun hF [(.iconst 1, 1, pI 1)] 40 _ (by decide +kernel) ?_
      show zG w f 5 41 ([some (pR 0 0), some (pI a1), some (pI a2), some (pI a3), some (pI r2)], [pI 1], (m6, n))
      refine zgoto (tgt := 45) (pc := 41) hF (by decide +kernel) ?_
      exact zretI (pc := 45) hF hR (by decide +kernel) rfl (congrArg Prod.fst (Option.some.inj h)) (congrArg (fun (q : Int32 × zMem) => (q.2, n)) (Option.some.inj h))
  · replace h := zif b3 h
    refine zrun hF [(.aload_n 0, 1, pI 0), (.iload 4, 2, pI 0)] 13 _ (by decide +kernel) ?_
    show zG w f 5 16 ([some (pR 0 0), some (pI a1), some (pI a2), some (pI a3), some (pI r2)], [pI r2, pR 0 0], (m, n))
    obtain ⟨r9, m10, q8, h⟩ := zb_k h
    refine zcallVI (pc := 16) (As := [pI r2]) (st := []) (c := 0) (j := 0) hF (m_X6_refuse  q8) w_X6_refuse k_6_73 (by decide +kernel) rfl rfl rfl rfl rfl rfl rfl ?_
    exact zretI (pc := 19) hF hR (by decide +kernel) rfl (congrArg Prod.fst (Option.some.inj h)) (congrArg (fun (q : Int32 × zMem) => (q.2, n)) (Option.some.inj h))

set_option maxHeartbeats 4000000 in
set_option maxRecDepth 100000 in
theorem m_X7_pair_L16 {w : zWd} {f : zFr} {n : zMem} {x : Int32} {lc : Launch} {mr : zMem} (hl : f.2.1 = lc) (hF : zFOK w f 7 cX7_pair 3 2) (hR : zFin w f (some .int) (zQI w x (n, mr))) : ∀ (m : zMem), m = mr → s_X7_pair_L16 m = some x → zG w f 3 16 ([none, none, none], [], (n, m)) := by
  intro m hm h
  unfold s_X7_pair_L16 at h
  refine zrun hF [(.iconst (-1), 1, pI (-1))] 16 _ (by decide +kernel) ?_
  show zG w f 3 17 ([none, none, none], [pI (-1)], (n, m))
  refine zgoto (tgt := 31) (pc := 17) hF (by decide +kernel) ?_
  exact zretI (pc := 31) hF hR (by decide +kernel) rfl (Option.some.inj h) (congrArg (fun q => (n, q)) hm)

set_option maxHeartbeats 4000000 in
set_option maxRecDepth 100000 in
theorem m_X7_pair {w : zWd} {lc : Launch} {n : zMem} {a1 : Int32} {a2 : Int32} {m : zMem} {x : Int32}  (h : s_X7_pair a1 a2 m = some x) : zMet w lc 2 yX7_pair cX7_pair 3 (some .int) [pR 64 0, pI a1, pI a2] (n, m) (zQI w x (n, m)) := by
  refine zmet (o := 7) (by decide +kernel) rfl (Nat.le_of_ble_eq_true rfl) rfl (fun f hl hF hR => ?_)
  unfold s_X7_pair at h
  show zG w f 3 0 ([some (pR 64 0), some (pI a1), some (pI a2)], [], (n, m))
  refine zrun hF [(.aload_n 0, 1, pI 0), (.iload_n 1, 1, pI 0)] 0 _ (by decide +kernel) ?_
  show zG w f 3 2 ([some (pR 64 0), some (pI a1), some (pI a2)], [pI a1, pR 64 0], (n, m))
  obtain ⟨r2, q1, h⟩ := zr_k h
  refine zcallVI (pc := 2) (As := [pI a1]) (st := []) (c := 64) (j := 0) hF (m_X7_isGuest  q1) w_X7_isGuest k_7_104 (by decide +kernel) rfl rfl rfl rfl rfl rfl rfl ?_
  refine zif_eq (tgt := 16) (pc := 5) hF (by decide +kernel) (fun b3 => ?_) (fun b3 => ?_)
  · replace h := zit b3 h
    refine zcut [false, false, false] ?_
    exact m_X7_pair_L16 hl hF hR  _  rfl h
  · replace h := zif b3 h
    refine zrun hF [(.aload_n 0, 1, pI 0), (.iload_n 2, 1, pI 0)] 8 _ (by decide +kernel) ?_
    show zG w f 3 10 ([some (pR 64 0), some (pI a1), some (pI a2)], [pI a2, pR 64 0], (n, m))
    obtain ⟨r5, q4, h⟩ := zr_k h
    refine zcallVI (pc := 10) (As := [pI a2]) (st := []) (c := 64) (j := 0) hF (m_X7_isGuest  q4) w_X7_isGuest k_7_104 (by decide +kernel) rfl rfl rfl rfl rfl rfl rfl ?_
    refine zif_ne (tgt := 20) (pc := 13) hF (by decide +kernel) (fun b6 => ?_) (fun b6 => ?_)
    · replace h := zit b6 h
      refine zcut [false, false, false] ?_
      exact m_X7_pair_L16 hl hF hR  _  rfl h
    · replace h := zif b6 h
      refine zrun hF [(.iload_n 1, 1, pI 0), (.iload_n 2, 1, pI 0)] 20 _ (by decide +kernel) ?_
      show zG w f 3 22 ([some (pR 64 0), some (pI a1), some (pI a2)], [pI a2, pI a1], (n, m))
      refine zicmp_ne (tgt := 30) (pc := 22) hF (by decide +kernel) (fun b7 => ?_) (fun b7 => ?_)
      · replace h := zit b7 h
        refine zrun hF [(.bipush (-6), 2, pI (-6))] 25 _ (by decide +kernel) ?_
        show zG w f 3 27 ([some (pR 64 0), some (pI a1), some (pI a2)], [pI (-6)], (n, m))
        refine zgoto (tgt := 31) (pc := 27) hF (by decide +kernel) ?_
        exact zretI (pc := 31) hF hR (by decide +kernel) rfl (Option.some.inj h) rfl
      · replace h := zif b7 h
        refine zrun hF [(.iconst 0, 1, pI 0)] 30 _ (by decide +kernel) ?_
        show zG w f 3 31 ([some (pR 64 0), some (pI a1), some (pI a2)], [pI 0], (n, m))
        exact zretI (pc := 31) hF hR (by decide +kernel) rfl (Option.some.inj h) rfl

set_option maxHeartbeats 4000000 in
set_option maxRecDepth 100000 in
theorem m_X7_puts_69 {w : zWd} {lc : Launch} {n : zMem} {a2 : Int32} {a3 : Int32} {a4 : Int32} {m : zMem} {x : Int32} {m0 : zMem}  (h : s_X7_puts_69 a2 a3 a4 m = some (x, m0)) : zMet w lc 2 yX7_puts cX7_puts 5 (some .int) [pR 64 0, pR 69 0, pI a2, pI a3, pI a4] (n, m) (zQI w x (n, m0)) := by
  refine zmet (o := 7) (by decide +kernel) rfl (Nat.le_of_ble_eq_true rfl) rfl (fun f hl hF hR => ?_)
  unfold s_X7_puts_69 at h
  show zG w f 5 0 ([some (pR 64 0), some (pR 69 0), some (pI a2), some (pI a3), some (pI a4)], [], (n, m))
  obtain ⟨c1, h⟩ := zchk h
  refine zrun hF [(.aload_n 0, 1, pI 0), (.aload_n 1, 1, pI 0), (.iload_n 2, 1, pI 0), (.iaload, 1, pI 0), (.iload_n 3, 1, pI 0)] 0 _ (by decide +kernel) ?_
  refine (And.intro rfl (And.intro rfl (And.intro c1 ?_)))
  show zG w f 5 5 ([some (pR 64 0), some (pR 69 0), some (pI a2), some (pI a3), some (pI a4)], [pI a3, pI (m.1 69 0 (ix a2)), pR 64 0], (n, m))
  obtain ⟨r3, q2, h⟩ := zr_k h
  refine zcallVI (pc := 5) (As := [pI (m.1 69 0 (ix a2)), pI a3]) (st := []) (c := 64) (j := 0) hF (m_X7_isIn  q2) w_X7_isIn k_7_130 (by decide +kernel) rfl rfl rfl rfl rfl rfl rfl ?_
  refine zrun hF [(.iload 4, 2, pI 0)] 8 _ (by decide +kernel) ?_
  show zG w f 5 10 ([some (pR 64 0), some (pR 69 0), some (pI a2), some (pI a3), some (pI a4)], [pI a4, pI r3], (n, m))
  refine zicmp_ne (tgt := 15) (pc := 10) hF (by decide +kernel) (fun b4 => ?_) (fun b4 => ?_)
  · replace h := zit b4 h
    refine zrun hF [(.iconst 0, 1, pI 0)] 13 _ (by decide +kernel) ?_
    show zG w f 5 14 ([some (pR 64 0), some (pR 69 0), some (pI a2), some (pI a3), some (pI a4)], [pI 0], (n, m))
    exact zretI (pc := 14) hF hR (by decide +kernel) rfl (congrArg Prod.fst (Option.some.inj h)) (congrArg (fun (q : Int32 × zMem) => (n, q.2)) (Option.some.inj h))
  · replace h := zif b4 h
    refine zrun hF [(.aload_n 1, 1, pI 0), (.iload_n 2, 1, pI 0), (.dup2, 1, pI 0), (.iaload, 1, pI 0), (.iconst 1, 1, pI 1), (.iload_n 3, 1, pI 0), (.ishl, 1, pI 0), (.ixor, 1, pI 0), (.iastore, 1, pI 0)] 15 _ (by decide +kernel) ?_
    refine (And.intro rfl (And.intro rfl (And.intro rfl (And.intro c1 (And.intro rfl (And.intro rfl (And.intro c1 ?_)))))))
    refine zlet_k (P := fun (m5 : zMem) => zG w f 5 24 ([some (pR 64 0), some (pR 69 0), some (pI a2), some (pI a3), some (pI a4)], [], (n, m5))) h (fun m5 h => ?_)
    obtain ⟨c6, h⟩ := zchk h
    refine zrun hF [(.aload_n 1, 1, pI 0), (.iload_n 3, 1, pI 0), (.dup2, 1, pI 0), (.iaload, 1, pI 0), (.iconst 1, 1, pI 1), (.iload_n 2, 1, pI 0), (.ishl, 1, pI 0), (.ixor, 1, pI 0), (.iastore, 1, pI 0)] 24 _ (by decide +kernel) ?_
    refine (And.intro rfl (And.intro rfl (And.intro rfl (And.intro c6 (And.intro rfl (And.intro rfl (And.intro c6 ?_)))))))
    refine zlet_k (P := fun (m7 : zMem) => zG w f 5 33 ([some (pR 64 0), some (pR 69 0), some (pI a2), some (pI a3), some (pI a4)], [], (n, m7))) h (fun m7 h => ?_)
    refine zrun hF [(.iconst 1, 1, pI 1)] 33 _ (by decide +kernel) ?_
    show zG w f 5 34 ([some (pR 64 0), some (pR 69 0), some (pI a2), some (pI a3), some (pI a4)], [pI 1], (n, m7))
    exact zretI (pc := 34) hF hR (by decide +kernel) rfl (congrArg Prod.fst (Option.some.inj h)) (congrArg (fun (q : Int32 × zMem) => (n, q.2)) (Option.some.inj h))

set_option maxHeartbeats 4000000 in
set_option maxRecDepth 100000 in
theorem m_X7_bar {w : zWd} {lc : Launch} {n : zMem} {a1 : Int32} {a2 : Int32} {a3 : Int32} {m : zMem} {x : Int32} {m0 : zMem}  (h : s_X7_bar a1 a2 a3 m = some (x, m0)) : zMet w lc 3 yX7_bar cX7_bar 5 (some .int) [pR 64 0, pI a1, pI a2, pI a3] (n, m) (zQI w x (n, m0)) := by
  refine zmet (o := 7) (by decide +kernel) rfl (Nat.le_of_ble_eq_true rfl) rfl (fun f hl hF hR => ?_)
  unfold s_X7_bar at h
  show zG w f 5 0 ([some (pR 64 0), some (pI a1), some (pI a2), some (pI a3), none], [], (n, m))
  refine zrun hF [(.aload_n 0, 1, pI 0), (.iload_n 1, 1, pI 0), (.iload_n 2, 1, pI 0)] 0 _ (by decide +kernel) ?_
  show zG w f 5 3 ([some (pR 64 0), some (pI a1), some (pI a2), some (pI a3), none], [pI a2, pI a1, pR 64 0], (n, m))
  obtain ⟨r2, q1, h⟩ := zr_k h
  refine zcallVI (pc := 3) (As := [pI a1, pI a2]) (st := []) (c := 64) (j := 0) hF (m_X7_pair  q1) w_X7_pair k_7_133 (by decide +kernel) rfl rfl rfl rfl rfl rfl rfl ?_
  refine zrun hF [(.istore 4, 2, pI 0), (.iload 4, 2, pI 0)] 6 _ (by decide +kernel) ?_
  refine (And.intro rfl ?_)
  show zG w f 5 10 ([some (pR 64 0), some (pI a1), some (pI a2), some (pI a3), some (pI r2)], [pI r2], (n, m))
  refine zif_eq (tgt := 22) (pc := 10) hF (by decide +kernel) (fun b3 => ?_) (fun b3 => ?_)
  · replace h := zit b3 h
    refine zrun hF [(.aload_n 0, 1, pI 0), (.aload_n 0, 1, pI 0), (.getfield 32, 3, pR 64 11), (.iload_n 1, 1, pI 0), (.iload_n 2, 1, pI 0), (.iload_n 3, 1, pI 0)] 22 _ (by decide +kernel) ?_
    refine (And.intro rfl (And.intro rfl ?_))
    show zG w f 5 30 ([some (pR 64 0), some (pI a1), some (pI a2), some (pI a3), some (pI r2)], [pI a3, pI a2, pI a1, pR 69 0, pR 64 0], (n, m))
    obtain ⟨r5, m6, q4, h⟩ := zb_k h
    refine zcallVI (pc := 30) (As := [pR 69 0, pI a1, pI a2, pI a3]) (st := []) (c := 64) (j := 0) hF (m_X7_puts_69  q4) w_X7_puts k_7_137 (by decide +kernel) rfl rfl rfl rfl rfl rfl rfl ?_
    exact zretI (pc := 33) hF hR (by decide +kernel) rfl (congrArg Prod.fst (Option.some.inj h)) (congrArg (fun (q : Int32 × zMem) => (n, q.2)) (Option.some.inj h))
  · replace h := zif b3 h
    refine zrun hF [(.aload_n 0, 1, pI 0), (.iload 4, 2, pI 0)] 13 _ (by decide +kernel) ?_
    show zG w f 5 16 ([some (pR 64 0), some (pI a1), some (pI a2), some (pI a3), some (pI r2)], [pI r2, pR 64 0], (n, m))
    obtain ⟨r8, m9, q7, h⟩ := zb_k h
    refine zcallVI (pc := 16) (As := [pI r2]) (st := []) (c := 64) (j := 0) hF (m_X7_no  q7) w_X7_no k_7_100 (by decide +kernel) rfl rfl rfl rfl rfl rfl rfl ?_
    refine zgoto (tgt := 33) (pc := 19) hF (by decide +kernel) ?_
    exact zretI (pc := 33) hF hR (by decide +kernel) rfl (congrArg Prod.fst (Option.some.inj h)) (congrArg (fun (q : Int32 × zMem) => (n, q.2)) (Option.some.inj h))

set_option maxHeartbeats 4000000 in
set_option maxRecDepth 100000 in
theorem m_X5_mark_6_L15 {w : zWd} {f : zFr} {n : zMem} {x : Int32} {m0 : zMem} {lc : Launch} (hl : f.2.1 = lc) (hF : zFOK w f 5 cX5_mark 6 2) (hR : zFin w f (some .boolean) (zQI w x (m0, n))) : ∀ (x1 : Nat) (x2 : Int32) (x3 : Int32) (x4 : Int32) (y0 : Int32) (m : zMem), Nat.blt x1 3 = true → s_X5_mark_6_L15 x1 x2 x3 x4 y0 m = some (x, m0) → zG w f 6 15 ([none, some (pR 6 x1), some (pI x2), some (pI x3), some (pI x4), none], [pI y0], (m, n)) := by
  intro x1 x2 x3 x4 y0 m hx1 h
  unfold s_X5_mark_6_L15 at h
  refine zrun hF [(.istore 5, 2, pI 0), (.iload 5, 2, pI 0), (.iload 4, 2, pI 0)] 15 _ (by decide +kernel) ?_
  refine (And.intro rfl ?_)
  show zG w f 6 21 ([none, some (pR 6 x1), some (pI x2), some (pI x3), some (pI x4), some (pI y0)], [pI x4, pI y0], (m, n))
  refine zicmp_ne (tgt := 26) (pc := 21) hF (by decide +kernel) (fun b3 => ?_) (fun b3 => ?_)
  · replace h := zit b3 h
    refine zrun hF [(.iconst 0, 1, pI 0)] 24 _ (by decide +kernel) ?_
    show zG w f 6 25 ([none, some (pR 6 x1), some (pI x2), some (pI x3), some (pI x4), some (pI y0)], [pI 0], (m, n))
    exact zretI (pc := 25) hF hR (by decide +kernel) (by decide +kernel) (congrArg Prod.fst (Option.some.inj h)) (congrArg (fun (q : Int32 × zMem) => (q.2, n)) (Option.some.inj h))
  · replace h := zif b3 h
    obtain ⟨c4, h⟩ := zchk h
    refine zrun hF [(.aload_n 1, 1, pI 0), (.iload_n 2, 1, pI 0), (.dup2, 1, pI 0), (.iaload, 1, pI 0), (.iload_n 3, 1, pI 0)] 26 _ (by decide +kernel) ?_
    refine (And.intro rfl (And.intro rfl (And.intro hx1 (And.intro c4 ?_))))
    show zG w f 6 31 ([none, some (pR 6 x1), some (pI x2), some (pI x3), some (pI x4), some (pI y0)], [pI x3, pI (m.1 6 x1 (ix x2)), pI x2, pR 6 x1], (m, n))
    obtain ⟨r6, q5, h⟩ := zr_k h
    refine zcallNI (pc := 31) (As := [pI x3]) (st := [pI (m.1 6 x1 (ix x2)), pI x2, pR 6 x1]) hF (m_X6_bit  q5) w_X6_bit k_5_55 (by decide +kernel) rfl rfl rfl rfl ?_
    refine zrun hF [(.ixor, 1, pI 0), (.iastore, 1, pI 0)] 34 _ (by decide +kernel) ?_
    refine (And.intro rfl (And.intro hx1 (And.intro c4 ?_)))
    refine zlet_k (P := fun (m7 : zMem) => zG w f 6 36 ([none, some (pR 6 x1), some (pI x2), some (pI x3), some (pI x4), some (pI y0)], [], (m7, n))) h (fun m7 h => ?_)
    obtain ⟨c8, h⟩ := zchk h
    refine zrun hF [(.aload_n 1, 1, pI 0), (.iload_n 3, 1, pI 0), (.dup2, 1, pI 0), (.iaload, 1, pI 0), (.iload_n 2, 1, pI 0)] 36 _ (by decide +kernel) ?_
    refine (And.intro rfl (And.intro rfl (And.intro hx1 (And.intro c8 ?_))))
    show zG w f 6 41 ([none, some (pR 6 x1), some (pI x2), some (pI x3), some (pI x4), some (pI y0)], [pI x2, pI (m7.1 6 x1 (ix x3)), pI x3, pR 6 x1], (m7, n))
    obtain ⟨r10, q9, h⟩ := zr_k h
    refine zcallNI (pc := 41) (As := [pI x2]) (st := [pI (m7.1 6 x1 (ix x3)), pI x3, pR 6 x1]) hF (m_X6_bit  q9) w_X6_bit k_5_55 (by decide +kernel) rfl rfl rfl rfl ?_
    refine zrun hF [(.ixor, 1, pI 0), (.iastore, 1, pI 0)] 44 _ (by decide +kernel) ?_
    refine (And.intro rfl (And.intro hx1 (And.intro c8 ?_)))
    refine zlet_k (P := fun (m11 : zMem) => zG w f 6 46 ([none, some (pR 6 x1), some (pI x2), some (pI x3), some (pI x4), some (pI y0)], [], (m11, n))) h (fun m11 h => ?_)
    refine zrun hF [(.iconst 1, 1, pI 1)] 46 _ (by decide +kernel) ?_
    show zG w f 6 47 ([none, some (pR 6 x1), some (pI x2), some (pI x3), some (pI x4), some (pI y0)], [pI 1], (m11, n))
    exact zretI (pc := 47) hF hR (by decide +kernel) (by decide +kernel) (congrArg Prod.fst (Option.some.inj h)) (congrArg (fun (q : Int32 × zMem) => (q.2, n)) (Option.some.inj h))

set_option maxHeartbeats 4000000 in
set_option maxRecDepth 100000 in
theorem m_X5_mark_6 {w : zWd} {lc : Launch} {n : zMem} {t : Nat} {a1 : Nat} {a2 : Int32} {a3 : Int32} {a4 : Int32} {m : zMem} {x : Int32} {m0 : zMem} (ht : Nat.blt t 3 = true) (ha1 : Nat.blt a1 3 = true) (h : s_X5_mark_6 t a1 a2 a3 a4 m = some (x, m0)) : zMet w lc 2 yX5_mark cX5_mark 6 (some .boolean) [pR 1 t, pR 6 a1, pI a2, pI a3, pI a4] (m, n) (zQI w x (m0, n)) := by
  refine zmet (o := 5) (by decide +kernel) rfl (Nat.le_of_ble_eq_true rfl) rfl (fun f hl hF hR => ?_)
  unfold s_X5_mark_6 at h
  show zG w f 6 0 ([some (pR 1 t), some (pR 6 a1), some (pI a2), some (pI a3), some (pI a4), none], [], (m, n))
  obtain ⟨c1, h⟩ := zchk h
  refine zrun hF [(.aload_n 1, 1, pI 0), (.iload_n 2, 1, pI 0), (.iaload, 1, pI 0), (.iload_n 3, 1, pI 0), (.ishr, 1, pI 0), (.iconst 1, 1, pI 1), (.iand, 1, pI 0)] 0 _ (by decide +kernel) ?_
  refine (And.intro rfl (And.intro ha1 (And.intro c1 ?_)))
  show zG w f 6 7 ([some (pR 1 t), some (pR 6 a1), some (pI a2), some (pI a3), some (pI a4), none], [pI ((jshr (m.1 6 a1 (ix a2)) a3) &&& 1)], (m, n))
  refine zif_eq (tgt := 14) (pc := 7) hF (by decide +kernel) (fun b2 => ?_) (fun b2 => ?_)
  · replace h := zit b2 h
    refine zrun hF [(.iconst 0, 1, pI 0)] 14 _ (by decide +kernel) ?_
    show zG w f 6 15 ([some (pR 1 t), some (pR 6 a1), some (pI a2), some (pI a3), some (pI a4), none], [pI 0], (m, n))
    refine zcut [false, true, true, true, true, true] ?_
    exact m_X5_mark_6_L15 hl hF hR  _ _ _ _ _ _ ha1 h
  · replace h := zif b2 h
    refine zrun hF [(.iconst 1, 1, pI 1)] 10 _ (by decide +kernel) ?_
    show zG w f 6 11 ([some (pR 1 t), some (pR 6 a1), some (pI a2), some (pI a3), some (pI a4), none], [pI 1], (m, n))
    refine zgoto (tgt := 15) (pc := 11) hF (by decide +kernel) ?_
    refine zcut [false, true, true, true, true, true] ?_
    exact m_X5_mark_6_L15 hl hF hR  _ _ _ _ _ _ ha1 h

