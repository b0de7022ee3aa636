set_option maxHeartbeats 4000000 in
set_option maxRecDepth 100000 in
theorem m_X6_cross_L45 {w : zWd} {f : zFr} {n : zMem} {x : Int32} {m0 : zMem} {lc : Launch} (hl : f.2.1 = lc) (hF : zFOK w f 6 cX6_cross 5 4) (hR : zFin w f (some .int) (zQI w x (m0, n))) : ∀ (m : zMem), s_X6_cross_L45 m = some (x, m0) → zG w f 5 45 ([some (pR 0 0), none, none, none, none], [], (m, n)) := by
  intro m h
  unfold s_X6_cross_L45 at h
  refine zrun hF [(.aload_n 0, 1, pI 0), (.iconst (-1), 1, pI (-1))] 45 _ (by decide +kernel) ?_
  show zG w f 5 47 ([some (pR 0 0), none, none, none, none], [pI (-1), pR 0 0], (m, n))
  obtain ⟨r31, m32, q30, h⟩ := zb_k h
  refine zcallVI (pc := 47) (As := [pI (-1)]) (st := []) (c := 0) (j := 0) hF (m_X6_refuse  q30) w_X6_refuse k_6_73 (by decide +kernel) rfl rfl rfl rfl rfl rfl rfl ?_
  exact zretI (pc := 50) hF hR (by decide +kernel) rfl (congrArg Prod.fst (Option.some.inj h)) (congrArg (fun (q : Int32 × zMem) => (q.2, n)) (Option.some.inj h))

set_option maxHeartbeats 4000000 in
set_option maxRecDepth 100000 in
theorem m_X6_cross {w : zWd} {lc : Launch} {n : zMem} {a1 : Int32} {a2 : Int32} {a3 : Int32} {a4 : Int32} {m : zMem} {x : Int32} {m0 : zMem}  (h : s_X6_cross a1 a2 a3 a4 m = some (x, m0)) : zMet w lc 4 yX6_cross cX6_cross 5 (some .int) [pR 0 0, pI a1, pI a2, pI a3, pI a4] (m, n) (zQI w x (m0, n)) := by
  refine zmet (o := 6) (by decide +kernel) rfl (Nat.le_of_ble_eq_true rfl) rfl (fun f hl hF hR => ?_)
  unfold s_X6_cross at h
  show zG w f 5 0 ([some (pR 0 0), some (pI a1), some (pI a2), some (pI a3), some (pI a4)], [], (m, n))
  refine zrun hF [(.aload_n 0, 1, pI 0), (.getfield 10, 3, pR 0 0), (.iload_n 1, 1, pI 0)] 0 _ (by decide +kernel) ?_
  refine (And.intro rfl (And.intro rfl ?_))
  show zG w f 5 5 ([some (pR 0 0), some (pI a1), some (pI a2), some (pI a3), some (pI a4)], [pI a1, pR 1 0], (m, n))
  obtain ⟨r2, q1, h⟩ := zr_k h
  refine zcallVI (pc := 5) (As := [pI a1]) (st := []) (c := 1) (j := 0) hF (m_X5_exists rfl q1) w_X5_exists k_6_119 (by decide +kernel) rfl rfl rfl rfl rfl rfl rfl ?_
  refine zif_eq (tgt := 45) (pc := 8) hF (by decide +kernel) (fun b3 => ?_) (fun b3 => ?_)
  · replace h := zit b3 h
    refine zcut [true, false, false, false, false] ?_
    exact m_X6_cross_L45 hl hF hR  _  h
  · replace h := zif b3 h
    refine zrun hF [(.aload_n 0, 1, pI 0), (.getfield 10, 3, pR 0 0), (.iload_n 2, 1, pI 0)] 11 _ (by decide +kernel) ?_
    refine (And.intro rfl (And.intro rfl ?_))
    show zG w f 5 16 ([some (pR 0 0), some (pI a1), some (pI a2), some (pI a3), some (pI a4)], [pI a2, pR 1 0], (m, n))
    obtain ⟨r5, q4, h⟩ := zr_k h
    refine zcallVI (pc := 16) (As := [pI a2]) (st := []) (c := 1) (j := 0) hF (m_X5_exists rfl q4) w_X5_exists k_6_119 (by decide +kernel) rfl rfl rfl rfl rfl rfl rfl ?_
    refine zif_eq (tgt := 45) (pc := 19) hF (by decide +kernel) (fun b6 => ?_) (fun b6 => ?_)
    · replace h := zit b6 h
      refine zcut [true, false, false, false, false] ?_
      exact m_X6_cross_L45 hl hF hR  _  h
    · replace h := zif b6 h
      refine zrun hF [(.aload_n 0, 1, pI 0), (.getfield 10, 3, pR 0 0), (.iload_n 3, 1, pI 0)] 22 _ (by decide +kernel) ?_
      refine (And.intro rfl (And.intro rfl ?_))
      show zG w f 5 27 ([some (pR 0 0), some (pI a1), some (pI a2), some (pI a3), some (pI a4)], [pI a3, pR 1 0], (m, n))
      obtain ⟨r8, q7, h⟩ := zr_k h
      refine zcallVI (pc := 27) (As := [pI a3]) (st := []) (c := 1) (j := 0) hF (m_X5_exists rfl q7) w_X5_exists k_6_119 (by decide +kernel) rfl rfl rfl rfl rfl rfl rfl ?_
      refine zif_eq (tgt := 45) (pc := 30) hF (by decide +kernel) (fun b9 => ?_) (fun b9 => ?_)
      · replace h := zit b9 h
        refine zcut [true, false, false, false, false] ?_
        exact m_X6_cross_L45 hl hF hR  _  h
      · replace h := zif b9 h
        refine zrun hF [(.aload_n 0, 1, pI 0), (.getfield 10, 3, pR 0 0), (.iload 4, 2, pI 0)] 33 _ (by decide +kernel) ?_
        refine (And.intro rfl (And.intro rfl ?_))
        show zG w f 5 39 ([some (pR 0 0), some (pI a1), some (pI a2), some (pI a3), some (pI a4)], [pI a4, pR 1 0], (m, n))
        obtain ⟨r11, q10, h⟩ := zr_k h
        refine zcallVI (pc := 39) (As := [pI a4]) (st := []) (c := 1) (j := 0) hF (m_X5_exists rfl q10) w_X5_exists k_6_119 (by decide +kernel) rfl rfl rfl rfl rfl rfl rfl ?_
        refine zif_ne (tgt := 51) (pc := 42) hF (by decide +kernel) (fun b12 => ?_) (fun b12 => ?_)
        · replace h := zit b12 h
          refine zcut [true, false, false, false, false] ?_
          exact m_X6_cross_L45 hl hF hR  _  h
        · replace h := zif b12 h
          refine zrun hF [(.iload_n 1, 1, pI 0)] 51 _ (by decide +kernel) ?_
          show zG w f 5 52 ([some (pR 0 0), some (pI a1), some (pI a2), some (pI a3), some (pI a4)], [pI a1], (m, n))
          obtain ⟨r14, q13, h⟩ := zr_k h
          refine zcallSI (pc := 52) (As := [pI a1]) (st := []) hF (m_X6_bit  q13) w_X6_bit k_6_199 (by decide +kernel) rfl rfl rfl rfl ?_
          refine zrun hF [(.iload_n 2, 1, pI 0)] 55 _ (by decide +kernel) ?_
          show zG w f 5 56 ([some (pR 0 0), some (pI a1), some (pI a2), some (pI a3), some (pI a4)], [pI a2, pI r14], (m, n))
          obtain ⟨r16, q15, h⟩ := zr_k h
          refine zcallSI (pc := 56) (As := [pI a2]) (st := [pI r14]) hF (m_X6_bit  q15) w_X6_bit k_6_199 (by decide +kernel) rfl rfl rfl rfl ?_
          refine zrun hF [(.ior, 1, pI 0), (.iload_n 3, 1, pI 0)] 59 _ (by decide +kernel) ?_
          show zG w f 5 61 ([some (pR 0 0), some (pI a1), some (pI a2), some (pI a3), some (pI a4)], [pI a3, pI (r14 ||| r16)], (m, n))
          obtain ⟨r18, q17, h⟩ := zr_k h
          refine zcallSI (pc := 61) (As := [pI a3]) (st := [pI (r14 ||| r16)]) hF (m_X6_bit  q17) w_X6_bit k_6_199 (by decide +kernel) rfl rfl rfl rfl ?_
          refine zrun hF [(.ior, 1, pI 0), (.iload 4, 2, pI 0)] 64 _ (by decide +kernel) ?_
          show zG w f 5 67 ([some (pR 0 0), some (pI a1), some (pI a2), some (pI a3), some (pI a4)], [pI a4, pI ((r14 ||| r16) ||| r18)], (m, n))
          obtain ⟨r20, q19, h⟩ := zr_k h
          refine zcallSI (pc := 67) (As := [pI a4]) (st := [pI ((r14 ||| r16) ||| r18)]) hF (m_X6_bit  q19) w_X6_bit k_6_199 (by decide +kernel) rfl rfl rfl rfl ?_
          refine zrun hF [(.ior, 1, pI 0)] 70 _ (by decide +kernel) ?_
          show zG w f 5 71 ([some (pR 0 0), some (pI a1), some (pI a2), some (pI a3), some (pI a4)], [pI (((r14 ||| r16) ||| r18) ||| r20)], (m, n))
          obtain ⟨r22, q21, h⟩ := zr_k h
          refine zcallSI (pc := 71) (As := [pI (((r14 ||| r16) ||| r18) ||| r20)]) (st := []) hF (m_J6_bitCount_0f7a4  q21) w_J6_bitCount_0f7a4 k_6_202 (by decide +kernel) rfl rfl rfl rfl ?_
          refine zrun hF [(.iconst 4, 1, pI 4)] 74 _ (by decide +kernel) ?_
          show zG w f 5 75 ([some (pR 0 0), some (pI a1), some (pI a2), some (pI a3), some (pI a4)], [pI 4, pI r22], (m, n))
          refine zicmp_eq (tgt := 85) (pc := 75) hF (by decide +kernel) (fun b23 => ?_) (fun b23 => ?_)
          · replace h := zit b23 h
            refine zrun hF [(.aload_n 0, 1, pI 0), (.getfield 10, 3, pR 0 0), (.iload_n 1, 1, pI 0), (.iload_n 2, 1, pI 0), (.iload_n 3, 1, pI 0), (.iload 4, 2, pI 0)] 85 _ (by decide +kernel) ?_
            refine (And.intro rfl (And.intro rfl ?_))
            show zG w f 5 94 ([some (pR 0 0), some (pI a1), some (pI a2), some (pI a3), some (pI a4)], [pI a4, pI a3, pI a2, pI a1, pR 1 0], (m, n))
            obtain ⟨r25, q24, h⟩ := zr_k h
            refine zcallVI (pc := 94) (As := [pI a1, pI a2, pI a3, pI a4]) (st := []) (c := 1) (j := 0) hF (m_X5_armsCross rfl q24) w_X5_armsCross k_6_207 (by decide +kernel) rfl rfl rfl rfl rfl rfl rfl ?_
            refine zif_eq (tgt := 104) (pc := 97) hF (by decide +kernel) (fun b26 => ?_) (fun b26 => ?_)
            · replace h := zit b26 h
              refine zrun hF [(.iconst 0, 1, pI 0)] 104 _ (by decide +kernel) ?_
              show zG w f 5 105 ([some (pR 0 0), some (pI a1), some (pI a2), some (pI a3), some (pI a4)], [pI 0], (m, n))
              exact zretI (pc := 105) hF hR (by decide +kernel) rfl (congrArg Prod.fst (Option.some.inj h)) (congrArg (fun (q : Int32 × zMem) => (q.2, n)) (Option.some.inj h))
            · replace h := zif b26 h
              refine zrun hF [(.iconst 1, 1, pI 1)] 100 _ (by decide +kernel) ?_
              show zG w f 5 101 ([some (pR 0 0), some (pI a1), some (pI a2), some (pI a3), some (pI a4)], [pI 1], (m, n))
              refine zgoto (tgt := 105) (pc := 101) hF (by decide +kernel) ?_
              exact zretI (pc := 105) hF hR (by decide +kernel) rfl (congrArg Prod.fst (Option.some.inj h)) (congrArg (fun (q : Int32 × zMem) => (q.2, n)) (Option.some.inj h))
          · replace h := zif b23 h
            refine zrun hF [(.aload_n 0, 1, pI 0), (.bipush (-6), 2, pI (-6))] 78 _ (by decide +kernel) ?_
            show zG w f 5 81 ([some (pR 0 0), some (pI a1), some (pI a2), some (pI a3), some (pI a4)], [pI (-6), pR 0 0], (m, n))
            obtain ⟨r28, m29, q27, h⟩ := zb_k h
            refine zcallVI (pc := 81) (As := [pI (-6)]) (st := []) (c := 0) (j := 0) hF (m_X6_refuse  q27) w_X6_refuse k_6_73 (by decide +kernel) rfl rfl rfl rfl rfl rfl rfl ?_
            exact zretI (pc := 84) hF hR (by decide +kernel) rfl (congrArg Prod.fst (Option.some.inj h)) (congrArg (fun (q : Int32 × zMem) => (q.2, n)) (Option.some.inj h))

set_option maxHeartbeats 4000000 in
set_option maxRecDepth 100000 in
theorem m_X7_isBetween_L30 {w : zWd} {f : zFr} {n : zMem} {x : Int32} {lc : Launch} {mr : zMem} (hl : f.2.1 = lc) (hF : zFOK w f 7 cX7_isBetween 6 1) (hR : zFin w f (some .boolean) (zQI w x (n, mr))) : ∀ (x1 : Int32) (x2 : Int32) (x3 : Int32) (y0 : Int32) (m : zMem), m = mr → s_X7_isBetween_L30 x1 x2 x3 y0 m = some x → zG w f 6 30 ([some (pR 64 0), some (pI x1), some (pI x2), some (pI x3), none, none], [pI y0], (n, m)) := by
  intro x1 x2 x3 y0 m hm h
  unfold s_X7_isBetween_L30 at h
  obtain ⟨c4, h⟩ := zchk h
  obtain ⟨c5, h⟩ := zchk h
  refine zrun hF [(.istore 4, 2, pI 0), (.aload_n 0, 1, pI 0), (.getfield 29, 3, pR 64 10), (.iload_n 2, 1, pI 0), (.iaload, 1, pI 0), (.aload_n 0, 1, pI 0), (.getfield 29, 3, pR 64 10), (.iload_n 3, 1, pI 0), (.iaload, 1, pI 0), (.iadd, 1, pI 0), (.iload 4, 2, pI 0), (.isub, 1, pI 0), (.istore 5, 2, pI 0)] 30 _ (by decide +kernel) ?_
  refine (And.intro rfl (And.intro rfl (And.intro rfl (And.intro rfl (And.intro rfl (And.intro c4 (And.intro rfl (And.intro rfl (And.intro rfl (And.intro rfl (And.intro c5 (And.intro rfl ?_))))))))))))
  refine zlet_k (P := fun (v6 : Int32) => zG w f 6 50 ([some (pR 64 0), some (pI x1), some (pI x2), some (pI x3), some (pI y0), some (pI v6)], [], (n, m))) h (fun v6 h => ?_)
  obtain ⟨c7, h⟩ := zchk h
  refine zrun hF [(.aload_n 0, 1, pI 0), (.getfield 29, 3, pR 64 10), (.iload_n 1, 1, pI 0), (.iaload, 1, pI 0), (.iload 4, 2, pI 0)] 50 _ (by decide +kernel) ?_
  refine (And.intro rfl (And.intro rfl (And.intro rfl (And.intro rfl (And.intro c7 ?_)))))
  show zG w f 6 58 ([some (pR 64 0), some (pI x1), some (pI x2), some (pI x3), some (pI y0), some (pI v6)], [pI y0, pI (m.1 68 0 (ix x1))], (n, m))
  refine zicmp_le (tgt := 76) (pc := 58) hF (by decide +kernel) (fun b8 => ?_) (fun b8 => ?_)
  · replace h := zit b8 h
    refine zrun hF [(.iconst 0, 1, pI 0)] 76 _ (by decide +kernel) ?_
    show zG w f 6 77 ([some (pR 64 0), some (pI x1), some (pI x2), some (pI x3), some (pI y0), some (pI v6)], [pI 0], (n, m))
    exact zretI (pc := 77) hF hR (by decide +kernel) (by decide +kernel) (Option.some.inj h) (congrArg (fun q => (n, q)) hm)
  · replace h := zif b8 h
    refine zrun hF [(.aload_n 0, 1, pI 0), (.getfield 29, 3, pR 64 10), (.iload_n 1, 1, pI 0), (.iaload, 1, pI 0), (.iload 5, 2, pI 0)] 61 _ (by decide +kernel) ?_
    refine (And.intro rfl (And.intro rfl (And.intro rfl (And.intro rfl (And.intro c7 ?_)))))
    show zG w f 6 69 ([some (pR 64 0), some (pI x1), some (pI x2), some (pI x3), some (pI y0), some (pI v6)], [pI v6, pI (m.1 68 0 (ix x1))], (n, m))
    refine zicmp_ge (tgt := 76) (pc := 69) hF (by decide +kernel) (fun b9 => ?_) (fun b9 => ?_)
    · replace h := zit b9 h
      refine zrun hF [(.iconst 0, 1, pI 0)] 76 _ (by decide +kernel) ?_
      show zG w f 6 77 ([some (pR 64 0), some (pI x1), some (pI x2), some (pI x3), some (pI y0), some (pI v6)], [pI 0], (n, m))
      exact zretI (pc := 77) hF hR (by decide +kernel) (by decide +kernel) (Option.some.inj h) (congrArg (fun q => (n, q)) hm)
    · replace h := zif b9 h
      refine zrun hF [(.iconst 1, 1, pI 1)] 72 _ (by decide +kernel) ?_
      show zG w f 6 73 ([some (pR 64 0), some (pI x1), some (pI x2), some (pI x3), some (pI y0), some (pI v6)], [pI 1], (n, m))
      refine zgoto (tgt := 77) (pc := 73) hF (by decide +kernel) ?_
      exact zretI (pc := 77) hF hR (by decide +kernel) (by decide +kernel) (Option.some.inj h) (congrArg (fun q => (n, q)) hm)

set_option maxHeartbeats 4000000 in
set_option maxRecDepth 100000 in
theorem m_X7_isBetween {w : zWd} {lc : Launch} {n : zMem} {a1 : Int32} {a2 : Int32} {a3 : Int32} {m : zMem} {x : Int32}  (h : s_X7_isBetween a1 a2 a3 m = some x) : zMet w lc 1 yX7_isBetween cX7_isBetween 6 (some .boolean) [pR 64 0, pI a1, pI a2, pI a3] (n, m) (zQI w x (n, m)) := by
  refine zmet (o := 7) (by decide +kernel) rfl (Nat.le_of_ble_eq_true rfl) rfl (fun f hl hF hR => ?_)
  unfold s_X7_isBetween at h
  show zG w f 6 0 ([some (pR 64 0), some (pI a1), some (pI a2), some (pI a3), none, none], [], (n, m))
  obtain ⟨c1, h⟩ := zchk h
  obtain ⟨c2, h⟩ := zchk h
  refine zrun hF [(.aload_n 0, 1, pI 0), (.getfield 29, 3, pR 64 10), (.iload_n 2, 1, pI 0), (.iaload, 1, pI 0), (.aload_n 0, 1, pI 0), (.getfield 29, 3, pR 64 10), (.iload_n 3, 1, pI 0), (.iaload, 1, pI 0)] 0 _ (by decide +kernel) ?_
  refine (And.intro rfl (And.intro rfl (And.intro rfl (And.intro rfl (And.intro c1 (And.intro rfl (And.intro rfl (And.intro rfl (And.intro rfl (And.intro c2 ?_))))))))))
  show zG w f 6 12 ([some (pR 64 0), some (pI a1), some (pI a2), some (pI a3), none, none], [pI (m.1 68 0 (ix a3)), pI (m.1 68 0 (ix a2))], (n, m))
  refine zicmp_ge (tgt := 24) (pc := 12) hF (by decide +kernel) (fun b3 => ?_) (fun b3 => ?_)
  · replace h := zit b3 h
    refine zrun hF [(.aload_n 0, 1, pI 0), (.getfield 29, 3, pR 64 10), (.iload_n 3, 1, pI 0), (.iaload, 1, pI 0)] 24 _ (by decide +kernel) ?_
    refine (And.intro rfl (And.intro rfl (And.intro rfl (And.intro rfl (And.intro c2 ?_)))))
    show zG w f 6 30 ([some (pR 64 0), some (pI a1), some (pI a2), some (pI a3), none, none], [pI (m.1 68 0 (ix a3))], (n, m))
    exact m_X7_isBetween_L30 hl hF hR  _ _ _ _ _  rfl h
  · replace h := zif b3 h
    refine zrun hF [(.aload_n 0, 1, pI 0), (.getfield 29, 3, pR 64 10), (.iload_n 2, 1, pI 0), (.iaload, 1, pI 0)] 15 _ (by decide +kernel) ?_
    refine (And.intro rfl (And.intro rfl (And.intro rfl (And.intro rfl (And.intro c1 ?_)))))
    show zG w f 6 21 ([some (pR 64 0), some (pI a1), some (pI a2), some (pI a3), none, none], [pI (m.1 68 0 (ix a2))], (n, m))
    refine zgoto (tgt := 30) (pc := 21) hF (by decide +kernel) ?_
    exact m_X7_isBetween_L30 hl hF hR  _ _ _ _ _  rfl h

set_option maxHeartbeats 4000000 in
set_option maxRecDepth 100000 in
theorem m_X7_isLeft_L20 {w : zWd} {f : zFr} {n : zMem} {x : Int32} {lc : Launch} {mr : zMem} (hl : f.2.1 = lc) (hF : zFOK w f 7 cX7_isLeft 3 1) (hR : zFin w f (some .boolean) (zQI w x (n, mr))) : ∀ (m : zMem), m = mr → s_X7_isLeft_L20 m = some x → zG w f 3 20 ([none, none, none], [], (n, m)) := by
  intro m hm h
  unfold s_X7_isLeft_L20 at h
  refine zrun hF [(.iconst 1, 1, pI 1)] 20 _ (by decide +kernel) ?_
  show zG w f 3 21 ([none, none, none], [pI 1], (n, m))
  refine zgoto (tgt := 25) (pc := 21) hF (by decide +kernel) ?_
  exact zretI (pc := 25) hF hR (by decide +kernel) (by decide +kernel) (Option.some.inj h) (congrArg (fun q => (n, q)) hm)

set_option maxHeartbeats 4000000 in
set_option maxRecDepth 100000 in
theorem m_X7_isLeft {w : zWd} {lc : Launch} {n : zMem} {a1 : Int32} {a2 : Int32} {m : zMem} {x : Int32}  (h : s_X7_isLeft a1 a2 m = some x) : zMet w lc 1 yX7_isLeft cX7_isLeft 3 (some .boolean) [pR 64 0, pI a1, pI a2] (n, m) (zQI w x (n, m)) := by
  refine zmet (o := 7) (by decide +kernel) rfl (Nat.le_of_ble_eq_true rfl) rfl (fun f hl hF hR => ?_)
  unfold s_X7_isLeft at h
  show zG w f 3 0 ([some (pR 64 0), some (pI a1), some (pI a2)], [], (n, m))
  obtain ⟨c1, h⟩ := zchk h
  refine zrun hF [(.aload_n 0, 1, pI 0), (.getfield 23, 3, pR 64 8), (.iload_n 1, 1, pI 0), (.iaload, 1, pI 0), (.iconst 4, 1, pI 4)] 0 _ (by decide +kernel) ?_
  refine (And.intro rfl (And.intro rfl (And.intro rfl (And.intro rfl (And.intro c1 ?_)))))
  show zG w f 3 7 ([some (pR 64 0), some (pI a1), some (pI a2)], [pI 4, pI (m.1 66 0 (ix a1))], (n, m))
  refine zicmp_eq (tgt := 20) (pc := 7) hF (by decide +kernel) (fun b2 => ?_) (fun b2 => ?_)
  · replace h := zit b2 h
    refine zcut [false, false, false] ?_
    exact m_X7_isLeft_L20 hl hF hR  _  rfl h
  · replace h := zif b2 h
    obtain ⟨c3, h⟩ := zchk h
    refine zrun hF [(.aload_n 0, 1, pI 0), (.getfield 23, 3, pR 64 8), (.iload_n 2, 1, pI 0), (.iaload, 1, pI 0), (.iconst 4, 1, pI 4)] 10 _ (by decide +kernel) ?_
    refine (And.intro rfl (And.intro rfl (And.intro rfl (And.intro rfl (And.intro c3 ?_)))))
    show zG w f 3 17 ([some (pR 64 0), some (pI a1), some (pI a2)], [pI 4, pI (m.1 66 0 (ix a2))], (n, m))
    refine zicmp_ne (tgt := 24) (pc := 17) hF (by decide +kernel) (fun b4 => ?_) (fun b4 => ?_)
    · replace h := zit b4 h
      refine zcut [false, false, false] ?_
      exact m_X7_isLeft_L20 hl hF hR  _  rfl h
    · replace h := zif b4 h
      refine zrun hF [(.iconst 0, 1, pI 0)] 24 _ (by decide +kernel) ?_
      show zG w f 3 25 ([some (pR 64 0), some (pI a1), some (pI a2)], [pI 0], (n, m))
      exact zretI (pc := 25) hF hR (by decide +kernel) (by decide +kernel) (Option.some.inj h) rfl

set_option maxHeartbeats 4000000 in
set_option maxRecDepth 100000 in
theorem m_X7_crosses_L86 {w : zWd} {f : zFr} {n : zMem} {x : Int32} {lc : Launch} {mr : zMem} (hl : f.2.1 = lc) (hF : zFOK w f 7 cX7_crosses 5 2) (hR : zFin w f (some .boolean) (zQI w x (n, mr))) : ∀ (m : zMem), m = mr → s_X7_crosses_L86 m = some x → zG w f 5 86 ([none, none, none, none, none], [], (n, m)) := by
  intro m hm h
  unfold s_X7_crosses_L86 at h
  refine zrun hF [(.iconst 1, 1, pI 1)] 86 _ (by decide +kernel) ?_
  show zG w f 5 87 ([none, none, none, none, none], [pI 1], (n, m))
  refine zgoto (tgt := 91) (pc := 87) hF (by decide +kernel) ?_
  exact zretI (pc := 91) hF hR (by decide +kernel) (by decide +kernel) (Option.some.inj h) (congrArg (fun q => (n, q)) hm)

set_option maxHeartbeats 4000000 in
set_option maxRecDepth 100000 in
theorem m_X7_crosses {w : zWd} {lc : Launch} {n : zMem} {a1 : Int32} {a2 : Int32} {a3 : Int32} {a4 : Int32} {m : zMem} {x : Int32}  (h : s_X7_crosses a1 a2 a3 a4 m = some x) : zMet w lc 2 yX7_crosses cX7_crosses 5 (some .boolean) [pR 64 0, pI a1, pI a2, pI a3, pI a4] (n, m) (zQI w x (n, m)) := by
  refine zmet (o := 7) (by decide +kernel) rfl (Nat.le_of_ble_eq_true rfl) rfl (fun f hl hF hR => ?_)
  unfold s_X7_crosses at h
  show zG w f 5 0 ([some (pR 64 0), some (pI a1), some (pI a2), some (pI a3), some (pI a4)], [], (n, m))
  refine zrun hF [(.aload_n 0, 1, pI 0), (.iload_n 3, 1, pI 0), (.iload_n 1, 1, pI 0), (.iload_n 2, 1, pI 0)] 0 _ (by decide +kernel) ?_
  show zG w f 5 4 ([some (pR 64 0), some (pI a1), some (pI a2), some (pI a3), some (pI a4)], [pI a2, pI a1, pI a3, pR 64 0], (n, m))
  obtain ⟨r2, q1, h⟩ := zr_k h
  refine zcallVI (pc := 4) (As := [pI a3, pI a1, pI a2]) (st := []) (c := 64) (j := 0) hF (m_X7_isBetween  q1) w_X7_isBetween k_7_205 (by decide +kernel) rfl rfl rfl rfl rfl rfl rfl ?_
  refine zrun hF [(.aload_n 0, 1, pI 0), (.iload 4, 2, pI 0), (.iload_n 1, 1, pI 0), (.iload_n 2, 1, pI 0)] 7 _ (by decide +kernel) ?_
  show zG w f 5 12 ([some (pR 64 0), some (pI a1), some (pI a2), some (pI a3), some (pI a4)], [pI a2, pI a1, pI a4, pR 64 0, pI r2], (n, m))
  obtain ⟨r4, q3, h⟩ := zr_k h
  refine zcallVI (pc := 12) (As := [pI a4, pI a1, pI a2]) (st := [pI r2]) (c := 64) (j := 0) hF (m_X7_isBetween  q3) w_X7_isBetween k_7_205 (by decide +kernel) rfl rfl rfl rfl rfl rfl rfl ?_
  refine zicmp_ne (tgt := 20) (pc := 15) hF (by decide +kernel) (fun b5 => ?_) (fun b5 => ?_)
  · replace h := zit b5 h
    refine zrun hF [(.iconst 0, 1, pI 0)] 18 _ (by decide +kernel) ?_
    show zG w f 5 19 ([some (pR 64 0), some (pI a1), some (pI a2), some (pI a3), some (pI a4)], [pI 0], (n, m))
    exact zretI (pc := 19) hF hR (by decide +kernel) (by decide +kernel) (Option.some.inj h) rfl
  · replace h := zif b5 h
    obtain ⟨c6, h⟩ := zchk h
    refine zrun hF [(.aload_n 0, 1, pI 0), (.getfield 23, 3, pR 64 8), (.iload_n 1, 1, pI 0), (.iaload, 1, pI 0), (.bipush 6, 2, pI 6)] 20 _ (by decide +kernel) ?_
    refine (And.intro rfl (And.intro rfl (And.intro rfl (And.intro rfl (And.intro c6 ?_)))))
    show zG w f 5 28 ([some (pR 64 0), some (pI a1), some (pI a2), some (pI a3), some (pI a4)], [pI 6, pI (m.1 66 0 (ix a1))], (n, m))
    refine zicmp_eq (tgt := 65) (pc := 28) hF (by decide +kernel) (fun b7 => ?_) (fun b7 => ?_)
    · replace h := zit b7 h
      refine zrun hF [(.iconst 0, 1, pI 0)] 65 _ (by decide +kernel) ?_
      show zG w f 5 66 ([some (pR 64 0), some (pI a1), some (pI a2), some (pI a3), some (pI a4)], [pI 0], (n, m))
      exact zretI (pc := 66) hF hR (by decide +kernel) (by decide +kernel) (Option.some.inj h) rfl
    · replace h := zif b7 h
      obtain ⟨c8, h⟩ := zchk h
      refine zrun hF [(.aload_n 0, 1, pI 0), (.getfield 23, 3, pR 64 8), (.iload_n 2, 1, pI 0), (.iaload, 1, pI 0), (.bipush 6, 2, pI 6)] 31 _ (by decide +kernel) ?_
      refine (And.intro rfl (And.intro rfl (And.intro rfl (And.intro rfl (And.intro c8 ?_)))))
      show zG w f 5 39 ([some (pR 64 0), some (pI a1), some (pI a2), some (pI a3), some (pI a4)], [pI 6, pI (m.1 66 0 (ix a2))], (n, m))
      refine zicmp_eq (tgt := 65) (pc := 39) hF (by decide +kernel) (fun b9 => ?_) (fun b9 => ?_)
      · replace h := zit b9 h
        refine zrun hF [(.iconst 0, 1, pI 0)] 65 _ (by decide +kernel) ?_
        show zG w f 5 66 ([some (pR 64 0), some (pI a1), some (pI a2), some (pI a3), some (pI a4)], [pI 0], (n, m))
        exact zretI (pc := 66) hF hR (by decide +kernel) (by decide +kernel) (Option.some.inj h) rfl
      · replace h := zif b9 h
        obtain ⟨c10, h⟩ := zchk h
        refine zrun hF [(.aload_n 0, 1, pI 0), (.getfield 23, 3, pR 64 8), (.iload_n 3, 1, pI 0), (.iaload, 1, pI 0), (.bipush 6, 2, pI 6)] 42 _ (by decide +kernel) ?_
        refine (And.intro rfl (And.intro rfl (And.intro rfl (And.intro rfl (And.intro c10 ?_)))))
        show zG w f 5 50 ([some (pR 64 0), some (pI a1), some (pI a2), some (pI a3), some (pI a4)], [pI 6, pI (m.1 66 0 (ix a3))], (n, m))
        refine zicmp_eq (tgt := 65) (pc := 50) hF (by decide +kernel) (fun b11 => ?_) (fun b11 => ?_)
        · replace h := zit b11 h
          refine zrun hF [(.iconst 0, 1, pI 0)] 65 _ (by decide +kernel) ?_
          show zG w f 5 66 ([some (pR 64 0), some (pI a1), some (pI a2), some (pI a3), some (pI a4)], [pI 0], (n, m))
          exact zretI (pc := 66) hF hR (by decide +kernel) (by decide +kernel) (Option.some.inj h) rfl
        · replace h := zif b11 h
          obtain ⟨c12, h⟩ := zchk h
          refine zrun hF [(.aload_n 0, 1, pI 0), (.getfield 23, 3, pR 64 8), (.iload 4, 2, pI 0), (.iaload, 1, pI 0), (.bipush 6, 2, pI 6)] 53 _ (by decide +kernel) ?_
          refine (And.intro rfl (And.intro rfl (And.intro rfl (And.intro rfl (And.intro c12 ?_)))))
          show zG w f 5 62 ([some (pR 64 0), some (pI a1), some (pI a2), some (pI a3), some (pI a4)], [pI 6, pI (m.1 66 0 (ix a4))], (n, m))
          refine zicmp_ne (tgt := 67) (pc := 62) hF (by decide +kernel) (fun b13 => ?_) (fun b13 => ?_)
          · replace h := zit b13 h
            refine zrun hF [(.iconst 0, 1, pI 0)] 65 _ (by decide +kernel) ?_
            show zG w f 5 66 ([some (pR 64 0), some (pI a1), some (pI a2), some (pI a3), some (pI a4)], [pI 0], (n, m))
            exact zretI (pc := 66) hF hR (by decide +kernel) (by decide +kernel) (Option.some.inj h) rfl
          · replace h := zif b13 h
            refine zrun hF [(.aload_n 0, 1, pI 0), (.iload_n 1, 1, pI 0), (.iload_n 2, 1, pI 0)] 67 _ (by decide +kernel) ?_
            show zG w f 5 70 ([some (pR 64 0), some (pI a1), some (pI a2), some (pI a3), some (pI a4)], [pI a2, pI a1, pR 64 0], (n, m))
            obtain ⟨r15, q14, h⟩ := zr_k h
            refine zcallVI (pc := 70) (As := [pI a1, pI a2]) (st := []) (c := 64) (j := 0) hF (m_X7_isLeft  q14) w_X7_isLeft k_7_209 (by decide +kernel) rfl rfl rfl rfl rfl rfl rfl ?_
            refine zif_eq (tgt := 86) (pc := 73) hF (by decide +kernel) (fun b16 => ?_) (fun b16 => ?_)
            · replace h := zit b16 h
              refine zcut [false, false, false, false, false] ?_
              exact m_X7_crosses_L86 hl hF hR  _  rfl h
            · replace h := zif b16 h
              refine zrun hF [(.aload_n 0, 1, pI 0), (.iload_n 3, 1, pI 0), (.iload 4, 2, pI 0)] 76 _ (by decide +kernel) ?_
              show zG w f 5 80 ([some (pR 64 0), some (pI a1), some (pI a2), some (pI a3), some (pI a4)], [pI a4, pI a3, pR 64 0], (n, m))
              obtain ⟨r18, q17, h⟩ := zr_k h
              refine zcallVI (pc := 80) (As := [pI a3, pI a4]) (st := []) (c := 64) (j := 0) hF (m_X7_isLeft  q17) w_X7_isLeft k_7_209 (by decide +kernel) rfl rfl rfl rfl rfl rfl rfl ?_
              refine zif_ne (tgt := 90) (pc := 83) hF (by decide +kernel) (fun b19 => ?_) (fun b19 => ?_)
              · replace h := zit b19 h
                refine zcut [false, false, false, false, false] ?_
                exact m_X7_crosses_L86 hl hF hR  _  rfl h
              · replace h := zif b19 h
                refine zrun hF [(.iconst 0, 1, pI 0)] 90 _ (by decide +kernel) ?_
                show zG w f 5 91 ([some (pR 64 0), some (pI a1), some (pI a2), some (pI a3), some (pI a4)], [pI 0], (n, m))
                exact zretI (pc := 91) hF hR (by decide +kernel) (by decide +kernel) (Option.some.inj h) rfl

set_option maxHeartbeats 4000000 in
set_option maxRecDepth 100000 in
theorem m_X7_cross_L33 {w : zWd} {f : zFr} {n : zMem} {x : Int32} {m0 : zMem} {lc : Launch} (hl : f.2.1 = lc) (hF : zFOK w f 7 cX7_cross 5 3) (hR : zFin w f (some .int) (zQI w x (n, m0))) : ∀ (m : zMem), s_X7_cross_L33 m = some (x, m0) → zG w f 5 33 ([some (pR 64 0), none, none, none, none], [], (n, m)) := by
  intro m h
  unfold s_X7_cross_L33 at h
  refine zrun hF [(.aload_n 0, 1, pI 0), (.iconst (-1), 1, pI (-1))] 33 _ (by decide +kernel) ?_
  show zG w f 5 35 ([some (pR 64 0), none, none, none, none], [pI (-1), pR 64 0], (n, m))
  obtain ⟨r23, m24, q22, h⟩ := zb_k h
  refine zcallVI (pc := 35) (As := [pI (-1)]) (st := []) (c := 64) (j := 0) hF (m_X7_no  q22) w_X7_no k_7_100 (by decide +kernel) rfl rfl rfl rfl rfl rfl rfl ?_
  exact zretI (pc := 38) hF hR (by decide +kernel) rfl (congrArg Prod.fst (Option.some.inj h)) (congrArg (fun (q : Int32 × zMem) => (n, q.2)) (Option.some.inj h))

set_option maxHeartbeats 4000000 in
set_option maxRecDepth 100000 in
theorem m_X7_cross_L72 {w : zWd} {f : zFr} {n : zMem} {x : Int32} {m0 : zMem} {lc : Launch} (hl : f.2.1 = lc) (hF : zFOK w f 7 cX7_cross 5 3) (hR : zFin w f (some .int) (zQI w x (n, m0))) : ∀ (m : zMem), s_X7_cross_L72 m = some (x, m0) → zG w f 5 72 ([some (pR 64 0), none, none, none, none], [], (n, m)) := by
  intro m h
  unfold s_X7_cross_L72 at h
  refine zrun hF [(.aload_n 0, 1, pI 0), (.bipush (-6), 2, pI (-6))] 72 _ (by decide +kernel) ?_
  show zG w f 5 75 ([some (pR 64 0), none, none, none, none], [pI (-6), pR 64 0], (n, m))
  obtain ⟨r26, m27, q25, h⟩ := zb_k h
  refine zcallVI (pc := 75) (As := [pI (-6)]) (st := []) (c := 64) (j := 0) hF (m_X7_no  q25) w_X7_no k_7_100 (by decide +kernel) rfl rfl rfl rfl rfl rfl rfl ?_
  exact zretI (pc := 78) hF hR (by decide +kernel) rfl (congrArg Prod.fst (Option.some.inj h)) (congrArg (fun (q : Int32 × zMem) => (n, q.2)) (Option.some.inj h))

set_option maxHeartbeats 4000000 in
set_option maxRecDepth 100000 in
theorem m_X7_cross {w : zWd} {lc : Launch} {n : zMem} {a1 : Int32} {a2 : Int32} {a3 : Int32} {a4 : Int32} {m : zMem} {x : Int32} {m0 : zMem}  (h : s_X7_cross a1 a2 a3 a4 m = some (x, m0)) : zMet w lc 3 yX7_cross cX7_cross 5 (some .int) [pR 64 0, pI a1, pI a2, pI a3, pI a4] (n, m) (zQI w x (n, m0)) := by
  refine zmet (o := 7) (by decide +kernel) rfl (Nat.le_of_ble_eq_true rfl) rfl (fun f hl hF hR => ?_)
  unfold s_X7_cross at h
  show zG w f 5 0 ([some (pR 64 0), some (pI a1), some (pI a2), some (pI a3), some (pI a4)], [], (n, m))
  refine zrun hF [(.aload_n 0, 1, pI 0), (.iload_n 1, 1, pI 0)] 0 _ (by decide +kernel) ?_
  show zG w f 5 2 ([some (pR 64 0), some (pI a1), some (pI a2), some (pI a3), some (pI a4)], [pI a1, pR 64 0], (n, m))
  obtain ⟨r2, q1, h⟩ := zr_k h
  refine zcallVI (pc := 2) (As := [pI a1]) (st := []) (c := 64) (j := 0) hF (m_X7_isGuest  q1) w_X7_isGuest k_7_104 (by decide +kernel) rfl rfl rfl rfl rfl rfl rfl ?_
  refine zif_eq (tgt := 33) (pc := 5) hF (by decide +kernel) (fun b3 => ?_) (fun b3 => ?_)
  · replace h := zit b3 h
    refine zcut [true, false, false, false, false] ?_
    exact m_X7_cross_L33 hl hF hR  _  h
  · replace h := zif b3 h
    refine zrun hF [(.aload_n 0, 1, pI 0), (.iload_n 2, 1, pI 0)] 8 _ (by decide +kernel) ?_
    show zG w f 5 10 ([some (pR 64 0), some (pI a1), some (pI a2), some (pI a3), some (pI a4)], [pI a2, pR 64 0], (n, m))
    obtain ⟨r5, q4, h⟩ := zr_k h
    refine zcallVI (pc := 10) (As := [pI a2]) (st := []) (c := 64) (j := 0) hF (m_X7_isGuest  q4) w_X7_isGuest k_7_104 (by decide +kernel) rfl rfl rfl rfl rfl rfl rfl ?_
    refine zif_eq (tgt := 33) (pc := 13) hF (by decide +kernel) (fun b6 => ?_) (fun b6 => ?_)
    · replace h := zit b6 h
      refine zcut [true, false, false, false, false] ?_
      exact m_X7_cross_L33 hl hF hR  _  h
    · replace h := zif b6 h
      refine zrun hF [(.aload_n 0, 1, pI 0), (.iload_n 3, 1, pI 0)] 16 _ (by decide +kernel) ?_
      show zG w f 5 18 ([some (pR 64 0), some (pI a1), some (pI a2), some (pI a3), some (pI a4)], [pI a3, pR 64 0], (n, m))
      obtain ⟨r8, q7, h⟩ := zr_k h
      refine zcallVI (pc := 18) (As := [pI a3]) (st := []) (c := 64) (j := 0) hF (m_X7_isGuest  q7) w_X7_isGuest k_7_104 (by decide +kernel) rfl rfl rfl rfl rfl rfl rfl ?_
      refine zif_eq (tgt := 33) (pc := 21) hF (by decide +kernel) (fun b9 => ?_) (fun b9 => ?_)
      · replace h := zit b9 h
        refine zcut [true, false, false, false, false] ?_
        exact m_X7_cross_L33 hl hF hR  _  h
      · replace h := zif b9 h
        refine zrun hF [(.aload_n 0, 1, pI 0), (.iload 4, 2, pI 0)] 24 _ (by decide +kernel) ?_
        show zG w f 5 27 ([some (pR 64 0), some (pI a1), some (pI a2), some (pI a3), some (pI a4)], [pI a4, pR 64 0], (n, m))
        obtain ⟨r11, q10, h⟩ := zr_k h
        refine zcallVI (pc := 27) (As := [pI a4]) (st := []) (c := 64) (j := 0) hF (m_X7_isGuest  q10) w_X7_isGuest k_7_104 (by decide +kernel) rfl rfl rfl rfl rfl rfl rfl ?_
        refine zif_ne (tgt := 39) (pc := 30) hF (by decide +kernel) (fun b12 => ?_) (fun b12 => ?_)
        · replace h := zit b12 h
          refine zcut [true, false, false, false, false] ?_
          exact m_X7_cross_L33 hl hF hR  _  h
        · replace h := zif b12 h
          refine zrun hF [(.iload_n 1, 1, pI 0), (.iload_n 2, 1, pI 0)] 39 _ (by decide +kernel) ?_
          show zG w f 5 41 ([some (pR 64 0), some (pI a1), some (pI a2), some (pI a3), some (pI a4)], [pI a2, pI a1], (n, m))
          refine zicmp_eq (tgt := 72) (pc := 41) hF (by decide +kernel) (fun b13 => ?_) (fun b13 => ?_)
          · replace h := zit b13 h
            refine zcut [true, false, false, false, false] ?_
            exact m_X7_cross_L72 hl hF hR  _  h
          · replace h := zif b13 h
            refine zrun hF [(.iload_n 1, 1, pI 0), (.iload_n 3, 1, pI 0)] 44 _ (by decide +kernel) ?_
            show zG w f 5 46 ([some (pR 64 0), some (pI a1), some (pI a2), some (pI a3), some (pI a4)], [pI a3, pI a1], (n, m))
            refine zicmp_eq (tgt := 72) (pc := 46) hF (by decide +kernel) (fun b14 => ?_) (fun b14 => ?_)
            · replace h := zit b14 h
              refine zcut [true, false, false, false, false] ?_
              exact m_X7_cross_L72 hl hF hR  _  h
            · replace h := zif b14 h
              refine zrun hF [(.iload_n 1, 1, pI 0), (.iload 4, 2, pI 0)] 49 _ (by decide +kernel) ?_
              show zG w f 5 52 ([some (pR 64 0), some (pI a1), some (pI a2), some (pI a3), some (pI a4)], [pI a4, pI a1], (n, m))
              refine zicmp_eq (tgt := 72) (pc := 52) hF (by decide +kernel) (fun b15 => ?_) (fun b15 => ?_)
              · replace h := zit b15 h
                refine zcut [true, false, false, false, false] ?_
                exact m_X7_cross_L72 hl hF hR  _  h
              · replace h := zif b15 h
                refine zrun hF [(.iload_n 2, 1, pI 0), (.iload_n 3, 1, pI 0)] 55 _ (by decide +kernel) ?_
                show zG w f 5 57 ([some (pR 64 0), some (pI a1), some (pI a2), some (pI a3), some (pI a4)], [pI a3, pI a2], (n, m))
                refine zicmp_eq (tgt := 72) (pc := 57) hF (by decide +kernel) (fun b16 => ?_) (fun b16 => ?_)
                · replace h := zit b16 h
                  refine zcut [true, false, false, false, false] ?_
                  exact m_X7_cross_L72 hl hF hR  _  h
                · replace h := zif b16 h
                  refine zrun hF [(.iload_n 2, 1, pI 0), (.iload 4, 2, pI 0)] 60 _ (by decide +kernel) ?_
                  show zG w f 5 63 ([some (pR 64 0), some (pI a1), some (pI a2), some (pI a3), some (pI a4)], [pI a4, pI a2], (n, m))
                  refine zicmp_eq (tgt := 72) (pc := 63) hF (by decide +kernel) (fun b17 => ?_) (fun b17 => ?_)
                  · replace h := zit b17 h
                    refine zcut [true, false, false, false, false] ?_
                    exact m_X7_cross_L72 hl hF hR  _  h
                  · replace h := zif b17 h
                    refine zrun hF [(.iload_n 3, 1, pI 0), (.iload 4, 2, pI 0)] 66 _ (by decide +kernel) ?_
                    show zG w f 5 69 ([some (pR 64 0), some (pI a1), some (pI a2), some (pI a3), some (pI a4)], [pI a4, pI a3], (n, m))
                    refine zicmp_ne (tgt := 79) (pc := 69) hF (by decide +kernel) (fun b18 => ?_) (fun b18 => ?_)
                    · replace h := zit b18 h
                      refine zcut [true, false, false, false, false] ?_
                      exact m_X7_cross_L72 hl hF hR  _  h
                    · replace h := zif b18 h
                      refine zrun hF [(.aload_n 0, 1, pI 0), (.iload_n 1, 1, pI 0), (.iload_n 2, 1, pI 0), (.iload_n 3, 1, pI 0), (.iload 4, 2, pI 0)] 79 _ (by decide +kernel) ?_
                      show zG w f 5 85 ([some (pR 64 0), some (pI a1), some (pI a2), some (pI a3), some (pI a4)], [pI a4, pI a3, pI a2, pI a1, pR 64 0], (n, m))
                      obtain ⟨r20, q19, h⟩ := zr_k h
                      refine zcallVI (pc := 85) (As := [pI a1, pI a2, pI a3, pI a4]) (st := []) (c := 64) (j := 0) hF (m_X7_crosses  q19) w_X7_crosses k_7_215 (by decide +kernel) rfl rfl rfl rfl rfl rfl rfl ?_
                      refine zif_eq (tgt := 95) (pc := 88) hF (by decide +kernel) (fun b21 => ?_) (fun b21 => ?_)
                      · replace h := zit b21 h
                        refine zrun hF [(.iconst 0, 1, pI 0)] 95 _ (by decide +kernel) ?_
                        show zG w f 5 96 ([some (pR 64 0), some (pI a1), some (pI a2), some (pI a3), some (pI a4)], [pI 0], (n, m))
                        exact zretI (pc := 96) hF hR (by decide +kernel) rfl (congrArg Prod.fst (Option.some.inj h)) (congrArg (fun (q : Int32 × zMem) => (n, q.2)) (Option.some.inj h))
                      · replace h := zif b21 h
                        refine zrun hF [(.iconst 1, 1, pI 1)] 91 _ (by decide +kernel) ?_
                        show zG w f 5 92 ([some (pR 64 0), some (pI a1), some (pI a2), some (pI a3), some (pI a4)], [pI 1], (n, m))
                        refine zgoto (tgt := 96) (pc := 92) hF (by decide +kernel) ?_
                        exact zretI (pc := 96) hF hR (by decide +kernel) rfl (congrArg Prod.fst (Option.some.inj h)) (congrArg (fun (q : Int32 × zMem) => (n, q.2)) (Option.some.inj h))

set_option maxHeartbeats 4000000 in
set_option maxRecDepth 100000 in
theorem m_X2_guestsOf {w : zWd} {lc : Launch} {n : zMem} {a1 : Int32} {m : zMem} {x : Int32}  (h : s_X2_guestsOf a1 m = some x) : zMet w lc 2 yX2_guestsOf cX2_guestsOf 2 (some .int) [pR 10 0, pI a1] (m, n) (zQI w x (m, n)) := by
  refine zmet (o := 2) (by decide +kernel) rfl (Nat.le_of_ble_eq_true rfl) rfl (fun f hl hF hR => ?_)
  unfold s_X2_guestsOf at h
  show zG w f 2 0 ([some (pR 10 0), some (pI a1)], [], (m, n))
  obtain ⟨c1, h⟩ := zchk h
  refine zrun hF [(.aload_n 0, 1, pI 0), (.getfield 9, 3, pR 10 0), (.iload_n 1, 1, pI 0), (.iaload, 1, pI 0)] 0 _ (by decide +kernel) ?_
  refine (And.intro rfl (And.intro rfl (And.intro rfl (And.intro rfl (And.intro c1 ?_)))))
  show zG w f 2 6 ([some (pR 10 0), some (pI a1)], [pI (m.1 11 0 (ix a1))], (m, n))
  obtain ⟨r3, q2, h⟩ := zr_k h
  refine zcallNI (pc := 6) (As := [pI (m.1 11 0 (ix a1))]) (st := []) hF (m_X6_bit  q2) w_X6_bit k_2_75 (by decide +kernel) rfl rfl rfl rfl ?_
  refine zrun hF [(.aload_n 0, 1, pI 0), (.getfield 15, 3, pR 10 1), (.iload_n 1, 1, pI 0), (.iaload, 1, pI 0)] 9 _ (by decide +kernel) ?_
  refine (And.intro rfl (And.intro rfl (And.intro rfl (And.intro rfl (And.intro c1 ?_)))))
  show zG w f 2 15 ([some (pR 10 0), some (pI a1)], [pI (m.1 12 0 (ix a1)), pI r3], (m, n))
  obtain ⟨r5, q4, h⟩ := zr_k h
  refine zcallNI (pc := 15) (As := [pI (m.1 12 0 (ix a1))]) (st := [pI r3]) hF (m_X6_bit  q4) w_X6_bit k_2_75 (by decide +kernel) rfl rfl rfl rfl ?_
  refine zrun hF [(.ior, 1, pI 0)] 18 _ (by decide +kernel) ?_
  show zG w f 2 19 ([some (pR 10 0), some (pI a1)], [pI (r3 ||| r5)], (m, n))
  exact zretI (pc := 19) hF hR (by decide +kernel) rfl (Option.some.inj h) rfl

set_option maxHeartbeats 4000000 in
set_option maxRecDepth 100000 in
theorem m_X2_note_15 {w : zWd} {lc : Launch} {n : zMem} {a2 : Int32} {m : zMem} {m0 : zMem}  (h : s_X2_note_15 a2 m = some m0) : zMet w lc 1 yX2_note cX2_note 3 none [pR 10 0, pR 15 0, pI a2] (m, n) (zQV w (m0, n)) := by
  refine zmet (o := 2) (by decide +kernel) rfl (Nat.le_of_ble_eq_true rfl) rfl (fun f hl hF hR => ?_)
  unfold s_X2_note_15 at h
  show zG w f 3 0 ([some (pR 10 0), some (pR 15 0), some (pI a2)], [], (m, n))
  obtain ⟨c1, h⟩ := zchk h
  refine zrun hF [(.aload_n 1, 1, pI 0), (.iload_n 2, 1, pI 0), (.dup2, 1, pI 0), (.laload, 1, pI 0), (.lconst 1, 1, pL 1), (.aload_n 0, 1, pI 0), (.getfield 34, 3, pR 10 7), (.lshl, 1, pI 0), (.lor, 1, pI 0), (.lastore, 1, pI 0)] 0 _ (by decide +kernel) ?_
  refine (And.intro rfl (And.intro rfl (And.intro rfl (And.intro c1 (And.intro rfl (And.intro rfl (And.intro rfl (And.intro rfl (And.intro c1 ?_)))))))))
  refine zlet_k (P := fun (m2 : zMem) => zG w f 3 12 ([some (pR 10 0), some (pR 15 0), some (pI a2)], [], (m2, n))) h (fun m2 h => ?_)
  obtain ⟨c3, h⟩ := zchk h
  refine zrun hF [(.aload_n 1, 1, pI 0), (.aload_n 0, 1, pI 0), (.getfield 34, 3, pR 10 7), (.dup2, 1, pI 0), (.laload, 1, pI 0), (.lconst 1, 1, pL 1), (.iload_n 2, 1, pI 0), (.lshl, 1, pI 0), (.lor, 1, pI 0), (.lastore, 1, pI 0)] 12 _ (by decide +kernel) ?_
  refine (And.intro rfl (And.intro rfl (And.intro rfl (And.intro rfl (And.intro rfl (And.intro c3 (And.intro rfl (And.intro rfl (And.intro c3 ?_)))))))))
  refine zlet_k (P := fun (m4 : zMem) => zG w f 3 24 ([some (pR 10 0), some (pR 15 0), some (pI a2)], [], (m4, n))) h (fun m4 h => ?_)
  exact zretV (pc := 24) hF hR (by decide +kernel) (congrArg (fun q => (q, n)) (Option.some.inj h))

set_option maxHeartbeats 4000000 in
set_option maxRecDepth 100000 in
theorem m_X2_note_14 {w : zWd} {lc : Launch} {n : zMem} {a2 : Int32} {m : zMem} {m0 : zMem}  (h : s_X2_note_14 a2 m = some m0) : zMet w lc 1 yX2_note cX2_note 3 none [pR 10 0, pR 14 0, pI a2] (m, n) (zQV w (m0, n)) := by
  refine zmet (o := 2) (by decide +kernel) rfl (Nat.le_of_ble_eq_true rfl) rfl (fun f hl hF hR => ?_)
  unfold s_X2_note_14 at h
  show zG w f 3 0 ([some (pR 10 0), some (pR 14 0), some (pI a2)], [], (m, n))
  obtain ⟨c1, h⟩ := zchk h
  refine zrun hF [(.aload_n 1, 1, pI 0), (.iload_n 2, 1, pI 0), (.dup2, 1, pI 0), (.laload, 1, pI 0), (.lconst 1, 1, pL 1), (.aload_n 0, 1, pI 0), (.getfield 34, 3, pR 10 7), (.lshl, 1, pI 0), (.lor, 1, pI 0), (.lastore, 1, pI 0)] 0 _ (by decide +kernel) ?_
  refine (And.intro rfl (And.intro rfl (And.intro rfl (And.intro c1 (And.intro rfl (And.intro rfl (And.intro rfl (And.intro rfl (And.intro c1 ?_)))))))))
  refine zlet_k (P := fun (m2 : zMem) => zG w f 3 12 ([some (pR 10 0), some (pR 14 0), some (pI a2)], [], (m2, n))) h (fun m2 h => ?_)
  obtain ⟨c3, h⟩ := zchk h
  refine zrun hF [(.aload_n 1, 1, pI 0), (.aload_n 0, 1, pI 0), (.getfield 34, 3, pR 10 7), (.dup2, 1, pI 0), (.laload, 1, pI 0), (.lconst 1, 1, pL 1), (.iload_n 2, 1, pI 0), (.lshl, 1, pI 0), (.lor, 1, pI 0), (.lastore, 1, pI 0)] 12 _ (by decide +kernel) ?_
  refine (And.intro rfl (And.intro rfl (And.intro rfl (And.intro rfl (And.intro rfl (And.intro c3 (And.intro rfl (And.intro rfl (And.intro c3 ?_)))))))))
  refine zlet_k (P := fun (m4 : zMem) => zG w f 3 24 ([some (pR 10 0), some (pR 14 0), some (pI a2)], [], (m4, n))) h (fun m4 h => ?_)
  exact zretV (pc := 24) hF hR (by decide +kernel) (congrArg (fun q => (q, n)) (Option.some.inj h))

