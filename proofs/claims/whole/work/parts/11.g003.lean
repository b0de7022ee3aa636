set_option maxHeartbeats 4000000 in
set_option maxRecDepth 100000 in
theorem m_X6_set {w : zWd} {lc : Launch} {n : zMem} {a1 : Int32} {a2 : Int32} {a3 : Int64} {m : zMem} {x : Int32} {m0 : zMem}  (h : s_X6_set a1 a2 a3 m = some (x, m0)) : zMet w lc 3 yX6_set cX6_set 6 (some .int) [pR 0 0, pI a1, pI a2, pL a3] (m, n) (zQI w x (m0, n)) := by
  refine zmet (o := 6) (by decide +kernel) rfl (Nat.le_of_ble_eq_true rfl) rfl (fun f hl hF hR => ?_)
  unfold s_X6_set at h
  show zG w f 6 0 ([some (pR 0 0), some (pI a1), some (pI a2), some (pL a3), none, none], [], (m, n))
  refine zrun hF [(.aload_n 0, 1, pI 0), (.iload_n 1, 1, pI 0)] 0 _ (by decide +kernel) ?_
  show zG w f 6 2 ([some (pR 0 0), some (pI a1), some (pI a2), some (pL a3), none, none], [pI a1, pR 0 0], (m, n))
  obtain ⟨r2, q1, h⟩ := zr_k h
  refine zcallVI (pc := 2) (As := [pI a1]) (st := []) (c := 0) (j := 0) hF (m_X6_refusalOfRow  q1) w_X6_refusalOfRow k_6_81 (by decide +kernel) rfl rfl rfl rfl rfl rfl rfl ?_
  refine zrun hF [(.istore 5, 2, pI 0), (.iload 5, 2, pI 0)] 5 _ (by decide +kernel) ?_
  refine (And.intro rfl ?_)
  show zG w f 6 9 ([some (pR 0 0), some (pI a1), some (pI a2), some (pL a3), none, some (pI r2)], [pI r2], (m, n))
  refine zif_eq (tgt := 19) (pc := 9) hF (by decide +kernel) (fun b3 => ?_) (fun b3 => ?_)
  · replace h := zit b3 h
    obtain ⟨c4, h⟩ := zchk h
    refine zrun hF [(.aload_n 0, 1, pI 0), (.getfield 28, 3, pR 0 4), (.iload_n 1, 1, pI 0), (.aaload, 1, pI 0), (.iload_n 2, 1, pI 0)] 19 _ (by decide +kernel) ?_
    refine (And.intro rfl (And.intro rfl (And.intro rfl (And.intro c4 ?_))))
    show zG w f 6 26 ([some (pR 0 0), some (pI a1), some (pI a2), some (pL a3), none, some (pI r2)], [pI a2, pR 8 (ix a1)], (m, n))
    obtain ⟨r6, q5, h⟩ := zr_k h
    refine zcallVI (pc := 26) (As := [pI a2]) (st := []) (c := 8) (j := (ix a1)) hF (m_X4_has (zinb_blt c4) q5) w_X4_has k_6_84 (by decide +kernel) rfl (zinb_blt c4) rfl rfl rfl rfl rfl ?_
    refine zif_ne (tgt := 39) (pc := 29) hF (by decide +kernel) (fun b7 => ?_) (fun b7 => ?_)
    · replace h := zit b7 h
      refine zrun hF [(.aload_n 0, 1, pI 0), (.bipush (-5), 2, pI (-5))] 32 _ (by decide +kernel) ?_
      show zG w f 6 35 ([some (pR 0 0), some (pI a1), some (pI a2), some (pL a3), none, some (pI r2)], [pI (-5), pR 0 0], (m, n))
      obtain ⟨r9, m10, q8, h⟩ := zb_k h
      refine zcallVI (pc := 35) (As := [pI (-5)]) (st := []) (c := 0) (j := 0) hF (m_X6_refuse  q8) w_X6_refuse k_6_73 (by decide +kernel) rfl rfl rfl rfl rfl rfl rfl ?_
      exact zretI (pc := 38) hF hR (by decide +kernel) rfl (congrArg Prod.fst (Option.some.inj h)) (congrArg (fun (q : Int32 × zMem) => (q.2, n)) (Option.some.inj h))
    · replace h := zif b7 h
      refine zrun hF [(.aload_n 0, 1, pI 0), (.getfield 28, 3, pR 0 4), (.iload_n 1, 1, pI 0), (.aaload, 1, pI 0), (.iload_n 2, 1, pI 0), (.lload_n 3, 1, pI 0)] 39 _ (by decide +kernel) ?_
      refine (And.intro rfl (And.intro rfl (And.intro rfl (And.intro c4 ?_))))
      show zG w f 6 47 ([some (pR 0 0), some (pI a1), some (pI a2), some (pL a3), none, some (pI r2)], [pL a3, pI a2, pR 8 (ix a1)], (m, n))
      obtain ⟨m13, q11, h⟩ := zr_k h
      refine zcallVV (pc := 47) (As := [pI a2, pL a3]) (st := []) (c := 8) (j := (ix a1)) hF (m_X4_put (zinb_blt c4) q11) w_X4_put k_6_87 (by decide +kernel) rfl (zinb_blt c4) rfl rfl rfl rfl rfl ?_
      refine zrun hF [(.iconst 1, 1, pI 1)] 50 _ (by decide +kernel) ?_
      show zG w f 6 51 ([some (pR 0 0), some (pI a1), some (pI a2), some (pL a3), none, some (pI r2)], [pI 1], (m13, n))
      exact zretI (pc := 51) hF hR (by decide +kernel) rfl (congrArg Prod.fst (Option.some.inj h)) (congrArg (fun (q : Int32 × zMem) => (q.2, n)) (Option.some.inj h))
  · replace h := zif b3 h
    refine zrun hF [(.aload_n 0, 1, pI 0), (.iload 5, 2, pI 0)] 12 _ (by decide +kernel) ?_
    show zG w f 6 15 ([some (pR 0 0), some (pI a1), some (pI a2), some (pL a3), none, some (pI r2)], [pI r2, pR 0 0], (m, n))
    obtain ⟨r15, m16, q14, h⟩ := zb_k h
    refine zcallVI (pc := 15) (As := [pI r2]) (st := []) (c := 0) (j := 0) hF (m_X6_refuse  q14) w_X6_refuse k_6_73 (by decide +kernel) rfl rfl rfl rfl rfl rfl rfl ?_
    exact zretI (pc := 18) hF hR (by decide +kernel) rfl (congrArg Prod.fst (Option.some.inj h)) (congrArg (fun (q : Int32 × zMem) => (q.2, n)) (Option.some.inj h))

set_option maxHeartbeats 4000000 in
set_option maxRecDepth 100000 in
theorem m_X7_set_L61 {w : zWd} {f : zFr} {n : zMem} {x : Int32} {m0 : zMem} {lc : Launch} (hl : f.2.1 = lc) (hF : zFOK w f 7 cX7_set 5 2) (hR : zFin w f (some .int) (zQI w x (n, m0))) : ∀ (m : zMem), s_X7_set_L61 m = some (x, m0) → zG w f 5 61 ([some (pR 64 0), none, none, none, none], [], (n, m)) := by
  intro m h
  unfold s_X7_set_L61 at h
  refine zrun hF [(.aload_n 0, 1, pI 0), (.bipush (-5), 2, pI (-5))] 61 _ (by decide +kernel) ?_
  show zG w f 5 64 ([some (pR 64 0), none, none, none, none], [pI (-5), pR 64 0], (n, m))
  obtain ⟨r30, m31, q29, h⟩ := zb_k h
  refine zcallVI (pc := 64) (As := [pI (-5)]) (st := []) (c := 64) (j := 0) hF (m_X7_no  q29) w_X7_no k_7_100 (by decide +kernel) rfl rfl rfl rfl rfl rfl rfl ?_
  exact zretI (pc := 67) hF hR (by decide +kernel) rfl (congrArg Prod.fst (Option.some.inj h)) (congrArg (fun (q : Int32 × zMem) => (n, q.2)) (Option.some.inj h))

set_option maxHeartbeats 4000000 in
set_option maxRecDepth 100000 in
theorem m_X7_set {w : zWd} {lc : Launch} {n : zMem} {a1 : Int32} {a2 : Int32} {a3 : Int64} {m : zMem} {x : Int32} {m0 : zMem}  (h : s_X7_set a1 a2 a3 m = some (x, m0)) : zMet w lc 2 yX7_set cX7_set 5 (some .int) [pR 64 0, pI a1, pI a2, pL a3] (n, m) (zQI w x (n, m0)) := by
  refine zmet (o := 7) (by decide +kernel) rfl (Nat.le_of_ble_eq_true rfl) rfl (fun f hl hF hR => ?_)
  unfold s_X7_set at h
  show zG w f 5 0 ([some (pR 64 0), some (pI a1), some (pI a2), some (pL a3), none], [], (n, m))
  refine zrun hF [(.aload_n 0, 1, pI 0), (.iload_n 1, 1, pI 0)] 0 _ (by decide +kernel) ?_
  show zG w f 5 2 ([some (pR 64 0), some (pI a1), some (pI a2), some (pL a3), none], [pI a1, pR 64 0], (n, m))
  obtain ⟨r2, q1, h⟩ := zr_k h
  refine zcallVI (pc := 2) (As := [pI a1]) (st := []) (c := 64) (j := 0) hF (m_X7_isShelf  q1) w_X7_isShelf k_7_96 (by decide +kernel) rfl rfl rfl rfl rfl rfl rfl ?_
  refine zif_ne (tgt := 14) (pc := 5) hF (by decide +kernel) (fun b3 => ?_) (fun b3 => ?_)
  · replace h := zit b3 h
    refine zrun hF [(.aload_n 0, 1, pI 0), (.iconst (-1), 1, pI (-1))] 8 _ (by decide +kernel) ?_
    show zG w f 5 10 ([some (pR 64 0), some (pI a1), some (pI a2), some (pL a3), none], [pI (-1), pR 64 0], (n, m))
    obtain ⟨r5, m6, q4, h⟩ := zb_k h
    refine zcallVI (pc := 10) (As := [pI (-1)]) (st := []) (c := 64) (j := 0) hF (m_X7_no  q4) w_X7_no k_7_100 (by decide +kernel) rfl rfl rfl rfl rfl rfl rfl ?_
    exact zretI (pc := 13) hF hR (by decide +kernel) rfl (congrArg Prod.fst (Option.some.inj h)) (congrArg (fun (q : Int32 × zMem) => (n, q.2)) (Option.some.inj h))
  · replace h := zif b3 h
    obtain ⟨c7, h⟩ := zchk h
    refine zrun hF [(.aload_n 0, 1, pI 0), (.getfield 38, 3, pR 64 13), (.iload_n 1, 1, pI 0), (.iaload, 1, pI 0), (.iconst 2, 1, pI 2)] 14 _ (by decide +kernel) ?_
    refine (And.intro rfl (And.intro rfl (And.intro rfl (And.intro rfl (And.intro c7 ?_)))))
    show zG w f 5 21 ([some (pR 64 0), some (pI a1), some (pI a2), some (pL a3), none], [pI 2, pI (m.1 71 0 (ix a1))], (n, m))
    refine zicmp_ne (tgt := 31) (pc := 21) hF (by decide +kernel) (fun b8 => ?_) (fun b8 => ?_)
    · replace h := zit b8 h
      refine zrun hF [(.aload_n 0, 1, pI 0), (.bipush (-2), 2, pI (-2))] 24 _ (by decide +kernel) ?_
      show zG w f 5 27 ([some (pR 64 0), some (pI a1), some (pI a2), some (pL a3), none], [pI (-2), pR 64 0], (n, m))
      obtain ⟨r10, m11, q9, h⟩ := zb_k h
      refine zcallVI (pc := 27) (As := [pI (-2)]) (st := []) (c := 64) (j := 0) hF (m_X7_no  q9) w_X7_no k_7_100 (by decide +kernel) rfl rfl rfl rfl rfl rfl rfl ?_
      exact zretI (pc := 30) hF hR (by decide +kernel) rfl (congrArg Prod.fst (Option.some.inj h)) (congrArg (fun (q : Int32 × zMem) => (n, q.2)) (Option.some.inj h))
    · replace h := zif b8 h
      refine zrun hF [(.aload_n 0, 1, pI 0), (.getfield 38, 3, pR 64 13), (.iload_n 1, 1, pI 0), (.iaload, 1, pI 0)] 31 _ (by decide +kernel) ?_
      refine (And.intro rfl (And.intro rfl (And.intro rfl (And.intro rfl (And.intro c7 ?_)))))
      show zG w f 5 37 ([some (pR 64 0), some (pI a1), some (pI a2), some (pL a3), none], [pI (m.1 71 0 (ix a1))], (n, m))
      refine zif_ne (tgt := 47) (pc := 37) hF (by decide +kernel) (fun b12 => ?_) (fun b12 => ?_)
      · replace h := zit b12 h
        refine zrun hF [(.aload_n 0, 1, pI 0), (.bipush (-3), 2, pI (-3))] 40 _ (by decide +kernel) ?_
        show zG w f 5 43 ([some (pR 64 0), some (pI a1), some (pI a2), some (pL a3), none], [pI (-3), pR 64 0], (n, m))
        obtain ⟨r14, m15, q13, h⟩ := zb_k h
        refine zcallVI (pc := 43) (As := [pI (-3)]) (st := []) (c := 64) (j := 0) hF (m_X7_no  q13) w_X7_no k_7_100 (by decide +kernel) rfl rfl rfl rfl rfl rfl rfl ?_
        exact zretI (pc := 46) hF hR (by decide +kernel) rfl (congrArg Prod.fst (Option.some.inj h)) (congrArg (fun (q : Int32 × zMem) => (n, q.2)) (Option.some.inj h))
      · replace h := zif b12 h
        refine zrun hF [(.iload_n 2, 1, pI 0)] 47 _ (by decide +kernel) ?_
        show zG w f 5 48 ([some (pR 64 0), some (pI a1), some (pI a2), some (pL a3), none], [pI a2], (n, m))
        refine zif_lt (tgt := 61) (pc := 48) hF (by decide +kernel) (fun b16 => ?_) (fun b16 => ?_)
        · replace h := zit b16 h
          refine zcut [true, false, false, false, true] ?_
          exact m_X7_set_L61 hl hF hR  _  h
        · replace h := zif b16 h
          refine zrun hF [(.iload_n 2, 1, pI 0), (.aload_n 0, 1, pI 0), (.getfield 44, 3, pR 64 15), (.iload_n 1, 1, pI 0), (.iaload, 1, pI 0)] 51 _ (by decide +kernel) ?_
          refine (And.intro rfl (And.intro rfl (And.intro rfl (And.intro rfl (And.intro c7 ?_)))))
          show zG w f 5 58 ([some (pR 64 0), some (pI a1), some (pI a2), some (pL a3), none], [pI (m.1 73 0 (ix a1)), pI a2], (n, m))
          refine zicmp_lt (tgt := 68) (pc := 58) hF (by decide +kernel) (fun b17 => ?_) (fun b17 => ?_)
          · replace h := zit b17 h
            refine zrun hF [(.aload_n 0, 1, pI 0), (.getfield 50, 3, pR 64 17), (.sipush 160, 3, pI 160), (.iload_n 1, 1, pI 0), (.imul, 1, pI 0), (.iload_n 2, 1, pI 0), (.iadd, 1, pI 0), (.aload_n 0, 1, pI 0), (.getfield 41, 3, pR 64 14), (.iload_n 1, 1, pI 0), (.iaload, 1, pI 0)] 68 _ (by decide +kernel) ?_
            refine (And.intro rfl (And.intro rfl (And.intro rfl (And.intro rfl (And.intro rfl (And.intro rfl (And.intro c7 ?_)))))))
            show zG w f 5 85 ([some (pR 64 0), some (pI a1), some (pI a2), some (pL a3), none], [pI (m.1 72 0 (ix a1)), pI ((160 * a1) + a2), pR 75 0], (n, m))
            refine zif_ne (tgt := 95) (pc := 85) hF (by decide +kernel) (fun b18 => ?_) (fun b18 => ?_)
            · replace h := zit b18 h
              refine zrun hF [(.lload_n 3, 1, pI 0), (.l2i, 1, pI 0), (.i2b, 1, pI 0), (.i2l, 1, pI 0)] 88 _ (by decide +kernel) ?_
              show zG w f 5 92 ([some (pR 64 0), some (pI a1), some (pI a2), some (pL a3), none], [pL (Int32.toInt64 (jb (Int64.toInt32 a3))), pI ((160 * a1) + a2), pR 75 0], (n, m))
              refine zgoto (tgt := 129) (pc := 92) hF (by decide +kernel) ?_
              obtain ⟨c19, h⟩ := zchk h
              refine zrun hF [(.lastore, 1, pI 0)] 129 _ (by decide +kernel) ?_
              refine (And.intro rfl (And.intro rfl (And.intro c19 ?_)))
              refine zlet_k (P := fun (m20 : zMem) => zG w f 5 130 ([some (pR 64 0), some (pI a1), some (pI a2), some (pL a3), none], [], (n, m20))) h (fun m20 h => ?_)
              refine zrun hF [(.iconst 1, 1, pI 1)] 130 _ (by decide +kernel) ?_
              show zG w f 5 131 ([some (pR 64 0), some (pI a1), some (pI a2), some (pL a3), none], [pI 1], (n, m20))
              exact zretI (pc := 131) hF hR (by decide +kernel) rfl (congrArg Prod.fst (Option.some.inj h)) (congrArg (fun (q : Int32 × zMem) => (n, q.2)) (Option.some.inj h))
            · replace h := zif b18 h
              refine zrun hF [(.aload_n 0, 1, pI 0), (.getfield 41, 3, pR 64 14), (.iload_n 1, 1, pI 0), (.iaload, 1, pI 0), (.iconst 1, 1, pI 1)] 95 _ (by decide +kernel) ?_
              refine (And.intro rfl (And.intro rfl (And.intro rfl (And.intro rfl (And.intro c7 ?_)))))
              show zG w f 5 102 ([some (pR 64 0), some (pI a1), some (pI a2), some (pL a3), none], [pI 1, pI (m.1 72 0 (ix a1)), pI ((160 * a1) + a2), pR 75 0], (n, m))
              refine zicmp_ne (tgt := 112) (pc := 102) hF (by decide +kernel) (fun b21 => ?_) (fun b21 => ?_)
              · replace h := zit b21 h
                refine zrun hF [(.lload_n 3, 1, pI 0), (.l2i, 1, pI 0), (.i2s, 1, pI 0), (.i2l, 1, pI 0)] 105 _ (by decide +kernel) ?_
                show zG w f 5 109 ([some (pR 64 0), some (pI a1), some (pI a2), some (pL a3), none], [pL (Int32.toInt64 (js (Int64.toInt32 a3))), pI ((160 * a1) + a2), pR 75 0], (n, m))
                refine zgoto (tgt := 129) (pc := 109) hF (by decide +kernel) ?_
                obtain ⟨c22, h⟩ := zchk h
                refine zrun hF [(.lastore, 1, pI 0)] 129 _ (by decide +kernel) ?_
                refine (And.intro rfl (And.intro rfl (And.intro c22 ?_)))
                refine zlet_k (P := fun (m23 : zMem) => zG w f 5 130 ([some (pR 64 0), some (pI a1), some (pI a2), some (pL a3), none], [], (n, m23))) h (fun m23 h => ?_)
                refine zrun hF [(.iconst 1, 1, pI 1)] 130 _ (by decide +kernel) ?_
                show zG w f 5 131 ([some (pR 64 0), some (pI a1), some (pI a2), some (pL a3), none], [pI 1], (n, m23))
                exact zretI (pc := 131) hF hR (by decide +kernel) rfl (congrArg Prod.fst (Option.some.inj h)) (congrArg (fun (q : Int32 × zMem) => (n, q.2)) (Option.some.inj h))
              · replace h := zif b21 h
                refine zrun hF [(.aload_n 0, 1, pI 0), (.getfield 41, 3, pR 64 14), (.iload_n 1, 1, pI 0), (.iaload, 1, pI 0), (.iconst 2, 1, pI 2)] 112 _ (by decide +kernel) ?_
                refine (And.intro rfl (And.intro rfl (And.intro rfl (And.intro rfl (And.intro c7 ?_)))))
                show zG w f 5 119 ([some (pR 64 0), some (pI a1), some (pI a2), some (pL a3), none], [pI 2, pI (m.1 72 0 (ix a1)), pI ((160 * a1) + a2), pR 75 0], (n, m))
                refine zicmp_ne (tgt := 128) (pc := 119) hF (by decide +kernel) (fun b24 => ?_) (fun b24 => ?_)
                · replace h := zit b24 h
                  refine zrun hF [(.lload_n 3, 1, pI 0), (.l2i, 1, pI 0), (.i2l, 1, pI 0)] 122 _ (by decide +kernel) ?_
                  show zG w f 5 125 ([some (pR 64 0), some (pI a1), some (pI a2), some (pL a3), none], [pL (Int32.toInt64 (Int64.toInt32 a3)), pI ((160 * a1) + a2), pR 75 0], (n, m))
                  refine zgoto (tgt := 129) (pc := 125) hF (by decide +kernel) ?_
                  obtain ⟨c25, h⟩ := zchk h
                  refine zrun hF [(.lastore, 1, pI 0)] 129 _ (by decide +kernel) ?_
                  refine (And.intro rfl (And.intro rfl (And.intro c25 ?_)))
                  refine zlet_k (P := fun (m26 : zMem) => zG w f 5 130 ([some (pR 64 0), some (pI a1), some (pI a2), some (pL a3), none], [], (n, m26))) h (fun m26 h => ?_)
                  refine zrun hF [(.iconst 1, 1, pI 1)] 130 _ (by decide +kernel) ?_
                  show zG w f 5 131 ([some (pR 64 0), some (pI a1), some (pI a2), some (pL a3), none], [pI 1], (n, m26))
                  exact zretI (pc := 131) hF hR (by decide +kernel) rfl (congrArg Prod.fst (Option.some.inj h)) (congrArg (fun (q : Int32 × zMem) => (n, q.2)) (Option.some.inj h))
                · replace h := zif b24 h
                  obtain ⟨c27, h⟩ := zchk h
                  refine zrun hF [(.lload_n 3, 1, pI 0), (.lastore, 1, pI 0)] 128 _ (by decide +kernel) ?_
                  refine (And.intro rfl (And.intro rfl (And.intro c27 ?_)))
                  refine zlet_k (P := fun (m28 : zMem) => zG w f 5 130 ([some (pR 64 0), some (pI a1), some (pI a2), some (pL a3), none], [], (n, m28))) h (fun m28 h => ?_)
                  refine zrun hF [(.iconst 1, 1, pI 1)] 130 _ (by decide +kernel) ?_
                  show zG w f 5 131 ([some (pR 64 0), some (pI a1), some (pI a2), some (pL a3), none], [pI 1], (n, m28))
                  exact zretI (pc := 131) hF hR (by decide +kernel) rfl (congrArg Prod.fst (Option.some.inj h)) (congrArg (fun (q : Int32 × zMem) => (n, q.2)) (Option.some.inj h))
          · replace h := zif b17 h
            refine zcut [true, false, false, false, true] ?_
            exact m_X7_set_L61 hl hF hR  _  h

