set_option maxHeartbeats 4000000 in
set_option maxRecDepth 100000 in
theorem m_X7_set_L61 {w : zWd} {f : zFr} {n : zMem} {x : Int32} {m0 : zMem} {lc : Launch} (hl : f.2.1 = lc) (hF : zFOK w f 7 cX7_set 5 2) (hR : zFin w f (some .int) (zQI w x (n, m0))) : ∀ (m : zMem), s_X7_set_L61 m = some (x, m0) → zG w f 5 61 ([some (pR 64 0), none, none, none, none], [], (n, m)) := by
  intro m h
  unfold s_X7_set_L61 at h
  refine zrun hF [(.aload_n 0, 1, pI 0), (.bipush (-5), 2, pI (-5))] 61 _ (by decide +kernel) ?_
  show zG w f 5 64 ([some (pR 64 0), none, none, none, none], [pI (-5), pR 64 0], (n, m))
  obtain ⟨r30, m31, q29, h⟩ := zb_k h
  refine zcallVI (pc := 64) (As := [pI (-5)]) (st := []) (c := 64) (j := 0) hF (m_X7_no  q29) w_X7_no k_7_100 (by decide +kernel) rfl rfl rfl rfl rfl rfl rfl ?_
  exact zretI (pc := 67) hF hR (by decide +kernel) rfl (congrArg Prod.fst (Option.some.inj h)) (congrArg (fun (q : Int32 × zMem) => (n, q.2)) (Option.some.inj h))

set_option maxHeartbeats 4000000 in
set_option maxRecDepth 100000 in
theorem m_X7_set {w : zWd} {lc : Launch} {n : zMem} {a1 : Int32} {a2 : Int32} {a3 : Int64} {m : zMem} {x : Int32} {m0 : zMem}  (h : s_X7_set a1 a2 a3 m = some (x, m0)) : zMet w lc 2 yX7_set cX7_set 5 (some .int) [pR 64 0, pI a1, pI a2, pL a3] (n, m) (zQI w x (n, m0)) := by
  refine zmet (o := 7) (by decide +kernel) rfl (Nat.le_of_ble_eq_true rfl) rfl (fun f hl hF hR => ?_)
  unfold s_X7_set at h
  show zG w f 5 0 ([some (pR 64 0), some (pI a1), some (pI a2), some (pL a3), none], [], (n, m))
  refine zrun hF [(.aload_n 0, 1, pI 0), (.iload_n 1, 1, pI 0)] 0 _ (by decide +kernel) ?_
  show zG w f 5 2 ([some (pR 64 0), some (pI a1), some (pI a2), some (pL a3), none], [pI a1, pR 64 0], (n, m))
  obtain ⟨r2, q1, h⟩ := zr_k h
  refine zcallVI (pc := 2) (As := [pI a1]) (st := []) (c := 64) (j := 0) hF (m_X7_isShelf  q1) w_X7_isShelf k_7_96 (by decide +kernel) rfl rfl rfl rfl rfl rfl rfl ?_
  refine zif_ne (tgt := 14) (pc := 5) hF (by decide +kernel) (fun b3 => ?_) (fun b3 => ?_)
  · replace h := zit b3 h
    refine zrun hF [(.aload_n 0, 1, pI 0), (.iconst (-1), 1, pI (-1))] 8 _ (by decide +kernel) ?_
    show zG w f 5 10 ([some (pR 64 0), some (pI a1), some (pI a2), some (pL a3), none], [pI (-1), pR 64 0], (n, m))
    obtain ⟨r5, m6, q4, h⟩ := zb_k h
    refine zcallVI (pc := 10) (As := [pI (-1)]) (st := []) (c := 64) (j := 0) hF (m_X7_no  q4) w_X7_no k_7_100 (by decide +kernel) rfl rfl rfl rfl rfl rfl rfl ?_
    exact zretI (pc := 13) hF hR (by decide +kernel) rfl (congrArg Prod.fst (Option.some.inj h)) (congrArg (fun (q : Int32 × zMem) => (n, q.2)) (Option.some.inj h))
  · replace h := zif b3 h
    obtain ⟨c7, h⟩ := zchk h
    refine zrun hF [(.aload_n 0, 1, pI 0), (.getfield 38, 3, pR 64 13), (.iload_n 1, 1, pI 0), (.iaload, 1, pI 0), (.iconst 2, 1, pI 2)] 14 _ (by decide +kernel) ?_
    refine (And.intro rfl (And.intro rfl (And.intro rfl (And.intro rfl (And.intro c7 ?_)))))
    show zG w f 5 21 ([some (pR 64 0), some (pI a1), some (pI a2), some (pL a3), none], [pI 2, pI (m.1 71 0 (ix a1))], (n, m))
    refine zicmp_ne (tgt := 31) (pc := 21) hF (by decide +kernel) (fun b8 => ?_) (fun b8 => ?_)
    · replace h := zit b8 h
      refine zrun hF [(.aload_n 0, 1, pI 0), (.bipush (-2), 2, pI (-2))] 24 _ (by decide +kernel) ?_
      show zG w f 5 27 ([some (pR 64 0), some (pI a1), some (pI a2), some (pL a3), none], [pI (-2), pR 64 0], (n, m))
      obtain ⟨r10, m11, q9, h⟩ := zb_k h
      refine zcallVI (pc := 27) (As := [pI (-2)]) (st := []) (c := 64) (j := 0) hF (m_X7_no  q9) w_X7_no k_7_100 (by decide +kernel) rfl rfl rfl rfl rfl rfl rfl ?_
      exact zretI (pc := 30) hF hR (by decide +kernel) rfl (congrArg Prod.fst (Option.some.inj h)) (congrArg (fun (q : Int32 × zMem) => (n, q.2)) (Option.some.inj h))
    · replace h := zif b8 h
      refine zrun hF [(.aload_n 0, 1, pI 0), (.getfield 38, 3, pR 64 13), (.iload_n 1, 1, pI 0), (.iaload, 1, pI 0)] 31 _ (by decide +kernel) ?_
      refine (And.intro rfl (And.intro rfl (And.intro rfl (And.intro rfl (And.intro c7 ?_)))))
      show zG w f 5 37 ([some (pR 64 0), some (pI a1), some (pI a2), some (pL a3), none], [pI (m.1 71 0 (ix a1))], (n, m))
      refine zif_ne (tgt := 47) (pc := 37) hF (by decide +kernel) (fun b12 => ?_) (fun b12 => ?_)
      · replace h := zit b12 h
        refine zrun hF [(.aload_n 0, 1, pI 0), (.bipush (-3), 2, pI (-3))] 40 _ (by decide +kernel) ?_
        show zG w f 5 43 ([some (pR 64 0), some (pI a1), some (pI a2), some (pL a3), none], [pI (-3), pR 64 0], (n, m))
        obtain ⟨r14, m15, q13, h⟩ := zb_k h
        refine zcallVI (pc := 43) (As := [pI (-3)]) (st := []) (c := 64) (j := 0) hF (m_X7_no  q13) w_X7_no k_7_100 (by decide +kernel) rfl rfl rfl rfl rfl rfl rfl ?_
        exact zretI (pc := 46) hF hR (by decide +kernel) rfl (congrArg Prod.fst (Option.some.inj h)) (congrArg (fun (q : Int32 × zMem) => (n, q.2)) (Option.some.inj h))
      · replace h := zif b12 h
        refine zrun hF [(.iload_n 2, 1, pI 0)] 47 _ (by decide +kernel) ?_
        show zG w f 5 48 ([some (pR 64 0), some (pI a1), some (pI a2), some (pL a3), none], [pI a2], (n, m))
        refine zif_lt (tgt := 61) (pc := 48) hF (by decide +kernel) (fun b16 => ?_) (fun b16 => ?_)
        · replace h := zit b16 h
          refine zcut [true, false, false, false, true] ?_
          exact m_X7_set_L61 hl hF hR  _  h
        · replace h := zif b16 h
          refine zrun hF [(.iload_n 2, 1, pI 0), (.aload_n 0, 1, pI 0), (.getfield 44, 3, pR 64 15), (.iload_n 1, 1, pI 0), (.iaload, 1, pI 0)] 51 _ (by decide +kernel) ?_
          refine (And.intro rfl (And.intro rfl (And.intro rfl (And.intro rfl (And.intro c7 ?_)))))
          show zG w f 5 58 ([some (pR 64 0), some (pI a1), some (pI a2), some (pL a3), none], [pI (m.1 73 0 (ix a1)), pI a2], (n, m))
          refine zicmp_lt (tgt := 68) (pc := 58) hF (by decide +kernel) (fun b17 => ?_) (fun b17 => ?_)
          · replace h := zit b17 h
            refine zrun hF [(.aload_n 0, 1, pI 0), (.getfield 50, 3, pR 64 17), (.sipush 160, 3, pI 160), (.iload_n 1, 1, pI 0), (.imul, 1, pI 0), (.iload_n 2, 1, pI 0), (.iadd, 1, pI 0), (.aload_n 0, 1, pI 0), (.getfield 41, 3, pR 64 14), (.iload_n 1, 1, pI 0), (.iaload, 1, pI 0)] 68 _ (by decide +kernel) ?_
            refine (And.intro rfl (And.intro rfl (And.intro rfl (And.intro rfl (And.intro rfl (And.intro rfl (And.intro c7 ?_)))))))
            show zG w f 5 85 ([some (pR 64 0), some (pI a1), some (pI a2), some (pL a3), none], [pI (m.1 72 0 (ix a1)), pI ((160 * a1) + a2), pR 75 0], (n, m))
            refine zif_ne (tgt := 95) (pc := 85) hF (by decide +kernel) (fun b18 => ?_) (fun b18 => ?_)
            · replace h := zit b18 h
              refine zrun hF [(.lload_n 3, 1, pI 0), (.l2i, 1, pI 0), (.i2b, 1, pI 0), (.i2l, 1, pI 0)] 88 _ (by decide +kernel) ?_
              show zG w f 5 92 ([some (pR 64 0), some (pI a1), some (pI a2), some (pL a3), none], [pL (Int32.toInt64 (jb (Int64.toInt32 a3))), pI ((160 * a1) + a2), pR 75 0], (n, m))
              refine zgoto (tgt := 129) (pc := 92) hF (by decide +kernel) ?_
              obtain ⟨c19, h⟩ := zchk h
              refine zrun hF [(.lastore, 1, pI 0)] 129 _ (by decide +kernel) ?_
              refine (And.intro rfl (And.intro rfl (And.intro c19 ?_)))
              refine zlet_k (P := fun (m20 : zMem) => zG w f 5 130 ([some (pR 64 0), some (pI a1), some (pI a2), some (pL a3), none], [], (n, m20))) h (fun m20 h => ?_)
              refine zrun hF [(.iconst 1, 1, pI 1)] 130 _ (by decide +kernel) ?_
              show zG w f 5 131 ([some (pR 64 0), some (pI a1), some (pI a2), some (pL a3), none], [pI 1], (n, m20))
              exact zretI (pc := 131) hF hR (by decide +kernel) rfl (congrArg Prod.fst (Option.some.inj h)) (congrArg (fun (q : Int32 × zMem) => (n, q.2)) (Option.some.inj h))
            · replace h := zif b18 h
              refine zrun hF [(.aload_n 0, 1, pI 0), (.getfield 41, 3, pR 64 14), (.iload_n 1, 1, pI 0), (.iaload, 1, pI 0), (.iconst 1, 1, pI 1)] 95 _ (by decide +kernel) ?_
              refine (And.intro rfl (And.intro rfl (And.intro rfl (And.intro rfl (And.intro c7 ?_)))))
              show zG w f 5 102 ([some (pR 64 0), some (pI a1), some (pI a2), some (pL a3), none], [pI 1, pI (m.1 72 0 (ix a1)), pI ((160 * a1) + a2), pR 75 0], (n, m))
              refine zicmp_ne (tgt := 112) (pc := 102) hF (by decide +kernel) (fun b21 => ?_) (fun b21 => ?_)
              · replace h := zit b21 h
                refine zrun hF [(.lload_n 3, 1, pI 0), (.l2i, 1, pI 0), (.i2s, 1, pI 0), (.i2l, 1, pI 0)] 105 _ (by decide +kernel) ?_
                show zG w f 5 109 ([some (pR 64 0), some (pI a1), some (pI a2), some (pL a3), none], [pL (Int32.toInt64 (js (Int64.toInt32 a3))), pI ((160 * a1) + a2), pR 75 0], (n, m))
                refine zgoto (tgt := 129) (pc := 109) hF (by decide +kernel) ?_
                obtain ⟨c22, h⟩ := zchk h
                refine zrun hF [(.lastore, 1, pI 0)] 129 _ (by decide +kernel) ?_
                refine (And.intro rfl (And.intro rfl (And.intro c22 ?_)))
                refine zlet_k (P := fun (m23 : zMem) => zG w f 5 130 ([some (pR 64 0), some (pI a1), some (pI a2), some (pL a3), none], [], (n, m23))) h (fun m23 h => ?_)
                refine zrun hF [(.iconst 1, 1, pI 1)] 130 _ (by decide +kernel) ?_
                show zG w f 5 131 ([some (pR 64 0), some (pI a1), some (pI a2), some (pL a3), none], [pI 1], (n, m23))
                exact zretI (pc := 131) hF hR (by decide +kernel) rfl (congrArg Prod.fst (Option.some.inj h)) (congrArg (fun (q : Int32 × zMem) => (n, q.2)) (Option.some.inj h))
              · replace h := zif b21 h
                refine zrun hF [(.aload_n 0, 1, pI 0), (.getfield 41, 3, pR 64 14), (.iload_n 1, 1, pI 0), (.iaload, 1, pI 0), (.iconst 2, 1, pI 2)] 112 _ (by decide +kernel) ?_
                refine (And.intro rfl (And.intro rfl (And.intro rfl (And.intro rfl (And.intro c7 ?_)))))
                show zG w f 5 119 ([some (pR 64 0), some (pI a1), some (pI a2), some (pL a3), none], [pI 2, pI (m.1 72 0 (ix a1)), pI ((160 * a1) + a2), pR 75 0], (n, m))
                refine zicmp_ne (tgt := 128) (pc := 119) hF (by decide +kernel) (fun b24 => ?_) (fun b24 => ?_)
                · replace h := zit b24 h
                  refine zrun hF [(.lload_n 3, 1, pI 0), (.l2i, 1, pI 0), (.i2l, 1, pI 0)] 122 _ (by decide +kernel) ?_
                  show zG w f 5 125 ([some (pR 64 0), some (pI a1), some (pI a2), some (pL a3), none], [pL (Int32.toInt64 (Int64.toInt32 a3)), pI ((160 * a1) + a2), pR 75 0], (n, m))
                  refine zgoto (tgt := 129) (pc := 125) hF (by decide +kernel) ?_
                  obtain ⟨c25, h⟩ := zchk h
                  refine zrun hF [(.lastore, 1, pI 0)] 129 _ (by decide +kernel) ?_
                  refine (And.intro rfl (And.intro rfl (And.intro c25 ?_)))
                  refine zlet_k (P := fun (m26 : zMem) => zG w f 5 130 ([some (pR 64 0), some (pI a1), some (pI a2), some (pL a3), none], [], (n, m26))) h (fun m26 h => ?_)
                  refine zrun hF [(.iconst 1, 1, pI 1)] 130 _ (by decide +kernel) ?_
                  show zG w f 5 131 ([some (pR 64 0), some (pI a1), some (pI a2), some (pL a3), none], [pI 1], (n, m26))
                  exact zretI (pc := 131) hF hR (by decide +kernel) rfl (congrArg Prod.fst (Option.some.inj h)) (congrArg (fun (q : Int32 × zMem) => (n, q.2)) (Option.some.inj h))
                · replace h := zif b24 h
                  obtain ⟨c27, h⟩ := zchk h
                  refine zrun hF [(.lload_n 3, 1, pI 0), (.lastore, 1, pI 0)] 128 _ (by decide +kernel) ?_
                  refine (And.intro rfl (And.intro rfl (And.intro c27 ?_)))
                  refine zlet_k (P := fun (m28 : zMem) => zG w f 5 130 ([some (pR 64 0), some (pI a1), some (pI a2), some (pL a3), none], [], (n, m28))) h (fun m28 h => ?_)
                  refine zrun hF [(.iconst 1, 1, pI 1)] 130 _ (by decide +kernel) ?_
                  show zG w f 5 131 ([some (pR 64 0), some (pI a1), some (pI a2), some (pL a3), none], [pI 1], (n, m28))
                  exact zretI (pc := 131) hF hR (by decide +kernel) rfl (congrArg Prod.fst (Option.some.inj h)) (congrArg (fun (q : Int32 × zMem) => (n, q.2)) (Option.some.inj h))
          · replace h := zif b17 h
            refine zcut [true, false, false, false, true] ?_
            exact m_X7_set_L61 hl hF hR  _  h

set_option maxHeartbeats 4000000 in
set_option maxRecDepth 100000 in
theorem m_X4_hasPart {w : zWd} {lc : Launch} {n : zMem} {t : Nat} {a1 : Int32} {a2 : Int32} {m : zMem} {x : Int32} (ht : Nat.blt t 8 = true) (h : s_X4_hasPart t a1 a2 m = some x) : zMet w lc 1 yX4_hasPart cX4_hasPart 3 (some .boolean) [pR 8 t, pI a1, pI a2] (m, n) (zQI w x (m, n)) := by
  refine zmet (o := 4) (by decide +kernel) rfl (Nat.le_of_ble_eq_true rfl) rfl (fun f hl hF hR => ?_)
  unfold s_X4_hasPart at h
  show zG w f 3 0 ([some (pR 8 t), some (pI a1), some (pI a2)], [], (m, n))
  refine zrun hF [(.iload_n 1, 1, pI 0)] 0 _ (by decide +kernel) ?_
  show zG w f 3 1 ([some (pR 8 t), some (pI a1), some (pI a2)], [pI a1], (m, n))
  refine zif_lt (tgt := 30) (pc := 1) hF (by decide +kernel) (fun b1 => ?_) (fun b1 => ?_)
  · replace h := zit b1 h
    refine zrun hF [(.iconst 0, 1, pI 0)] 30 _ (by decide +kernel) ?_
    show zG w f 3 31 ([some (pR 8 t), some (pI a1), some (pI a2)], [pI 0], (m, n))
    exact zretI (pc := 31) hF hR (by decide +kernel) (by decide +kernel) (Option.some.inj h) rfl
  · replace h := zif b1 h
    refine zrun hF [(.iload_n 2, 1, pI 0)] 4 _ (by decide +kernel) ?_
    show zG w f 3 5 ([some (pR 8 t), some (pI a1), some (pI a2)], [pI a2], (m, n))
    refine zif_lt (tgt := 30) (pc := 5) hF (by decide +kernel) (fun b2 => ?_) (fun b2 => ?_)
    · replace h := zit b2 h
      refine zrun hF [(.iconst 0, 1, pI 0)] 30 _ (by decide +kernel) ?_
      show zG w f 3 31 ([some (pR 8 t), some (pI a1), some (pI a2)], [pI 0], (m, n))
      exact zretI (pc := 31) hF hR (by decide +kernel) (by decide +kernel) (Option.some.inj h) rfl
    · replace h := zif b2 h
      refine zrun hF [(.iload_n 1, 1, pI 0), (.aload_n 0, 1, pI 0), (.getfield 19, 3, pR 8 2)] 8 _ (by decide +kernel) ?_
      refine (And.intro rfl (And.intro ht ?_))
      show zG w f 3 13 ([some (pR 8 t), some (pI a1), some (pI a2)], [pI (m.1 8 t 2), pI a1], (m, n))
      refine zicmp_gt (tgt := 30) (pc := 13) hF (by decide +kernel) (fun b3 => ?_) (fun b3 => ?_)
      · replace h := zit b3 h
        refine zrun hF [(.iconst 0, 1, pI 0)] 30 _ (by decide +kernel) ?_
        show zG w f 3 31 ([some (pR 8 t), some (pI a1), some (pI a2)], [pI 0], (m, n))
        exact zretI (pc := 31) hF hR (by decide +kernel) (by decide +kernel) (Option.some.inj h) rfl
      · replace h := zif b3 h
        refine zrun hF [(.iload_n 2, 1, pI 0), (.aload_n 0, 1, pI 0), (.getfield 19, 3, pR 8 2), (.iload_n 1, 1, pI 0), (.isub, 1, pI 0)] 16 _ (by decide +kernel) ?_
        refine (And.intro rfl (And.intro ht ?_))
        show zG w f 3 23 ([some (pR 8 t), some (pI a1), some (pI a2)], [pI ((m.1 8 t 2) - a1), pI a2], (m, n))
        refine zicmp_gt (tgt := 30) (pc := 23) hF (by decide +kernel) (fun b4 => ?_) (fun b4 => ?_)
        · replace h := zit b4 h
          refine zrun hF [(.iconst 0, 1, pI 0)] 30 _ (by decide +kernel) ?_
          show zG w f 3 31 ([some (pR 8 t), some (pI a1), some (pI a2)], [pI 0], (m, n))
          exact zretI (pc := 31) hF hR (by decide +kernel) (by decide +kernel) (Option.some.inj h) rfl
        · replace h := zif b4 h
          refine zrun hF [(.iconst 1, 1, pI 1)] 26 _ (by decide +kernel) ?_
          show zG w f 3 27 ([some (pR 8 t), some (pI a1), some (pI a2)], [pI 1], (m, n))
          refine zgoto (tgt := 31) (pc := 27) hF (by decide +kernel) ?_
          exact zretI (pc := 31) hF hR (by decide +kernel) (by decide +kernel) (Option.some.inj h) rfl

set_option maxHeartbeats 4000000 in
set_option maxRecDepth 100000 in
theorem m_X6_copy_L14 {w : zWd} {f : zFr} {n : zMem} {x : Int32} {m0 : zMem} {lc : Launch} (hl : f.2.1 = lc) (hF : zFOK w f 6 cX6_copy 8 2) (hR : zFin w f (some .int) (zQI w x (m0, n))) : ∀ (m : zMem), s_X6_copy_L14 m = some (x, m0) → zG w f 8 14 ([some (pR 0 0), none, none, none, none, none, none, none], [], (m, n)) := by
  intro m h
  unfold s_X6_copy_L14 at h
  refine zrun hF [(.aload_n 0, 1, pI 0), (.iconst (-1), 1, pI (-1))] 14 _ (by decide +kernel) ?_
  show zG w f 8 16 ([some (pR 0 0), none, none, none, none, none, none, none], [pI (-1), pR 0 0], (m, n))
  obtain ⟨r38, m39, q37, h⟩ := zb_k h
  refine zcallVI (pc := 16) (As := [pI (-1)]) (st := []) (c := 0) (j := 0) hF (m_X6_refuse  q37) w_X6_refuse k_6_73 (by decide +kernel) rfl rfl rfl rfl rfl rfl rfl ?_
  exact zretI (pc := 19) hF hR (by decide +kernel) rfl (congrArg Prod.fst (Option.some.inj h)) (congrArg (fun (q : Int32 × zMem) => (q.2, n)) (Option.some.inj h))

set_option maxHeartbeats 4000000 in
set_option maxRecDepth 100000 in
theorem m_X6_copy_L52 {w : zWd} {f : zFr} {n : zMem} {x : Int32} {m0 : zMem} {lc : Launch} (hl : f.2.1 = lc) (hF : zFOK w f 6 cX6_copy 8 2) (hR : zFin w f (some .int) (zQI w x (m0, n))) : ∀ (m : zMem), s_X6_copy_L52 m = some (x, m0) → zG w f 8 52 ([some (pR 0 0), none, none, none, none, none, none, none], [], (m, n)) := by
  intro m h
  unfold s_X6_copy_L52 at h
  refine zrun hF [(.aload_n 0, 1, pI 0), (.bipush (-2), 2, pI (-2))] 52 _ (by decide +kernel) ?_
  show zG w f 8 55 ([some (pR 0 0), none, none, none, none, none, none, none], [pI (-2), pR 0 0], (m, n))
  obtain ⟨r47, m48, q46, h⟩ := zb_k h
  refine zcallVI (pc := 55) (As := [pI (-2)]) (st := []) (c := 0) (j := 0) hF (m_X6_refuse  q46) w_X6_refuse k_6_73 (by decide +kernel) rfl rfl rfl rfl rfl rfl rfl ?_
  exact zretI (pc := 58) hF hR (by decide +kernel) rfl (congrArg Prod.fst (Option.some.inj h)) (congrArg (fun (q : Int32 × zMem) => (q.2, n)) (Option.some.inj h))

set_option maxHeartbeats 4000000 in
set_option maxRecDepth 100000 in
theorem m_X6_copy_L75 {w : zWd} {f : zFr} {n : zMem} {x : Int32} {m0 : zMem} {lc : Launch} (hl : f.2.1 = lc) (hF : zFOK w f 6 cX6_copy 8 2) (hR : zFin w f (some .int) (zQI w x (m0, n))) : ∀ (m : zMem), s_X6_copy_L75 m = some (x, m0) → zG w f 8 75 ([some (pR 0 0), none, none, none, none, none, none, none], [], (m, n)) := by
  intro m h
  unfold s_X6_copy_L75 at h
  refine zrun hF [(.aload_n 0, 1, pI 0), (.bipush (-3), 2, pI (-3))] 75 _ (by decide +kernel) ?_
  show zG w f 8 78 ([some (pR 0 0), none, none, none, none, none, none, none], [pI (-3), pR 0 0], (m, n))
  obtain ⟨r44, m45, q43, h⟩ := zb_k h
  refine zcallVI (pc := 78) (As := [pI (-3)]) (st := []) (c := 0) (j := 0) hF (m_X6_refuse  q43) w_X6_refuse k_6_73 (by decide +kernel) rfl rfl rfl rfl rfl rfl rfl ?_
  exact zretI (pc := 81) hF hR (by decide +kernel) rfl (congrArg Prod.fst (Option.some.inj h)) (congrArg (fun (q : Int32 × zMem) => (q.2, n)) (Option.some.inj h))

set_option maxHeartbeats 4000000 in
set_option maxRecDepth 100000 in
theorem m_X6_copy_L137 {w : zWd} {f : zFr} {n : zMem} {x : Int32} {m0 : zMem} {lc : Launch} (hl : f.2.1 = lc) (hF : zFOK w f 6 cX6_copy 8 2) (hR : zFin w f (some .int) (zQI w x (m0, n))) : ∀ (m : zMem), s_X6_copy_L137 m = some (x, m0) → zG w f 8 137 ([some (pR 0 0), none, none, none, none, none, none, none], [], (m, n)) := by
  intro m h
  unfold s_X6_copy_L137 at h
  refine zrun hF [(.aload_n 0, 1, pI 0), (.bipush (-5), 2, pI (-5))] 137 _ (by decide +kernel) ?_
  show zG w f 8 140 ([some (pR 0 0), none, none, none, none, none, none, none], [pI (-5), pR 0 0], (m, n))
  obtain ⟨r41, m42, q40, h⟩ := zb_k h
  refine zcallVI (pc := 140) (As := [pI (-5)]) (st := []) (c := 0) (j := 0) hF (m_X6_refuse  q40) w_X6_refuse k_6_73 (by decide +kernel) rfl rfl rfl rfl rfl rfl rfl ?_
  exact zretI (pc := 143) hF hR (by decide +kernel) rfl (congrArg Prod.fst (Option.some.inj h)) (congrArg (fun (q : Int32 × zMem) => (q.2, n)) (Option.some.inj h))

set_option maxHeartbeats 4000000 in
set_option maxRecDepth 100000 in
theorem m_X6_copy {w : zWd} {lc : Launch} {n : zMem} {a1 : Int32} {a2 : Int32} {a3 : Int32} {a4 : Int32} {a5 : Int32} {m : zMem} {x : Int32} {m0 : zMem}  (h : s_X6_copy a1 a2 a3 a4 a5 m = some (x, m0)) : zMet w lc 2 yX6_copy cX6_copy 8 (some .int) [pR 0 0, pI a1, pI a2, pI a3, pI a4, pI a5] (m, n) (zQI w x (m0, n)) := by
  refine zmet (o := 6) (by decide +kernel) rfl (Nat.le_of_ble_eq_true rfl) rfl (fun f hl hF hR => ?_)
  unfold s_X6_copy at h
  show zG w f 8 0 ([some (pR 0 0), some (pI a1), some (pI a2), some (pI a3), some (pI a4), some (pI a5), none, none], [], (m, n))
  refine zrun hF [(.iload_n 1, 1, pI 0)] 0 _ (by decide +kernel) ?_
  show zG w f 8 1 ([some (pR 0 0), some (pI a1), some (pI a2), some (pI a3), some (pI a4), some (pI a5), none, none], [pI a1], (m, n))
  obtain ⟨r2, q1, h⟩ := zr_k h
  refine zcallSI (pc := 1) (As := [pI a1]) (st := []) hF (m_X6_isShelf  q1) w_X6_isShelf k_6_69 (by decide +kernel) rfl rfl rfl rfl ?_
  refine zif_eq (tgt := 14) (pc := 4) hF (by decide +kernel) (fun b3 => ?_) (fun b3 => ?_)
  · replace h := zit b3 h
    refine zcut [true, false, false, false, false, false, true, true] ?_
    exact m_X6_copy_L14 hl hF hR  _  h
  · replace h := zif b3 h
    refine zrun hF [(.iload_n 2, 1, pI 0)] 7 _ (by decide +kernel) ?_
    show zG w f 8 8 ([some (pR 0 0), some (pI a1), some (pI a2), some (pI a3), some (pI a4), some (pI a5), none, none], [pI a2], (m, n))
    obtain ⟨r5, q4, h⟩ := zr_k h
    refine zcallSI (pc := 8) (As := [pI a2]) (st := []) hF (m_X6_isShelf  q4) w_X6_isShelf k_6_69 (by decide +kernel) rfl rfl rfl rfl ?_
    refine zif_ne (tgt := 20) (pc := 11) hF (by decide +kernel) (fun b6 => ?_) (fun b6 => ?_)
    · replace h := zit b6 h
      refine zcut [true, false, false, false, false, false, true, true] ?_
      exact m_X6_copy_L14 hl hF hR  _  h
    · replace h := zif b6 h
      obtain ⟨c7, h⟩ := zchk h
      obtain ⟨c8, h⟩ := zchk h
      refine zrun hF [(.aload_n 0, 1, pI 0), (.getfield 28, 3, pR 0 4), (.iload_n 1, 1, pI 0), (.aaload, 1, pI 0), (.astore 6, 2, pI 0), (.aload_n 0, 1, pI 0), (.getfield 28, 3, pR 0 4), (.iload_n 2, 1, pI 0), (.aaload, 1, pI 0), (.astore 7, 2, pI 0), (.aload 6, 2, pI 0)] 20 _ (by decide +kernel) ?_
      refine (And.intro rfl (And.intro rfl (And.intro rfl (And.intro c7 (And.intro rfl (And.intro rfl (And.intro rfl (And.intro rfl (And.intro c8 (And.intro rfl ?_))))))))))
      show zG w f 8 38 ([some (pR 0 0), some (pI a1), some (pI a2), some (pI a3), some (pI a4), some (pI a5), some (pR 8 (ix a1)), some (pR 8 (ix a2))], [pR 8 (ix a1)], (m, n))
      obtain ⟨r10, q9, h⟩ := zr_k h
      refine zcallVI (pc := 38) (As := []) (st := []) (c := 8) (j := (ix a1)) hF (m_X4_holdsGuest (zinb_blt c7) q9) w_X4_holdsGuest k_6_91 (by decide +kernel) rfl (zinb_blt c7) rfl rfl rfl rfl rfl ?_
      refine zif_ne (tgt := 52) (pc := 41) hF (by decide +kernel) (fun b11 => ?_) (fun b11 => ?_)
      · replace h := zit b11 h
        refine zrun hF [(.aload 7, 2, pI 0)] 44 _ (by decide +kernel) ?_
        show zG w f 8 46 ([some (pR 0 0), some (pI a1), some (pI a2), some (pI a3), some (pI a4), some (pI a5), some (pR 8 (ix a1)), some (pR 8 (ix a2))], [pR 8 (ix a2)], (m, n))
        obtain ⟨r13, q12, h⟩ := zr_k h
        refine zcallVI (pc := 46) (As := []) (st := []) (c := 8) (j := (ix a2)) hF (m_X4_holdsGuest (zinb_blt c8) q12) w_X4_holdsGuest k_6_91 (by decide +kernel) rfl (zinb_blt c8) rfl rfl rfl rfl rfl ?_
        refine zif_eq (tgt := 59) (pc := 49) hF (by decide +kernel) (fun b14 => ?_) (fun b14 => ?_)
        · replace h := zit b14 h
          refine zrun hF [(.aload 6, 2, pI 0)] 59 _ (by decide +kernel) ?_
          show zG w f 8 61 ([some (pR 0 0), some (pI a1), some (pI a2), some (pI a3), some (pI a4), some (pI a5), some (pR 8 (ix a1)), some (pR 8 (ix a2))], [pR 8 (ix a1)], (m, n))
          obtain ⟨r16, q15, h⟩ := zr_k h
          refine zcallVI (pc := 61) (As := []) (st := []) (c := 8) (j := (ix a1)) hF (m_X4_isEmpty (zinb_blt c7) q15) w_X4_isEmpty k_6_95 (by decide +kernel) rfl (zinb_blt c7) rfl rfl rfl rfl rfl ?_
          refine zif_ne (tgt := 75) (pc := 64) hF (by decide +kernel) (fun b17 => ?_) (fun b17 => ?_)
          · replace h := zit b17 h
            refine zrun hF [(.aload 7, 2, pI 0)] 67 _ (by decide +kernel) ?_
            show zG w f 8 69 ([some (pR 0 0), some (pI a1), some (pI a2), some (pI a3), some (pI a4), some (pI a5), some (pR 8 (ix a1)), some (pR 8 (ix a2))], [pR 8 (ix a2)], (m, n))
            obtain ⟨r19, q18, h⟩ := zr_k h
            refine zcallVI (pc := 69) (As := []) (st := []) (c := 8) (j := (ix a2)) hF (m_X4_isEmpty (zinb_blt c8) q18) w_X4_isEmpty k_6_95 (by decide +kernel) rfl (zinb_blt c8) rfl rfl rfl rfl rfl ?_
            refine zif_eq (tgt := 82) (pc := 72) hF (by decide +kernel) (fun b20 => ?_) (fun b20 => ?_)
            · replace h := zit b20 h
              refine zrun hF [(.aload 6, 2, pI 0), (.getfield 98, 3, pR 8 1), (.aload 7, 2, pI 0), (.getfield 98, 3, pR 8 1)] 82 _ (by decide +kernel) ?_
              refine (And.intro rfl (And.intro (zinb_blt c7) (And.intro rfl (And.intro (zinb_blt c8) ?_))))
              show zG w f 8 92 ([some (pR 0 0), some (pI a1), some (pI a2), some (pI a3), some (pI a4), some (pI a5), some (pR 8 (ix a1)), some (pR 8 (ix a2))], [pI (m.1 8 (ix a2) 1), pI (m.1 8 (ix a1) 1)], (m, n))
              refine zicmp_eq (tgt := 102) (pc := 92) hF (by decide +kernel) (fun b21 => ?_) (fun b21 => ?_)
              · replace h := zit b21 h
                refine zrun hF [(.iload 5, 2, pI 0)] 102 _ (by decide +kernel) ?_
                show zG w f 8 104 ([some (pR 0 0), some (pI a1), some (pI a2), some (pI a3), some (pI a4), some (pI a5), some (pR 8 (ix a1)), some (pR 8 (ix a2))], [pI a5], (m, n))
                refine zif_ge (tgt := 114) (pc := 104) hF (by decide +kernel) (fun b22 => ?_) (fun b22 => ?_)
                · replace h := zit b22 h
                  refine zrun hF [(.aload 6, 2, pI 0), (.iload_n 3, 1, pI 0), (.iload 5, 2, pI 0)] 114 _ (by decide +kernel) ?_
                  show zG w f 8 119 ([some (pR 0 0), some (pI a1), some (pI a2), some (pI a3), some (pI a4), some (pI a5), some (pR 8 (ix a1)), some (pR 8 (ix a2))], [pI a5, pI a3, pR 8 (ix a1)], (m, n))
                  obtain ⟨r24, q23, h⟩ := zr_k h
                  refine zcallVI (pc := 119) (As := [pI a3, pI a5]) (st := []) (c := 8) (j := (ix a1)) hF (m_X4_hasPart (zinb_blt c7) q23) w_X4_hasPart k_6_101 (by decide +kernel) rfl (zinb_blt c7) rfl rfl rfl rfl rfl ?_
                  refine zif_eq (tgt := 137) (pc := 122) hF (by decide +kernel) (fun b25 => ?_) (fun b25 => ?_)
                  · replace h := zit b25 h
                    refine zcut [true, false, false, false, false, false, false, false] ?_
                    exact m_X6_copy_L137 hl hF hR  _  h
                  · replace h := zif b25 h
                    refine zrun hF [(.aload 7, 2, pI 0), (.iload 4, 2, pI 0), (.iload 5, 2, pI 0)] 125 _ (by decide +kernel) ?_
                    show zG w f 8 131 ([some (pR 0 0), some (pI a1), some (pI a2), some (pI a3), some (pI a4), some (pI a5), some (pR 8 (ix a1)), some (pR 8 (ix a2))], [pI a5, pI a4, pR 8 (ix a2)], (m, n))
                    obtain ⟨r27, q26, h⟩ := zr_k h
                    refine zcallVI (pc := 131) (As := [pI a4, pI a5]) (st := []) (c := 8) (j := (ix a2)) hF (m_X4_hasPart (zinb_blt c8) q26) w_X4_hasPart k_6_101 (by decide +kernel) rfl (zinb_blt c8) rfl rfl rfl rfl rfl ?_
                    refine zif_ne (tgt := 144) (pc := 134) hF (by decide +kernel) (fun b28 => ?_) (fun b28 => ?_)
                    · replace h := zit b28 h
                      refine zcut [true, false, false, false, false, false, false, false] ?_
                      exact m_X6_copy_L137 hl hF hR  _  h
                    · replace h := zif b28 h
                      obtain ⟨c29, h⟩ := zac_k h
                      refine zrun hF [(.aload 6, 2, pI 0), (.getfield 105, 3, pR 8 0), (.iload_n 3, 1, pI 0), (.aload 7, 2, pI 0), (.getfield 105, 3, pR 8 0), (.iload 4, 2, pI 0), (.iload 5, 2, pI 0), (.invokestatic 109, 3, pR 201 0)] 144 _ (by decide +kernel) ?_
                      refine (And.intro rfl (And.intro (zinb_blt c7) (And.intro rfl (And.intro (zinb_blt c8) (And.intro rfl (And.intro (And.intro (zinb_blt c8) (zinb_blt c7)) (And.intro c29.1 (And.intro c29.2 (And.intro rfl (And.intro rfl ?_))))))))))
                      refine zlet_k (P := fun (m30 : zMem) => zG w f 8 162 ([some (pR 0 0), some (pI a1), some (pI a2), some (pI a3), some (pI a4), some (pI a5), some (pR 8 (ix a1)), some (pR 8 (ix a2))], [], (m30, n))) h (fun m30 h => ?_)
                      refine zrun hF [(.iconst 1, 1, pI 1)] 162 _ (by decide +kernel) ?_
                      show zG w f 8 163 ([some (pR 0 0), some (pI a1), some (pI a2), some (pI a3), some (pI a4), some (pI a5), some (pR 8 (ix a1)), some (pR 8 (ix a2))], [pI 1], (m30, n))
                      exact zretI (pc := 163) hF hR (by decide +kernel) rfl (congrArg Prod.fst (Option.some.inj h)) (congrArg (fun (q : Int32 × zMem) => (q.2, n)) (Option.some.inj h))
                · replace h := zif b22 h
                  refine zrun hF [(.aload_n 0, 1, pI 0), (.bipush (-4), 2, pI (-4))] 107 _ (by decide +kernel) ?_
                  show zG w f 8 110 ([some (pR 0 0), some (pI a1), some (pI a2), some (pI a3), some (pI a4), some (pI a5), some (pR 8 (ix a1)), some (pR 8 (ix a2))], [pI (-4), pR 0 0], (m, n))
                  obtain ⟨r32, m33, q31, h⟩ := zb_k h
                  refine zcallVI (pc := 110) (As := [pI (-4)]) (st := []) (c := 0) (j := 0) hF (m_X6_refuse  q31) w_X6_refuse k_6_73 (by decide +kernel) rfl rfl rfl rfl rfl rfl rfl ?_
                  exact zretI (pc := 113) hF hR (by decide +kernel) rfl (congrArg Prod.fst (Option.some.inj h)) (congrArg (fun (q : Int32 × zMem) => (q.2, n)) (Option.some.inj h))
              · replace h := zif b21 h
                refine zrun hF [(.aload_n 0, 1, pI 0), (.bipush (-2), 2, pI (-2))] 95 _ (by decide +kernel) ?_
                show zG w f 8 98 ([some (pR 0 0), some (pI a1), some (pI a2), some (pI a3), some (pI a4), some (pI a5), some (pR 8 (ix a1)), some (pR 8 (ix a2))], [pI (-2), pR 0 0], (m, n))
                obtain ⟨r35, m36, q34, h⟩ := zb_k h
                refine zcallVI (pc := 98) (As := [pI (-2)]) (st := []) (c := 0) (j := 0) hF (m_X6_refuse  q34) w_X6_refuse k_6_73 (by decide +kernel) rfl rfl rfl rfl rfl rfl rfl ?_
                exact zretI (pc := 101) hF hR (by decide +kernel) rfl (congrArg Prod.fst (Option.some.inj h)) (congrArg (fun (q : Int32 × zMem) => (q.2, n)) (Option.some.inj h))
            · replace h := zif b20 h
              refine zcut [true, false, false, false, false, false, false, false] ?_
              exact m_X6_copy_L75 hl hF hR  _  h
          · replace h := zif b17 h
            refine zcut [true, false, false, false, false, false, false, false] ?_
            exact m_X6_copy_L75 hl hF hR  _  h
        · replace h := zif b14 h
          refine zcut [true, false, false, false, false, false, false, false] ?_
          exact m_X6_copy_L52 hl hF hR  _  h
      · replace h := zif b11 h
        refine zcut [true, false, false, false, false, false, false, false] ?_
        exact m_X6_copy_L52 hl hF hR  _  h

set_option maxHeartbeats 4000000 in
set_option maxRecDepth 100000 in
theorem m_X7_copy_L16 {w : zWd} {f : zFr} {n : zMem} {x : Int32} {m0 : zMem} {lc : Launch} (hl : f.2.1 = lc) (hF : zFOK w f 7 cX7_copy 7 2) (hR : zFin w f (some .int) (zQI w x (n, m0))) : ∀ (m : zMem), s_X7_copy_L16 m = some (x, m0) → zG w f 7 16 ([some (pR 64 0), none, none, none, none, none, none], [], (n, m)) := by
  intro m h
  unfold s_X7_copy_L16 at h
  refine zrun hF [(.aload_n 0, 1, pI 0), (.iconst (-1), 1, pI (-1))] 16 _ (by decide +kernel) ?_
  show zG w f 7 18 ([some (pR 64 0), none, none, none, none, none, none], [pI (-1), pR 64 0], (n, m))
  obtain ⟨r15, m16, q14, h⟩ := zb_k h
  refine zcallVI (pc := 18) (As := [pI (-1)]) (st := []) (c := 64) (j := 0) hF (m_X7_no  q14) w_X7_no k_7_100 (by decide +kernel) rfl rfl rfl rfl rfl rfl rfl ?_
  exact zretI (pc := 21) hF hR (by decide +kernel) rfl (congrArg Prod.fst (Option.some.inj h)) (congrArg (fun (q : Int32 × zMem) => (n, q.2)) (Option.some.inj h))

set_option maxHeartbeats 4000000 in
set_option maxRecDepth 100000 in
theorem m_X7_copy_L77 {w : zWd} {f : zFr} {n : zMem} {x : Int32} {m0 : zMem} {lc : Launch} (hl : f.2.1 = lc) (hF : zFOK w f 7 cX7_copy 7 2) (hR : zFin w f (some .int) (zQI w x (n, m0))) : ∀ (m : zMem), s_X7_copy_L77 m = some (x, m0) → zG w f 7 77 ([some (pR 64 0), none, none, none, none, none, none], [], (n, m)) := by
  intro m h
  unfold s_X7_copy_L77 at h
  refine zrun hF [(.aload_n 0, 1, pI 0), (.bipush (-2), 2, pI (-2))] 77 _ (by decide +kernel) ?_
  show zG w f 7 80 ([some (pR 64 0), none, none, none, none, none, none], [pI (-2), pR 64 0], (n, m))
  obtain ⟨r18, m19, q17, h⟩ := zb_k h
  refine zcallVI (pc := 80) (As := [pI (-2)]) (st := []) (c := 64) (j := 0) hF (m_X7_no  q17) w_X7_no k_7_100 (by decide +kernel) rfl rfl rfl rfl rfl rfl rfl ?_
  exact zretI (pc := 83) hF hR (by decide +kernel) rfl (congrArg Prod.fst (Option.some.inj h)) (congrArg (fun (q : Int32 × zMem) => (n, q.2)) (Option.some.inj h))

set_option maxHeartbeats 4000000 in
set_option maxRecDepth 100000 in
theorem m_X7_copy_L102 {w : zWd} {f : zFr} {n : zMem} {x : Int32} {m0 : zMem} {lc : Launch} (hl : f.2.1 = lc) (hF : zFOK w f 7 cX7_copy 7 2) (hR : zFin w f (some .int) (zQI w x (n, m0))) : ∀ (m : zMem), s_X7_copy_L102 m = some (x, m0) → zG w f 7 102 ([some (pR 64 0), none, none, none, none, none, none], [], (n, m)) := by
  intro m h
  unfold s_X7_copy_L102 at h
  refine zrun hF [(.aload_n 0, 1, pI 0), (.bipush (-3), 2, pI (-3))] 102 _ (by decide +kernel) ?_
  show zG w f 7 105 ([some (pR 64 0), none, none, none, none, none, none], [pI (-3), pR 64 0], (n, m))
  obtain ⟨r33, m34, q32, h⟩ := zb_k h
  refine zcallVI (pc := 105) (As := [pI (-3)]) (st := []) (c := 64) (j := 0) hF (m_X7_no  q32) w_X7_no k_7_100 (by decide +kernel) rfl rfl rfl rfl rfl rfl rfl ?_
  exact zretI (pc := 108) hF hR (by decide +kernel) rfl (congrArg Prod.fst (Option.some.inj h)) (congrArg (fun (q : Int32 × zMem) => (n, q.2)) (Option.some.inj h))

set_option maxHeartbeats 4000000 in
set_option maxRecDepth 100000 in
theorem m_X7_copy_L157 {w : zWd} {f : zFr} {n : zMem} {x : Int32} {m0 : zMem} {lc : Launch} (hl : f.2.1 = lc) (hF : zFOK w f 7 cX7_copy 7 2) (hR : zFin w f (some .int) (zQI w x (n, m0))) : ∀ (m : zMem), s_X7_copy_L157 m = some (x, m0) → zG w f 7 157 ([some (pR 64 0), none, none, none, none, none, none], [], (n, m)) := by
  intro m h
  unfold s_X7_copy_L157 at h
  refine zrun hF [(.aload_n 0, 1, pI 0), (.bipush (-5), 2, pI (-5))] 157 _ (by decide +kernel) ?_
  show zG w f 7 160 ([some (pR 64 0), none, none, none, none, none, none], [pI (-5), pR 64 0], (n, m))
  obtain ⟨r36, m37, q35, h⟩ := zb_k h
  refine zcallVI (pc := 160) (As := [pI (-5)]) (st := []) (c := 64) (j := 0) hF (m_X7_no  q35) w_X7_no k_7_100 (by decide +kernel) rfl rfl rfl rfl rfl rfl rfl ?_
  exact zretI (pc := 163) hF hR (by decide +kernel) rfl (congrArg Prod.fst (Option.some.inj h)) (congrArg (fun (q : Int32 × zMem) => (n, q.2)) (Option.some.inj h))

set_option maxHeartbeats 4000000 in
set_option maxRecDepth 100000 in
theorem m_X7_copy_L205 {w : zWd} {f : zFr} {n : zMem} {x : Int32} {m0 : zMem} {lc : Launch} (hl : f.2.1 = lc) (hF : zFOK w f 7 cX7_copy 7 2) (hR : zFin w f (some .int) (zQI w x (n, m0))) : ∀ (k : Nat) (x2 : Int32) (x4 : Int32) (x5 : Int32) (x6 : Int32) (m : zMem), s_X7_copy_L205 k x2 x4 x5 x6 m = some (x, m0) → zG w f 7 205 ([some (pR 64 0), none, some (pI x2), none, some (pI x4), some (pI x5), some (pI x6)], [], (n, m)) := by
  intro k
  induction k with
  | zero => intro x2 x4 x5 x6 m h; exact zno h
  | succ k ih =>
    intro x2 x4 x5 x6 m h
    unfold s_X7_copy_L205 at h
    refine zrun hF [(.iload 6, 2, pI 0), (.iload 5, 2, pI 0)] 205 _ (by decide +kernel) ?_
    show zG w f 7 209 ([some (pR 64 0), none, some (pI x2), none, some (pI x4), some (pI x5), some (pI x6)], [pI x5, pI x6], (n, m))
    refine zicmp_ge (tgt := 241) (pc := 209) hF (by decide +kernel) (fun b42 => ?_) (fun b42 => ?_)
    · replace h := zit b42 h
      refine zrun hF [(.iconst 1, 1, pI 1)] 241 _ (by decide +kernel) ?_
      show zG w f 7 242 ([some (pR 64 0), none, some (pI x2), none, some (pI x4), some (pI x5), some (pI x6)], [pI 1], (n, m))
      exact zretI (pc := 242) hF hR (by decide +kernel) rfl (congrArg Prod.fst (Option.some.inj h)) (congrArg (fun (q : Int32 × zMem) => (n, q.2)) (Option.some.inj h))
    · replace h := zif b42 h
      obtain ⟨c43, h⟩ := zchk h
      obtain ⟨c44, h⟩ := zchk h
      refine zrun hF [(.aload_n 0, 1, pI 0), (.getfield 50, 3, pR 64 17), (.sipush 160, 3, pI 160), (.iload_n 2, 1, pI 0), (.imul, 1, pI 0), (.iload 4, 2, pI 0), (.iadd, 1, pI 0), (.iload 6, 2, pI 0), (.iadd, 1, pI 0), (.aload_n 0, 1, pI 0), (.getfield 54, 3, pR 64 18), (.iload 6, 2, pI 0), (.laload, 1, pI 0), (.lastore, 1, pI 0)] 212 _ (by decide +kernel) ?_
      refine (And.intro rfl (And.intro rfl (And.intro rfl (And.intro rfl (And.intro rfl (And.intro rfl (And.intro c43 (And.intro rfl (And.intro rfl (And.intro c44 ?_))))))))))
      refine zlet_k (P := fun (m45 : zMem) => zG w f 7 235 ([some (pR 64 0), none, some (pI x2), none, some (pI x4), some (pI x5), some (pI x6)], [], (n, m45))) h (fun m45 h => ?_)
      refine zrun hF [(.iinc 6 1, 3, pI 1)] 235 _ (by decide +kernel) ?_
      refine (And.intro rfl ?_)
      show zG w f 7 238 ([some (pR 64 0), none, some (pI x2), none, some (pI x4), some (pI x5), some (pI (x6 + 1))], [], (n, m45))
      refine zgoto (tgt := 205) (pc := 238) hF (by decide +kernel) ?_
      exact ih _ _ _ _ _  h

set_option maxHeartbeats 4000000 in
set_option maxRecDepth 100000 in
theorem m_X7_copy_L167 {w : zWd} {f : zFr} {n : zMem} {x : Int32} {m0 : zMem} {lc : Launch} (hl : f.2.1 = lc) (hF : zFOK w f 7 cX7_copy 7 2) (hR : zFin w f (some .int) (zQI w x (n, m0))) : ∀ (k : Nat) (x1 : Int32) (x2 : Int32) (x3 : Int32) (x4 : Int32) (x5 : Int32) (x6 : Int32) (m : zMem), s_X7_copy_L167 k x1 x2 x3 x4 x5 x6 m = some (x, m0) → zG w f 7 167 ([some (pR 64 0), some (pI x1), some (pI x2), some (pI x3), some (pI x4), some (pI x5), some (pI x6)], [], (n, m)) := by
  intro k
  induction k with
  | zero => intro x1 x2 x3 x4 x5 x6 m h; exact zno h
  | succ k ih =>
    intro x1 x2 x3 x4 x5 x6 m h
    unfold s_X7_copy_L167 at h
    refine zrun hF [(.iload 6, 2, pI 0), (.iload 5, 2, pI 0)] 167 _ (by decide +kernel) ?_
    show zG w f 7 171 ([some (pR 64 0), some (pI x1), some (pI x2), some (pI x3), some (pI x4), some (pI x5), some (pI x6)], [pI x5, pI x6], (n, m))
    refine zicmp_ge (tgt := 202) (pc := 171) hF (by decide +kernel) (fun b38 => ?_) (fun b38 => ?_)
    · replace h := zit b38 h
      refine zrun hF [(.iconst 0, 1, pI 0), (.istore 6, 2, pI 0)] 202 _ (by decide +kernel) ?_
      refine (And.intro rfl ?_)
      show zG w f 7 205 ([some (pR 64 0), some (pI x1), some (pI x2), some (pI x3), some (pI x4), some (pI x5), some (pI 0)], [], (n, m))
      refine zcut [true, false, true, false, true, true, true] ?_
      exact m_X7_copy_L205 hl hF hR  zF _ _ _ _ _  h
    · replace h := zif b38 h
      obtain ⟨c39, h⟩ := zchk h
      obtain ⟨c40, h⟩ := zchk h
      refine zrun hF [(.aload_n 0, 1, pI 0), (.getfield 54, 3, pR 64 18), (.iload 6, 2, pI 0), (.aload_n 0, 1, pI 0), (.getfield 50, 3, pR 64 17), (.sipush 160, 3, pI 160), (.iload_n 1, 1, pI 0), (.imul, 1, pI 0), (.iload_n 3, 1, pI 0), (.iadd, 1, pI 0), (.iload 6, 2, pI 0), (.iadd, 1, pI 0), (.laload, 1, pI 0), (.lastore, 1, pI 0)] 174 _ (by decide +kernel) ?_
      refine (And.intro rfl (And.intro rfl (And.intro rfl (And.intro rfl (And.intro rfl (And.intro rfl (And.intro c39 (And.intro rfl (And.intro rfl (And.intro c40 ?_))))))))))
      refine zlet_k (P := fun (m41 : zMem) => zG w f 7 196 ([some (pR 64 0), some (pI x1), some (pI x2), some (pI x3), some (pI x4), some (pI x5), some (pI x6)], [], (n, m41))) h (fun m41 h => ?_)
      refine zrun hF [(.iinc 6 1, 3, pI 1)] 196 _ (by decide +kernel) ?_
      refine (And.intro rfl ?_)
      show zG w f 7 199 ([some (pR 64 0), some (pI x1), some (pI x2), some (pI x3), some (pI x4), some (pI x5), some (pI (x6 + 1))], [], (n, m41))
      refine zgoto (tgt := 167) (pc := 199) hF (by decide +kernel) ?_
      exact ih _ _ _ _ _ _ _  h

set_option maxHeartbeats 4000000 in
set_option maxRecDepth 100000 in
theorem m_X7_copy_L84 {w : zWd} {f : zFr} {n : zMem} {x : Int32} {m0 : zMem} {lc : Launch} (hl : f.2.1 = lc) (hF : zFOK w f 7 cX7_copy 7 2) (hR : zFin w f (some .int) (zQI w x (n, m0))) : ∀ (x1 : Int32) (x2 : Int32) (x3 : Int32) (x4 : Int32) (x5 : Int32) (m : zMem), s_X7_copy_L84 x1 x2 x3 x4 x5 m = some (x, m0) → zG w f 7 84 ([some (pR 64 0), some (pI x1), some (pI x2), some (pI x3), some (pI x4), some (pI x5), none], [], (n, m)) := by
  intro x1 x2 x3 x4 x5 m h
  unfold s_X7_copy_L84 at h
  obtain ⟨c20, h⟩ := zchk h
  refine zrun hF [(.aload_n 0, 1, pI 0), (.getfield 38, 3, pR 64 13), (.iload_n 1, 1, pI 0), (.iaload, 1, pI 0)] 84 _ (by decide +kernel) ?_
  refine (And.intro rfl (And.intro rfl (And.intro rfl (And.intro rfl (And.intro c20 ?_)))))
  show zG w f 7 90 ([some (pR 64 0), some (pI x1), some (pI x2), some (pI x3), some (pI x4), some (pI x5), none], [pI (m.1 71 0 (ix x1))], (n, m))
  refine zif_eq (tgt := 102) (pc := 90) hF (by decide +kernel) (fun b21 => ?_) (fun b21 => ?_)
  · replace h := zit b21 h
    refine zcut [true, false, false, false, false, false, true] ?_
    exact m_X7_copy_L102 hl hF hR  _  h
  · replace h := zif b21 h
    obtain ⟨c22, h⟩ := zchk h
    refine zrun hF [(.aload_n 0, 1, pI 0), (.getfield 38, 3, pR 64 13), (.iload_n 2, 1, pI 0), (.iaload, 1, pI 0)] 93 _ (by decide +kernel) ?_
    refine (And.intro rfl (And.intro rfl (And.intro rfl (And.intro rfl (And.intro c22 ?_)))))
    show zG w f 7 99 ([some (pR 64 0), some (pI x1), some (pI x2), some (pI x3), some (pI x4), some (pI x5), none], [pI (m.1 71 0 (ix x2))], (n, m))
    refine zif_ne (tgt := 109) (pc := 99) hF (by decide +kernel) (fun b23 => ?_) (fun b23 => ?_)
    · replace h := zit b23 h
      refine zcut [true, false, false, false, false, false, true] ?_
      exact m_X7_copy_L102 hl hF hR  _  h
    · replace h := zif b23 h
      refine zrun hF [(.iload 5, 2, pI 0)] 109 _ (by decide +kernel) ?_
      show zG w f 7 111 ([some (pR 64 0), some (pI x1), some (pI x2), some (pI x3), some (pI x4), some (pI x5), none], [pI x5], (n, m))
      refine zif_ge (tgt := 121) (pc := 111) hF (by decide +kernel) (fun b24 => ?_) (fun b24 => ?_)
      · replace h := zit b24 h
        refine zrun hF [(.iload_n 3, 1, pI 0)] 121 _ (by decide +kernel) ?_
        show zG w f 7 122 ([some (pR 64 0), some (pI x1), some (pI x2), some (pI x3), some (pI x4), some (pI x5), none], [pI x3], (n, m))
        refine zif_lt (tgt := 157) (pc := 122) hF (by decide +kernel) (fun b25 => ?_) (fun b25 => ?_)
        · replace h := zit b25 h
          refine zcut [true, false, false, false, false, false, true] ?_
          exact m_X7_copy_L157 hl hF hR  _  h
        · replace h := zif b25 h
          refine zrun hF [(.iload 4, 2, pI 0)] 125 _ (by decide +kernel) ?_
          show zG w f 7 127 ([some (pR 64 0), some (pI x1), some (pI x2), some (pI x3), some (pI x4), some (pI x5), none], [pI x4], (n, m))
          refine zif_lt (tgt := 157) (pc := 127) hF (by decide +kernel) (fun b26 => ?_) (fun b26 => ?_)
          · replace h := zit b26 h
            refine zcut [true, false, false, false, false, false, true] ?_
            exact m_X7_copy_L157 hl hF hR  _  h
          · replace h := zif b26 h
            refine zrun hF [(.iload_n 3, 1, pI 0), (.aload_n 0, 1, pI 0), (.getfield 44, 3, pR 64 15), (.iload_n 1, 1, pI 0), (.iaload, 1, pI 0), (.iload 5, 2, pI 0), (.isub, 1, pI 0)] 130 _ (by decide +kernel) ?_
            refine (And.intro rfl (And.intro rfl (And.intro rfl (And.intro rfl (And.intro c20 ?_)))))
            show zG w f 7 140 ([some (pR 64 0), some (pI x1), some (pI x2), some (pI x3), some (pI x4), some (pI x5), none], [pI ((m.1 73 0 (ix x1)) - x5), pI x3], (n, m))
            refine zicmp_gt (tgt := 157) (pc := 140) hF (by decide +kernel) (fun b27 => ?_) (fun b27 => ?_)
            · replace h := zit b27 h
              refine zcut [true, false, false, false, false, false, true] ?_
              exact m_X7_copy_L157 hl hF hR  _  h
            · replace h := zif b27 h
              refine zrun hF [(.iload 4, 2, pI 0), (.aload_n 0, 1, pI 0), (.getfield 44, 3, pR 64 15), (.iload_n 2, 1, pI 0), (.iaload, 1, pI 0), (.iload 5, 2, pI 0), (.isub, 1, pI 0)] 143 _ (by decide +kernel) ?_
              refine (And.intro rfl (And.intro rfl (And.intro rfl (And.intro rfl (And.intro c22 ?_)))))
              show zG w f 7 154 ([some (pR 64 0), some (pI x1), some (pI x2), some (pI x3), some (pI x4), some (pI x5), none], [pI ((m.1 73 0 (ix x2)) - x5), pI x4], (n, m))
              refine zicmp_le (tgt := 164) (pc := 154) hF (by decide +kernel) (fun b28 => ?_) (fun b28 => ?_)
              · replace h := zit b28 h
                refine zrun hF [(.iconst 0, 1, pI 0), (.istore 6, 2, pI 0)] 164 _ (by decide +kernel) ?_
                refine (And.intro rfl ?_)
                show zG w f 7 167 ([some (pR 64 0), some (pI x1), some (pI x2), some (pI x3), some (pI x4), some (pI x5), some (pI 0)], [], (n, m))
                exact m_X7_copy_L167 hl hF hR  zF _ _ _ _ _ _ _  h
              · replace h := zif b28 h
                refine zcut [true, false, false, false, false, false, true] ?_
                exact m_X7_copy_L157 hl hF hR  _  h
      · replace h := zif b24 h
        refine zrun hF [(.aload_n 0, 1, pI 0), (.bipush (-4), 2, pI (-4))] 114 _ (by decide +kernel) ?_
        show zG w f 7 117 ([some (pR 64 0), some (pI x1), some (pI x2), some (pI x3), some (pI x4), some (pI x5), none], [pI (-4), pR 64 0], (n, m))
        obtain ⟨r30, m31, q29, h⟩ := zb_k h
        refine zcallVI (pc := 117) (As := [pI (-4)]) (st := []) (c := 64) (j := 0) hF (m_X7_no  q29) w_X7_no k_7_100 (by decide +kernel) rfl rfl rfl rfl rfl rfl rfl ?_
        exact zretI (pc := 120) hF hR (by decide +kernel) rfl (congrArg Prod.fst (Option.some.inj h)) (congrArg (fun (q : Int32 × zMem) => (n, q.2)) (Option.some.inj h))

set_option maxHeartbeats 4000000 in
set_option maxRecDepth 100000 in
theorem m_X7_copy {w : zWd} {lc : Launch} {n : zMem} {a1 : Int32} {a2 : Int32} {a3 : Int32} {a4 : Int32} {a5 : Int32} {m : zMem} {x : Int32} {m0 : zMem}  (h : s_X7_copy a1 a2 a3 a4 a5 m = some (x, m0)) : zMet w lc 2 yX7_copy cX7_copy 7 (some .int) [pR 64 0, pI a1, pI a2, pI a3, pI a4, pI a5] (n, m) (zQI w x (n, m0)) := by
  refine zmet (o := 7) (by decide +kernel) rfl (Nat.le_of_ble_eq_true rfl) rfl (fun f hl hF hR => ?_)
  unfold s_X7_copy at h
  show zG w f 7 0 ([some (pR 64 0), some (pI a1), some (pI a2), some (pI a3), some (pI a4), some (pI a5), none], [], (n, m))
  refine zrun hF [(.aload_n 0, 1, pI 0), (.iload_n 1, 1, pI 0)] 0 _ (by decide +kernel) ?_
  show zG w f 7 2 ([some (pR 64 0), some (pI a1), some (pI a2), some (pI a3), some (pI a4), some (pI a5), none], [pI a1, pR 64 0], (n, m))
  obtain ⟨r2, q1, h⟩ := zr_k h
  refine zcallVI (pc := 2) (As := [pI a1]) (st := []) (c := 64) (j := 0) hF (m_X7_isShelf  q1) w_X7_isShelf k_7_96 (by decide +kernel) rfl rfl rfl rfl rfl rfl rfl ?_
  refine zif_eq (tgt := 16) (pc := 5) hF (by decide +kernel) (fun b3 => ?_) (fun b3 => ?_)
  · replace h := zit b3 h
    refine zcut [true, false, false, false, false, false, true] ?_
    exact m_X7_copy_L16 hl hF hR  _  h
  · replace h := zif b3 h
    refine zrun hF [(.aload_n 0, 1, pI 0), (.iload_n 2, 1, pI 0)] 8 _ (by decide +kernel) ?_
    show zG w f 7 10 ([some (pR 64 0), some (pI a1), some (pI a2), some (pI a3), some (pI a4), some (pI a5), none], [pI a2, pR 64 0], (n, m))
    obtain ⟨r5, q4, h⟩ := zr_k h
    refine zcallVI (pc := 10) (As := [pI a2]) (st := []) (c := 64) (j := 0) hF (m_X7_isShelf  q4) w_X7_isShelf k_7_96 (by decide +kernel) rfl rfl rfl rfl rfl rfl rfl ?_
    refine zif_ne (tgt := 22) (pc := 13) hF (by decide +kernel) (fun b6 => ?_) (fun b6 => ?_)
    · replace h := zit b6 h
      refine zcut [true, false, false, false, false, false, true] ?_
      exact m_X7_copy_L16 hl hF hR  _  h
    · replace h := zif b6 h
      obtain ⟨c7, h⟩ := zchk h
      refine zrun hF [(.aload_n 0, 1, pI 0), (.getfield 38, 3, pR 64 13), (.iload_n 1, 1, pI 0), (.iaload, 1, pI 0), (.iconst 2, 1, pI 2)] 22 _ (by decide +kernel) ?_
      refine (And.intro rfl (And.intro rfl (And.intro rfl (And.intro rfl (And.intro c7 ?_)))))
      show zG w f 7 29 ([some (pR 64 0), some (pI a1), some (pI a2), some (pI a3), some (pI a4), some (pI a5), none], [pI 2, pI (m.1 71 0 (ix a1))], (n, m))
      refine zicmp_eq (tgt := 77) (pc := 29) hF (by decide +kernel) (fun b8 => ?_) (fun b8 => ?_)
      · replace h := zit b8 h
        refine zcut [true, false, false, false, false, false, true] ?_
        exact m_X7_copy_L77 hl hF hR  _  h
      · replace h := zif b8 h
        obtain ⟨c9, h⟩ := zchk h
        refine zrun hF [(.aload_n 0, 1, pI 0), (.getfield 38, 3, pR 64 13), (.iload_n 2, 1, pI 0), (.iaload, 1, pI 0), (.iconst 2, 1, pI 2)] 32 _ (by decide +kernel) ?_
        refine (And.intro rfl (And.intro rfl (And.intro rfl (And.intro rfl (And.intro c9 ?_)))))
        show zG w f 7 39 ([some (pR 64 0), some (pI a1), some (pI a2), some (pI a3), some (pI a4), some (pI a5), none], [pI 2, pI (m.1 71 0 (ix a2))], (n, m))
        refine zicmp_eq (tgt := 77) (pc := 39) hF (by decide +kernel) (fun b10 => ?_) (fun b10 => ?_)
        · replace h := zit b10 h
          refine zcut [true, false, false, false, false, false, true] ?_
          exact m_X7_copy_L77 hl hF hR  _  h
        · replace h := zif b10 h
          refine zrun hF [(.aload_n 0, 1, pI 0), (.getfield 38, 3, pR 64 13), (.iload_n 1, 1, pI 0), (.iaload, 1, pI 0), (.iconst 1, 1, pI 1)] 42 _ (by decide +kernel) ?_
          refine (And.intro rfl (And.intro rfl (And.intro rfl (And.intro rfl (And.intro c7 ?_)))))
          show zG w f 7 49 ([some (pR 64 0), some (pI a1), some (pI a2), some (pI a3), some (pI a4), some (pI a5), none], [pI 1, pI (m.1 71 0 (ix a1))], (n, m))
          refine zicmp_ne (tgt := 84) (pc := 49) hF (by decide +kernel) (fun b11 => ?_) (fun b11 => ?_)
          · replace h := zit b11 h
            refine zrun hF [(.aload_n 0, 1, pI 0), (.getfield 38, 3, pR 64 13), (.iload_n 2, 1, pI 0), (.iaload, 1, pI 0), (.iconst 1, 1, pI 1)] 52 _ (by decide +kernel) ?_
            refine (And.intro rfl (And.intro rfl (And.intro rfl (And.intro rfl (And.intro c9 ?_)))))
            show zG w f 7 59 ([some (pR 64 0), some (pI a1), some (pI a2), some (pI a3), some (pI a4), some (pI a5), none], [pI 1, pI (m.1 71 0 (ix a2))], (n, m))
            refine zicmp_ne (tgt := 84) (pc := 59) hF (by decide +kernel) (fun b12 => ?_) (fun b12 => ?_)
            · replace h := zit b12 h
              refine zrun hF [(.aload_n 0, 1, pI 0), (.getfield 41, 3, pR 64 14), (.iload_n 1, 1, pI 0), (.iaload, 1, pI 0), (.aload_n 0, 1, pI 0), (.getfield 41, 3, pR 64 14), (.iload_n 2, 1, pI 0), (.iaload, 1, pI 0)] 62 _ (by decide +kernel) ?_
              refine (And.intro rfl (And.intro rfl (And.intro rfl (And.intro rfl (And.intro c7 (And.intro rfl (And.intro rfl (And.intro rfl (And.intro rfl (And.intro c9 ?_))))))))))
              show zG w f 7 74 ([some (pR 64 0), some (pI a1), some (pI a2), some (pI a3), some (pI a4), some (pI a5), none], [pI (m.1 72 0 (ix a2)), pI (m.1 72 0 (ix a1))], (n, m))
              refine zicmp_eq (tgt := 84) (pc := 74) hF (by decide +kernel) (fun b13 => ?_) (fun b13 => ?_)
              · replace h := zit b13 h
                exact m_X7_copy_L84 hl hF hR  _ _ _ _ _ _  h
              · replace h := zif b13 h
                refine zcut [true, false, false, false, false, false, true] ?_
                exact m_X7_copy_L77 hl hF hR  _  h
            · replace h := zif b12 h
              exact m_X7_copy_L84 hl hF hR  _ _ _ _ _ _  h
          · replace h := zif b11 h
            exact m_X7_copy_L84 hl hF hR  _ _ _ _ _ _  h

