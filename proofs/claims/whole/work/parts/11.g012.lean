set_option maxHeartbeats 4000000 in
set_option maxRecDepth 100000 in
theorem m_X6_fault {w : zWd} {lc : Launch} {n : zMem}  {m : zMem} {x : Int32}  (h : s_X6_fault m = some x) : zMet w lc 1 yX6_fault cX6_fault 1 (some .int) [pR 0 0] (m, n) (zQI w x (m, n)) := by
  refine zmet (o := 6) (by decide +kernel) rfl (Nat.le_of_ble_eq_true rfl) rfl (fun f hl hF hR => ?_)
  unfold s_X6_fault at h
  show zG w f 1 0 ([some (pR 0 0)], [], (m, n))
  refine zrun hF [(.aload_n 0, 1, pI 0), (.getfield 64, 3, pR 0 10)] 0 _ (by decide +kernel) ?_
  refine (And.intro rfl (And.intro rfl ?_))
  show zG w f 1 4 ([some (pR 0 0)], [pI (m.1 0 0 10)], (m, n))
  exact zretI (pc := 4) hF hR (by decide +kernel) rfl (Option.some.inj h) rfl

set_option maxHeartbeats 4000000 in
set_option maxRecDepth 100000 in
theorem m_X7_fault {w : zWd} {lc : Launch} {n : zMem}  {m : zMem} {x : Int32}  (h : s_X7_fault m = some x) : zMet w lc 1 yX7_fault cX7_fault 1 (some .int) [pR 64 0] (n, m) (zQI w x (n, m)) := by
  refine zmet (o := 7) (by decide +kernel) rfl (Nat.le_of_ble_eq_true rfl) rfl (fun f hl hF hR => ?_)
  unfold s_X7_fault at h
  show zG w f 1 0 ([some (pR 64 0)], [], (n, m))
  refine zrun hF [(.aload_n 0, 1, pI 0), (.getfield 16, 3, pR 64 6)] 0 _ (by decide +kernel) ?_
  refine (And.intro rfl (And.intro rfl ?_))
  show zG w f 1 4 ([some (pR 64 0)], [pI (m.1 64 0 6)], (n, m))
  exact zretI (pc := 4) hF hR (by decide +kernel) rfl (Option.some.inj h) rfl

set_option maxHeartbeats 4000000 in
set_option maxRecDepth 100000 in
theorem m_X6_far {w : zWd} {lc : Launch} {n : zMem} {a1 : Int32} {a2 : Int32} {m : zMem} {x : Int32} {m0 : zMem}  (h : s_X6_far a1 a2 m = some (x, m0)) : zMet w lc 3 yX6_far cX6_far 4 (some .int) [pR 0 0, pI a1, pI a2] (m, n) (zQI w x (m0, n)) := by
  refine zmet (o := 6) (by decide +kernel) rfl (Nat.le_of_ble_eq_true rfl) rfl (fun f hl hF hR => ?_)
  unfold s_X6_far at h
  show zG w f 4 0 ([some (pR 0 0), some (pI a1), some (pI a2), none], [], (m, n))
  refine zrun hF [(.aload_n 0, 1, pI 0), (.iload_n 1, 1, pI 0), (.iload_n 2, 1, pI 0)] 0 _ (by decide +kernel) ?_
  show zG w f 4 3 ([some (pR 0 0), some (pI a1), some (pI a2), none], [pI a2, pI a1, pR 0 0], (m, n))
  obtain ⟨r2, q1, h⟩ := zr_k h
  refine zcallVI (pc := 3) (As := [pI a1, pI a2]) (st := []) (c := 0) (j := 0) hF (m_X6_refusalOfPair  q1) w_X6_refusalOfPair k_6_169 (by decide +kernel) rfl rfl rfl rfl rfl rfl rfl ?_
  refine zrun hF [(.istore_n 3, 1, pI 0), (.iload_n 3, 1, pI 0)] 6 _ (by decide +kernel) ?_
  refine (And.intro rfl ?_)
  show zG w f 4 8 ([some (pR 0 0), some (pI a1), some (pI a2), some (pI r2)], [pI r2], (m, n))
  refine zif_eq (tgt := 19) (pc := 8) hF (by decide +kernel) (fun b3 => ?_) (fun b3 => ?_)
  · replace h := zit b3 h
    refine zrun hF [(.aload_n 0, 1, pI 0), (.getfield 10, 3, pR 0 0), (.iload_n 1, 1, pI 0), (.iload_n 2, 1, pI 0)] 19 _ (by decide +kernel) ?_
    refine (And.intro rfl (And.intro rfl ?_))
    show zG w f 4 25 ([some (pR 0 0), some (pI a1), some (pI a2), some (pI r2)], [pI a2, pI a1, pR 1 0], (m, n))
    obtain ⟨r5, q4, h⟩ := zr_k h
    refine zcallVI (pc := 25) (As := [pI a1, pI a2]) (st := []) (c := 1) (j := 0) hF (m_X5_distance rfl q4) w_X5_distance k_6_190 (by decide +kernel) rfl rfl rfl rfl rfl rfl rfl ?_
    exact zretI (pc := 28) hF hR (by decide +kernel) rfl (congrArg Prod.fst (Option.some.inj h)) (congrArg (fun (q : Int32 × zMem) => (q.2, n)) (Option.some.inj h))
  · replace h := zif b3 h
    refine zrun hF [(.aload_n 0, 1, pI 0), (.iload_n 3, 1, pI 0)] 11 _ (by decide +kernel) ?_
    show zG w f 4 13 ([some (pR 0 0), some (pI a1), some (pI a2), some (pI r2)], [pI r2, pR 0 0], (m, n))
    obtain ⟨r7, m8, q6, h⟩ := zb_k h
    refine zcallVI (pc := 13) (As := [pI r2]) (st := []) (c := 0) (j := 0) hF (m_X6_refuse  q6) w_X6_refuse k_6_73 (by decide +kernel) rfl rfl rfl rfl rfl rfl rfl ?_
    refine zgoto (tgt := 28) (pc := 16) hF (by decide +kernel) ?_
    exact zretI (pc := 28) hF hR (by decide +kernel) rfl (congrArg Prod.fst (Option.some.inj h)) (congrArg (fun (q : Int32 × zMem) => (q.2, n)) (Option.some.inj h))

set_option maxHeartbeats 4000000 in
set_option maxRecDepth 100000 in
theorem m_X7_far {w : zWd} {lc : Launch} {n : zMem} {a1 : Int32} {a2 : Int32} {m : zMem} {x : Int32} {m0 : zMem}  (h : s_X7_far a1 a2 m = some (x, m0)) : zMet w lc 3 yX7_far cX7_far 4 (some .int) [pR 64 0, pI a1, pI a2] (n, m) (zQI w x (n, m0)) := by
  refine zmet (o := 7) (by decide +kernel) rfl (Nat.le_of_ble_eq_true rfl) rfl (fun f hl hF hR => ?_)
  unfold s_X7_far at h
  show zG w f 4 0 ([some (pR 64 0), some (pI a1), some (pI a2), none], [], (n, m))
  refine zrun hF [(.aload_n 0, 1, pI 0), (.iload_n 1, 1, pI 0), (.iload_n 2, 1, pI 0)] 0 _ (by decide +kernel) ?_
  show zG w f 4 3 ([some (pR 64 0), some (pI a1), some (pI a2), none], [pI a2, pI a1, pR 64 0], (n, m))
  obtain ⟨r2, q1, h⟩ := zr_k h
  refine zcallVI (pc := 3) (As := [pI a1, pI a2]) (st := []) (c := 64) (j := 0) hF (m_X7_pair  q1) w_X7_pair k_7_133 (by decide +kernel) rfl rfl rfl rfl rfl rfl rfl ?_
  refine zrun hF [(.istore_n 3, 1, pI 0), (.iload_n 3, 1, pI 0)] 6 _ (by decide +kernel) ?_
  refine (And.intro rfl ?_)
  show zG w f 4 8 ([some (pR 64 0), some (pI a1), some (pI a2), some (pI r2)], [pI r2], (n, m))
  refine zif_eq (tgt := 19) (pc := 8) hF (by decide +kernel) (fun b3 => ?_) (fun b3 => ?_)
  · replace h := zit b3 h
    refine zrun hF [(.aload_n 0, 1, pI 0), (.iload_n 1, 1, pI 0), (.iload_n 2, 1, pI 0)] 19 _ (by decide +kernel) ?_
    show zG w f 4 22 ([some (pR 64 0), some (pI a1), some (pI a2), some (pI r2)], [pI a2, pI a1, pR 64 0], (n, m))
    obtain ⟨r5, q4, h⟩ := zr_k h
    refine zcallVI (pc := 22) (As := [pI a1, pI a2]) (st := []) (c := 64) (j := 0) hF (m_X7_farOf  q4) w_X7_farOf k_7_196 (by decide +kernel) rfl rfl rfl rfl rfl rfl rfl ?_
    exact zretI (pc := 25) hF hR (by decide +kernel) rfl (congrArg Prod.fst (Option.some.inj h)) (congrArg (fun (q : Int32 × zMem) => (n, q.2)) (Option.some.inj h))
  · replace h := zif b3 h
    refine zrun hF [(.aload_n 0, 1, pI 0), (.iload_n 3, 1, pI 0)] 11 _ (by decide +kernel) ?_
    show zG w f 4 13 ([some (pR 64 0), some (pI a1), some (pI a2), some (pI r2)], [pI r2, pR 64 0], (n, m))
    obtain ⟨r7, m8, q6, h⟩ := zb_k h
    refine zcallVI (pc := 13) (As := [pI r2]) (st := []) (c := 64) (j := 0) hF (m_X7_no  q6) w_X7_no k_7_100 (by decide +kernel) rfl rfl rfl rfl rfl rfl rfl ?_
    refine zgoto (tgt := 25) (pc := 16) hF (by decide +kernel) ?_
    exact zretI (pc := 25) hF hR (by decide +kernel) rfl (congrArg Prod.fst (Option.some.inj h)) (congrArg (fun (q : Int32 × zMem) => (n, q.2)) (Option.some.inj h))

set_option maxHeartbeats 4000000 in
set_option maxRecDepth 100000 in
theorem m_X6_may {w : zWd} {lc : Launch} {n : zMem} {a1 : Int32} {a2 : Int32} {m : zMem} {x : Int32} {m0 : zMem}  (h : s_X6_may a1 a2 m = some (x, m0)) : zMet w lc 3 yX6_may cX6_may 4 (some .int) [pR 0 0, pI a1, pI a2] (m, n) (zQI w x (m0, n)) := by
  refine zmet (o := 6) (by decide +kernel) rfl (Nat.le_of_ble_eq_true rfl) rfl (fun f hl hF hR => ?_)
  unfold s_X6_may at h
  show zG w f 4 0 ([some (pR 0 0), some (pI a1), some (pI a2), none], [], (m, n))
  refine zrun hF [(.aload_n 0, 1, pI 0), (.iload_n 1, 1, pI 0), (.iload_n 2, 1, pI 0)] 0 _ (by decide +kernel) ?_
  show zG w f 4 3 ([some (pR 0 0), some (pI a1), some (pI a2), none], [pI a2, pI a1, pR 0 0], (m, n))
  obtain ⟨r2, q1, h⟩ := zr_k h
  refine zcallVI (pc := 3) (As := [pI a1, pI a2]) (st := []) (c := 0) (j := 0) hF (m_X6_refusalOfPair  q1) w_X6_refusalOfPair k_6_169 (by decide +kernel) rfl rfl rfl rfl rfl rfl rfl ?_
  refine zrun hF [(.istore_n 3, 1, pI 0), (.iload_n 3, 1, pI 0)] 6 _ (by decide +kernel) ?_
  refine (And.intro rfl ?_)
  show zG w f 4 8 ([some (pR 0 0), some (pI a1), some (pI a2), some (pI r2)], [pI r2], (m, n))
  refine zif_eq (tgt := 17) (pc := 8) hF (by decide +kernel) (fun b3 => ?_) (fun b3 => ?_)
  · replace h := zit b3 h
    refine zrun hF [(.aload_n 0, 1, pI 0), (.getfield 10, 3, pR 0 0), (.iload_n 1, 1, pI 0), (.iload_n 2, 1, pI 0)] 17 _ (by decide +kernel) ?_
    refine (And.intro rfl (And.intro rfl ?_))
    show zG w f 4 23 ([some (pR 0 0), some (pI a1), some (pI a2), some (pI r2)], [pI a2, pI a1, pR 1 0], (m, n))
    obtain ⟨r5, q4, h⟩ := zr_k h
    refine zcallVI (pc := 23) (As := [pI a1, pI a2]) (st := []) (c := 1) (j := 0) hF (m_X5_mayClink rfl q4) w_X5_mayClink k_6_193 (by decide +kernel) rfl rfl rfl rfl rfl rfl rfl ?_
    refine zif_eq (tgt := 33) (pc := 26) hF (by decide +kernel) (fun b6 => ?_) (fun b6 => ?_)
    · replace h := zit b6 h
      refine zrun hF [(.iconst 0, 1, pI 0)] 33 _ (by decide +kernel) ?_
      show zG w f 4 34 ([some (pR 0 0), some (pI a1), some (pI a2), some (pI r2)], [pI 0], (m, n))
      exact zretI (pc := 34) hF hR (by decide +kernel) rfl (congrArg Prod.fst (Option.some.inj h)) (congrArg (fun (q : Int32 × zMem) => (q.2, n)) (Option.some.inj h))
    · replace h := zif b6 h
      refine zrun hF [(.iconst 1, 1, pI 1)] 29 _ (by decide +kernel) ?_
      show zG w f 4 30 ([some (pR 0 0), some (pI a1), some (pI a2), some (pI r2)], [pI 1], (m, n))
      refine zgoto (tgt := 34) (pc := 30) hF (by decide +kernel) ?_
      exact zretI (pc := 34) hF hR (by decide +kernel) rfl (congrArg Prod.fst (Option.some.inj h)) (congrArg (fun (q : Int32 × zMem) => (q.2, n)) (Option.some.inj h))
  · replace h := zif b3 h
    refine zrun hF [(.aload_n 0, 1, pI 0), (.iload_n 3, 1, pI 0)] 11 _ (by decide +kernel) ?_
    show zG w f 4 13 ([some (pR 0 0), some (pI a1), some (pI a2), some (pI r2)], [pI r2, pR 0 0], (m, n))
    obtain ⟨r8, m9, q7, h⟩ := zb_k h
    refine zcallVI (pc := 13) (As := [pI r2]) (st := []) (c := 0) (j := 0) hF (m_X6_refuse  q7) w_X6_refuse k_6_73 (by decide +kernel) rfl rfl rfl rfl rfl rfl rfl ?_
    exact zretI (pc := 16) hF hR (by decide +kernel) rfl (congrArg Prod.fst (Option.some.inj h)) (congrArg (fun (q : Int32 × zMem) => (q.2, n)) (Option.some.inj h))

set_option maxHeartbeats 4000000 in
set_option maxRecDepth 100000 in
theorem m_X7_may {w : zWd} {lc : Launch} {n : zMem} {a1 : Int32} {a2 : Int32} {m : zMem} {x : Int32} {m0 : zMem}  (h : s_X7_may a1 a2 m = some (x, m0)) : zMet w lc 3 yX7_may cX7_may 4 (some .int) [pR 64 0, pI a1, pI a2] (n, m) (zQI w x (n, m0)) := by
  refine zmet (o := 7) (by decide +kernel) rfl (Nat.le_of_ble_eq_true rfl) rfl (fun f hl hF hR => ?_)
  unfold s_X7_may at h
  show zG w f 4 0 ([some (pR 64 0), some (pI a1), some (pI a2), none], [], (n, m))
  refine zrun hF [(.aload_n 0, 1, pI 0), (.iload_n 1, 1, pI 0), (.iload_n 2, 1, pI 0)] 0 _ (by decide +kernel) ?_
  show zG w f 4 3 ([some (pR 64 0), some (pI a1), some (pI a2), none], [pI a2, pI a1, pR 64 0], (n, m))
  obtain ⟨r2, q1, h⟩ := zr_k h
  refine zcallVI (pc := 3) (As := [pI a1, pI a2]) (st := []) (c := 64) (j := 0) hF (m_X7_pair  q1) w_X7_pair k_7_133 (by decide +kernel) rfl rfl rfl rfl rfl rfl rfl ?_
  refine zrun hF [(.istore_n 3, 1, pI 0), (.iload_n 3, 1, pI 0)] 6 _ (by decide +kernel) ?_
  refine (And.intro rfl ?_)
  show zG w f 4 8 ([some (pR 64 0), some (pI a1), some (pI a2), some (pI r2)], [pI r2], (n, m))
  refine zif_eq (tgt := 19) (pc := 8) hF (by decide +kernel) (fun b3 => ?_) (fun b3 => ?_)
  · replace h := zit b3 h
    refine zrun hF [(.aload_n 0, 1, pI 0), (.iload_n 1, 1, pI 0), (.iload_n 2, 1, pI 0)] 19 _ (by decide +kernel) ?_
    show zG w f 4 22 ([some (pR 64 0), some (pI a1), some (pI a2), some (pI r2)], [pI a2, pI a1, pR 64 0], (n, m))
    obtain ⟨r5, q4, h⟩ := zr_k h
    refine zcallVI (pc := 22) (As := [pI a1, pI a2]) (st := []) (c := 64) (j := 0) hF (m_X7_mayBe  q4) w_X7_mayBe k_7_107 (by decide +kernel) rfl rfl rfl rfl rfl rfl rfl ?_
    refine zif_eq (tgt := 32) (pc := 25) hF (by decide +kernel) (fun b6 => ?_) (fun b6 => ?_)
    · replace h := zit b6 h
      refine zrun hF [(.iconst 0, 1, pI 0)] 32 _ (by decide +kernel) ?_
      show zG w f 4 33 ([some (pR 64 0), some (pI a1), some (pI a2), some (pI r2)], [pI 0], (n, m))
      exact zretI (pc := 33) hF hR (by decide +kernel) rfl (congrArg Prod.fst (Option.some.inj h)) (congrArg (fun (q : Int32 × zMem) => (n, q.2)) (Option.some.inj h))
    · replace h := zif b6 h
      refine zrun hF [(.iconst 1, 1, pI 1)] 28 _ (by decide +kernel) ?_
      show zG w f 4 29 ([some (pR 64 0), some (pI a1), some (pI a2), some (pI r2)], [pI 1], (n, m))
      refine zgoto (tgt := 33) (pc := 29) hF (by decide +kernel) ?_
      exact zretI (pc := 33) hF hR (by decide +kernel) rfl (congrArg Prod.fst (Option.some.inj h)) (congrArg (fun (q : Int32 × zMem) => (n, q.2)) (Option.some.inj h))
  · replace h := zif b3 h
    refine zrun hF [(.aload_n 0, 1, pI 0), (.iload_n 3, 1, pI 0)] 11 _ (by decide +kernel) ?_
    show zG w f 4 13 ([some (pR 64 0), some (pI a1), some (pI a2), some (pI r2)], [pI r2, pR 64 0], (n, m))
    obtain ⟨r8, m9, q7, h⟩ := zb_k h
    refine zcallVI (pc := 13) (As := [pI r2]) (st := []) (c := 64) (j := 0) hF (m_X7_no  q7) w_X7_no k_7_100 (by decide +kernel) rfl rfl rfl rfl rfl rfl rfl ?_
    refine zgoto (tgt := 33) (pc := 16) hF (by decide +kernel) ?_
    exact zretI (pc := 33) hF hR (by decide +kernel) rfl (congrArg Prod.fst (Option.some.inj h)) (congrArg (fun (q : Int32 × zMem) => (n, q.2)) (Option.some.inj h))

set_option maxHeartbeats 4000000 in
set_option maxRecDepth 100000 in
theorem m_X5_secondsOf {w : zWd} {lc : Launch} {n : zMem} {t : Nat} {a1 : Int32} {a2 : Int32} {m : zMem} {x : Int32} (ht : Nat.blt t 3 = true) (h : s_X5_secondsOf t a1 a2 m = some x) : zMet w lc 3 yX5_secondsOf cX5_secondsOf 4 (some .int) [pR 1 t, pI a1, pI a2] (m, n) (zQI w x (m, n)) := by
  refine zmet (o := 5) (by decide +kernel) rfl (Nat.le_of_ble_eq_true rfl) rfl (fun f hl hF hR => ?_)
  unfold s_X5_secondsOf at h
  show zG w f 4 0 ([some (pR 1 t), some (pI a1), some (pI a2), none], [], (m, n))
  refine zrun hF [(.iconst 1, 1, pI 1), (.aload_n 0, 1, pI 0), (.iload_n 1, 1, pI 0)] 0 _ (by decide +kernel) ?_
  show zG w f 4 3 ([some (pR 1 t), some (pI a1), some (pI a2), none], [pI a1, pR 1 t, pI 1], (m, n))
  obtain ⟨r2, q1, h⟩ := zr_k h
  refine zcallVI (pc := 3) (As := [pI a1]) (st := [pI 1]) (c := 1) (j := t) hF (m_X5_slownessOf ht q1) w_X5_slownessOf k_5_78 (by decide +kernel) rfl ht rfl rfl rfl rfl rfl ?_
  refine zrun hF [(.aload_n 0, 1, pI 0), (.iload_n 2, 1, pI 0)] 6 _ (by decide +kernel) ?_
  show zG w f 4 8 ([some (pR 1 t), some (pI a1), some (pI a2), none], [pI a2, pR 1 t, pI r2, pI 1], (m, n))
  obtain ⟨r4, q3, h⟩ := zr_k h
  refine zcallVI (pc := 8) (As := [pI a2]) (st := [pI r2, pI 1]) (c := 1) (j := t) hF (m_X5_slownessOf ht q3) w_X5_slownessOf k_5_78 (by decide +kernel) rfl ht rfl rfl rfl rfl rfl ?_
  refine zrun hF [(.invokestatic 81, 3, pR 200 0), (.iadd, 1, pI 0), (.istore_n 3, 1, pI 0)] 11 _ (by decide +kernel) ?_
  refine (And.intro rfl (And.intro rfl ?_))
  refine zlet_k (P := fun (v5 : Int32) => zG w f 4 16 ([some (pR 1 t), some (pI a1), some (pI a2), some (pI v5)], [], (m, n))) h (fun v5 h => ?_)
  refine zrun hF [(.aload_n 0, 1, pI 0), (.getfield 34, 3, pR 1 7), (.iconst 1, 1, pI 1)] 16 _ (by decide +kernel) ?_
  refine (And.intro rfl (And.intro ht ?_))
  show zG w f 4 21 ([some (pR 1 t), some (pI a1), some (pI a2), some (pI v5)], [pI 1, pI (m.1 1 t 7)], (m, n))
  refine zicmp_ne (tgt := 30) (pc := 21) hF (by decide +kernel) (fun b6 => ?_) (fun b6 => ?_)
  · replace h := zit b6 h
    refine zrun hF [(.iconst 2, 1, pI 2), (.iload_n 3, 1, pI 0), (.imul, 1, pI 0)] 24 _ (by decide +kernel) ?_
    show zG w f 4 27 ([some (pR 1 t), some (pI a1), some (pI a2), some (pI v5)], [pI (2 * v5)], (m, n))
    refine zgoto (tgt := 31) (pc := 27) hF (by decide +kernel) ?_
    exact zretI (pc := 31) hF hR (by decide +kernel) rfl (Option.some.inj h) rfl
  · replace h := zif b6 h
    refine zrun hF [(.iload_n 3, 1, pI 0)] 30 _ (by decide +kernel) ?_
    show zG w f 4 31 ([some (pR 1 t), some (pI a1), some (pI a2), some (pI v5)], [pI v5], (m, n))
    exact zretI (pc := 31) hF hR (by decide +kernel) rfl (Option.some.inj h) rfl

set_option maxHeartbeats 4000000 in
set_option maxRecDepth 100000 in
theorem m_X6_takes {w : zWd} {lc : Launch} {n : zMem} {a1 : Int32} {a2 : Int32} {m : zMem} {x : Int32} {m0 : zMem}  (h : s_X6_takes a1 a2 m = some (x, m0)) : zMet w lc 4 yX6_takes cX6_takes 4 (some .int) [pR 0 0, pI a1, pI a2] (m, n) (zQI w x (m0, n)) := by
  refine zmet (o := 6) (by decide +kernel) rfl (Nat.le_of_ble_eq_true rfl) rfl (fun f hl hF hR => ?_)
  unfold s_X6_takes at h
  show zG w f 4 0 ([some (pR 0 0), some (pI a1), some (pI a2), none], [], (m, n))
  refine zrun hF [(.aload_n 0, 1, pI 0), (.iload_n 1, 1, pI 0), (.iload_n 2, 1, pI 0)] 0 _ (by decide +kernel) ?_
  show zG w f 4 3 ([some (pR 0 0), some (pI a1), some (pI a2), none], [pI a2, pI a1, pR 0 0], (m, n))
  obtain ⟨r2, q1, h⟩ := zr_k h
  refine zcallVI (pc := 3) (As := [pI a1, pI a2]) (st := []) (c := 0) (j := 0) hF (m_X6_refusalOfPair  q1) w_X6_refusalOfPair k_6_169 (by decide +kernel) rfl rfl rfl rfl rfl rfl rfl ?_
  refine zrun hF [(.istore_n 3, 1, pI 0), (.iload_n 3, 1, pI 0)] 6 _ (by decide +kernel) ?_
  refine (And.intro rfl ?_)
  show zG w f 4 8 ([some (pR 0 0), some (pI a1), some (pI a2), some (pI r2)], [pI r2], (m, n))
  refine zif_eq (tgt := 19) (pc := 8) hF (by decide +kernel) (fun b3 => ?_) (fun b3 => ?_)
  · replace h := zit b3 h
    refine zrun hF [(.aload_n 0, 1, pI 0), (.getfield 10, 3, pR 0 0), (.iload_n 1, 1, pI 0), (.iload_n 2, 1, pI 0)] 19 _ (by decide +kernel) ?_
    refine (And.intro rfl (And.intro rfl ?_))
    show zG w f 4 25 ([some (pR 0 0), some (pI a1), some (pI a2), some (pI r2)], [pI a2, pI a1, pR 1 0], (m, n))
    obtain ⟨r5, q4, h⟩ := zr_k h
    refine zcallVI (pc := 25) (As := [pI a1, pI a2]) (st := []) (c := 1) (j := 0) hF (m_X5_secondsOf rfl q4) w_X5_secondsOf k_6_196 (by decide +kernel) rfl rfl rfl rfl rfl rfl rfl ?_
    exact zretI (pc := 28) hF hR (by decide +kernel) rfl (congrArg Prod.fst (Option.some.inj h)) (congrArg (fun (q : Int32 × zMem) => (q.2, n)) (Option.some.inj h))
  · replace h := zif b3 h
    refine zrun hF [(.aload_n 0, 1, pI 0), (.iload_n 3, 1, pI 0)] 11 _ (by decide +kernel) ?_
    show zG w f 4 13 ([some (pR 0 0), some (pI a1), some (pI a2), some (pI r2)], [pI r2, pR 0 0], (m, n))
    obtain ⟨r7, m8, q6, h⟩ := zb_k h
    refine zcallVI (pc := 13) (As := [pI r2]) (st := []) (c := 0) (j := 0) hF (m_X6_refuse  q6) w_X6_refuse k_6_73 (by decide +kernel) rfl rfl rfl rfl rfl rfl rfl ?_
    refine zgoto (tgt := 28) (pc := 16) hF (by decide +kernel) ?_
    exact zretI (pc := 28) hF hR (by decide +kernel) rfl (congrArg Prod.fst (Option.some.inj h)) (congrArg (fun (q : Int32 × zMem) => (q.2, n)) (Option.some.inj h))

set_option maxHeartbeats 4000000 in
set_option maxRecDepth 100000 in
theorem m_X7_slow_L20 {w : zWd} {f : zFr} {n : zMem} {x : Int32} {lc : Launch} {mr : zMem} (hl : f.2.1 = lc) (hF : zFOK w f 7 cX7_slow 2 1) (hR : zFin w f (some .int) (zQI w x (n, mr))) : ∀ (x1 : Int32) (m : zMem), m = mr → s_X7_slow_L20 x1 m = some x → zG w f 2 20 ([some (pR 64 0), some (pI x1)], [], (n, m)) := by
  intro x1 m hm h
  unfold s_X7_slow_L20 at h
  obtain ⟨c4, h⟩ := zchk h
  refine zrun hF [(.aload_n 0, 1, pI 0), (.getfield 26, 3, pR 64 9), (.iload_n 1, 1, pI 0), (.iaload, 1, pI 0)] 20 _ (by decide +kernel) ?_
  refine (And.intro rfl (And.intro rfl (And.intro rfl (And.intro rfl (And.intro c4 ?_)))))
  show zG w f 2 26 ([some (pR 64 0), some (pI x1)], [pI (m.1 67 0 (ix x1))], (n, m))
  refine zgoto (tgt := 30) (pc := 26) hF (by decide +kernel) ?_
  exact zretI (pc := 30) hF hR (by decide +kernel) rfl (Option.some.inj h) (congrArg (fun q => (n, q)) hm)

set_option maxHeartbeats 4000000 in
set_option maxRecDepth 100000 in
theorem m_X7_slow {w : zWd} {lc : Launch} {n : zMem} {a1 : Int32} {m : zMem} {x : Int32}  (h : s_X7_slow a1 m = some x) : zMet w lc 1 yX7_slow cX7_slow 2 (some .int) [pR 64 0, pI a1] (n, m) (zQI w x (n, m)) := by
  refine zmet (o := 7) (by decide +kernel) rfl (Nat.le_of_ble_eq_true rfl) rfl (fun f hl hF hR => ?_)
  unfold s_X7_slow at h
  show zG w f 2 0 ([some (pR 64 0), some (pI a1)], [], (n, m))
  obtain ⟨c1, h⟩ := zchk h
  refine zrun hF [(.aload_n 0, 1, pI 0), (.getfield 23, 3, pR 64 8), (.iload_n 1, 1, pI 0), (.iaload, 1, pI 0), (.iconst 2, 1, pI 2)] 0 _ (by decide +kernel) ?_
  refine (And.intro rfl (And.intro rfl (And.intro rfl (And.intro rfl (And.intro c1 ?_)))))
  show zG w f 2 7 ([some (pR 64 0), some (pI a1)], [pI 2, pI (m.1 66 0 (ix a1))], (n, m))
  refine zicmp_eq (tgt := 20) (pc := 7) hF (by decide +kernel) (fun b2 => ?_) (fun b2 => ?_)
  · replace h := zit b2 h
    exact m_X7_slow_L20 hl hF hR  _ _  rfl h
  · replace h := zif b2 h
    refine zrun hF [(.aload_n 0, 1, pI 0), (.getfield 23, 3, pR 64 8), (.iload_n 1, 1, pI 0), (.iaload, 1, pI 0), (.iconst 5, 1, pI 5)] 10 _ (by decide +kernel) ?_
    refine (And.intro rfl (And.intro rfl (And.intro rfl (And.intro rfl (And.intro c1 ?_)))))
    show zG w f 2 17 ([some (pR 64 0), some (pI a1)], [pI 5, pI (m.1 66 0 (ix a1))], (n, m))
    refine zicmp_ne (tgt := 29) (pc := 17) hF (by decide +kernel) (fun b3 => ?_) (fun b3 => ?_)
    · replace h := zit b3 h
      exact m_X7_slow_L20 hl hF hR  _ _  rfl h
    · replace h := zif b3 h
      refine zrun hF [(.iconst 0, 1, pI 0)] 29 _ (by decide +kernel) ?_
      show zG w f 2 30 ([some (pR 64 0), some (pI a1)], [pI 0], (n, m))
      exact zretI (pc := 30) hF hR (by decide +kernel) rfl (Option.some.inj h) rfl

set_option maxHeartbeats 4000000 in
set_option maxRecDepth 100000 in
theorem m_X7_takesOf_L27 {w : zWd} {f : zFr} {n : zMem} {x : Int32} {lc : Launch} {mr : zMem} (hl : f.2.1 = lc) (hF : zFOK w f 7 cX7_takesOf 4 2) (hR : zFin w f (some .int) (zQI w x (n, mr))) : ∀ (y0 : Int32) (y1 : Int32) (m : zMem), m = mr → s_X7_takesOf_L27 y0 y1 m = some x → zG w f 4 27 ([some (pR 64 0), none, none, none], [pI y1, pI y0], (n, m)) := by
  intro y0 y1 m hm h
  unfold s_X7_takesOf_L27 at h
  refine zrun hF [(.iadd, 1, pI 0), (.istore_n 3, 1, pI 0), (.aload_n 0, 1, pI 0), (.getfield 141, 3, pR 64 2), (.iconst 1, 1, pI 1)] 27 _ (by decide +kernel) ?_
  refine (And.intro rfl (And.intro rfl (And.intro rfl ?_)))
  show zG w f 4 34 ([some (pR 64 0), none, none, some (pI (y0 + y1))], [pI 1, pI (m.1 64 0 2)], (n, m))
  refine zicmp_ne (tgt := 43) (pc := 34) hF (by decide +kernel) (fun b10 => ?_) (fun b10 => ?_)
  · replace h := zit b10 h
    refine zrun hF [(.iconst 2, 1, pI 2), (.iload_n 3, 1, pI 0), (.imul, 1, pI 0)] 37 _ (by decide +kernel) ?_
    show zG w f 4 40 ([some (pR 64 0), none, none, some (pI (y0 + y1))], [pI (2 * (y0 + y1))], (n, m))
    refine zgoto (tgt := 44) (pc := 40) hF (by decide +kernel) ?_
    exact zretI (pc := 44) hF hR (by decide +kernel) rfl (Option.some.inj h) (congrArg (fun q => (n, q)) hm)
  · replace h := zif b10 h
    refine zrun hF [(.iload_n 3, 1, pI 0)] 43 _ (by decide +kernel) ?_
    show zG w f 4 44 ([some (pR 64 0), none, none, some (pI (y0 + y1))], [pI (y0 + y1)], (n, m))
    exact zretI (pc := 44) hF hR (by decide +kernel) rfl (Option.some.inj h) (congrArg (fun q => (n, q)) hm)

set_option maxHeartbeats 4000000 in
set_option maxRecDepth 100000 in
theorem m_X7_takesOf {w : zWd} {lc : Launch} {n : zMem} {a1 : Int32} {a2 : Int32} {m : zMem} {x : Int32}  (h : s_X7_takesOf a1 a2 m = some x) : zMet w lc 2 yX7_takesOf cX7_takesOf 4 (some .int) [pR 64 0, pI a1, pI a2] (n, m) (zQI w x (n, m)) := by
  refine zmet (o := 7) (by decide +kernel) rfl (Nat.le_of_ble_eq_true rfl) rfl (fun f hl hF hR => ?_)
  unfold s_X7_takesOf at h
  show zG w f 4 0 ([some (pR 64 0), some (pI a1), some (pI a2), none], [], (n, m))
  refine zrun hF [(.iconst 1, 1, pI 1), (.aload_n 0, 1, pI 0), (.iload_n 1, 1, pI 0)] 0 _ (by decide +kernel) ?_
  show zG w f 4 3 ([some (pR 64 0), some (pI a1), some (pI a2), none], [pI a1, pR 64 0, pI 1], (n, m))
  obtain ⟨r2, q1, h⟩ := zr_k h
  refine zcallVI (pc := 3) (As := [pI a1]) (st := [pI 1]) (c := 64) (j := 0) hF (m_X7_slow  q1) w_X7_slow k_7_202 (by decide +kernel) rfl rfl rfl rfl rfl rfl rfl ?_
  refine zrun hF [(.aload_n 0, 1, pI 0), (.iload_n 2, 1, pI 0)] 6 _ (by decide +kernel) ?_
  show zG w f 4 8 ([some (pR 64 0), some (pI a1), some (pI a2), none], [pI a2, pR 64 0, pI r2, pI 1], (n, m))
  obtain ⟨r4, q3, h⟩ := zr_k h
  refine zcallVI (pc := 8) (As := [pI a2]) (st := [pI r2, pI 1]) (c := 64) (j := 0) hF (m_X7_slow  q3) w_X7_slow k_7_202 (by decide +kernel) rfl rfl rfl rfl rfl rfl rfl ?_
  refine zicmp_le (tgt := 22) (pc := 11) hF (by decide +kernel) (fun b5 => ?_) (fun b5 => ?_)
  · replace h := zit b5 h
    refine zrun hF [(.aload_n 0, 1, pI 0), (.iload_n 2, 1, pI 0)] 22 _ (by decide +kernel) ?_
    show zG w f 4 24 ([some (pR 64 0), some (pI a1), some (pI a2), none], [pI a2, pR 64 0, pI 1], (n, m))
    obtain ⟨r7, q6, h⟩ := zr_k h
    refine zcallVI (pc := 24) (As := [pI a2]) (st := [pI 1]) (c := 64) (j := 0) hF (m_X7_slow  q6) w_X7_slow k_7_202 (by decide +kernel) rfl rfl rfl rfl rfl rfl rfl ?_
    refine zcut [true, false, false, true] ?_
    exact m_X7_takesOf_L27 hl hF hR  _ _ _  rfl h
  · replace h := zif b5 h
    refine zrun hF [(.aload_n 0, 1, pI 0), (.iload_n 1, 1, pI 0)] 14 _ (by decide +kernel) ?_
    show zG w f 4 16 ([some (pR 64 0), some (pI a1), some (pI a2), none], [pI a1, pR 64 0, pI 1], (n, m))
    obtain ⟨r9, q8, h⟩ := zr_k h
    refine zcallVI (pc := 16) (As := [pI a1]) (st := [pI 1]) (c := 64) (j := 0) hF (m_X7_slow  q8) w_X7_slow k_7_202 (by decide +kernel) rfl rfl rfl rfl rfl rfl rfl ?_
    refine zgoto (tgt := 27) (pc := 19) hF (by decide +kernel) ?_
    refine zcut [true, false, false, true] ?_
    exact m_X7_takesOf_L27 hl hF hR  _ _ _  rfl h

set_option maxHeartbeats 4000000 in
set_option maxRecDepth 100000 in
theorem m_X7_takes {w : zWd} {lc : Launch} {n : zMem} {a1 : Int32} {a2 : Int32} {m : zMem} {x : Int32} {m0 : zMem}  (h : s_X7_takes a1 a2 m = some (x, m0)) : zMet w lc 3 yX7_takes cX7_takes 4 (some .int) [pR 64 0, pI a1, pI a2] (n, m) (zQI w x (n, m0)) := by
  refine zmet (o := 7) (by decide +kernel) rfl (Nat.le_of_ble_eq_true rfl) rfl (fun f hl hF hR => ?_)
  unfold s_X7_takes at h
  show zG w f 4 0 ([some (pR 64 0), some (pI a1), some (pI a2), none], [], (n, m))
  refine zrun hF [(.aload_n 0, 1, pI 0), (.iload_n 1, 1, pI 0), (.iload_n 2, 1, pI 0)] 0 _ (by decide +kernel) ?_
  show zG w f 4 3 ([some (pR 64 0), some (pI a1), some (pI a2), none], [pI a2, pI a1, pR 64 0], (n, m))
  obtain ⟨r2, q1, h⟩ := zr_k h
  refine zcallVI (pc := 3) (As := [pI a1, pI a2]) (st := []) (c := 64) (j := 0) hF (m_X7_pair  q1) w_X7_pair k_7_133 (by decide +kernel) rfl rfl rfl rfl rfl rfl rfl ?_
  refine zrun hF [(.istore_n 3, 1, pI 0), (.iload_n 3, 1, pI 0)] 6 _ (by decide +kernel) ?_
  refine (And.intro rfl ?_)
  show zG w f 4 8 ([some (pR 64 0), some (pI a1), some (pI a2), some (pI r2)], [pI r2], (n, m))
  refine zif_eq (tgt := 19) (pc := 8) hF (by decide +kernel) (fun b3 => ?_) (fun b3 => ?_)
  · replace h := zit b3 h
    refine zrun hF [(.aload_n 0, 1, pI 0), (.iload_n 1, 1, pI 0), (.iload_n 2, 1, pI 0)] 19 _ (by decide +kernel) ?_
    show zG w f 4 22 ([some (pR 64 0), some (pI a1), some (pI a2), some (pI r2)], [pI a2, pI a1, pR 64 0], (n, m))
    obtain ⟨r5, q4, h⟩ := zr_k h
    refine zcallVI (pc := 22) (As := [pI a1, pI a2]) (st := []) (c := 64) (j := 0) hF (m_X7_takesOf  q4) w_X7_takesOf k_7_212 (by decide +kernel) rfl rfl rfl rfl rfl rfl rfl ?_
    exact zretI (pc := 25) hF hR (by decide +kernel) rfl (congrArg Prod.fst (Option.some.inj h)) (congrArg (fun (q : Int32 × zMem) => (n, q.2)) (Option.some.inj h))
  · replace h := zif b3 h
    refine zrun hF [(.aload_n 0, 1, pI 0), (.iload_n 3, 1, pI 0)] 11 _ (by decide +kernel) ?_
    show zG w f 4 13 ([some (pR 64 0), some (pI a1), some (pI a2), some (pI r2)], [pI r2, pR 64 0], (n, m))
    obtain ⟨r7, m8, q6, h⟩ := zb_k h
    refine zcallVI (pc := 13) (As := [pI r2]) (st := []) (c := 64) (j := 0) hF (m_X7_no  q6) w_X7_no k_7_100 (by decide +kernel) rfl rfl rfl rfl rfl rfl rfl ?_
    refine zgoto (tgt := 25) (pc := 16) hF (by decide +kernel) ?_
    exact zretI (pc := 25) hF hR (by decide +kernel) rfl (congrArg Prod.fst (Option.some.inj h)) (congrArg (fun (q : Int32 × zMem) => (n, q.2)) (Option.some.inj h))

set_option maxHeartbeats 4000000 in
set_option maxRecDepth 100000 in
theorem m_X5_hasKind_L18 {w : zWd} {f : zFr} {n : zMem} {x : Int32} {lc : Launch} {mr : zMem} (hl : f.2.1 = lc) (hF : zFOK w f 5 cX5_hasKind 4 2) (hR : zFin w f (some .boolean) (zQI w x (mr, n))) : ∀ (m : zMem), m = mr → s_X5_hasKind_L18 m = some x → zG w f 4 18 ([none, none, none, none], [], (m, n)) := by
  intro m hm h
  unfold s_X5_hasKind_L18 at h
  refine zrun hF [(.iconst 1, 1, pI 1)] 18 _ (by decide +kernel) ?_
  show zG w f 4 19 ([none, none, none, none], [pI 1], (m, n))
  refine zgoto (tgt := 23) (pc := 19) hF (by decide +kernel) ?_
  exact zretI (pc := 23) hF hR (by decide +kernel) (by decide +kernel) (Option.some.inj h) (congrArg (fun q => (q, n)) hm)

set_option maxHeartbeats 4000000 in
set_option maxRecDepth 100000 in
theorem m_X5_hasKind {w : zWd} {lc : Launch} {n : zMem} {t : Nat} {a1 : Int32} {a2 : Int32} {a3 : Int32} {m : zMem} {x : Int32} (ht : Nat.blt t 3 = true) (h : s_X5_hasKind t a1 a2 a3 m = some x) : zMet w lc 2 yX5_hasKind cX5_hasKind 4 (some .boolean) [pR 1 t, pI a1, pI a2, pI a3] (m, n) (zQI w x (m, n)) := by
  refine zmet (o := 5) (by decide +kernel) rfl (Nat.le_of_ble_eq_true rfl) rfl (fun f hl hF hR => ?_)
  unfold s_X5_hasKind at h
  show zG w f 4 0 ([some (pR 1 t), some (pI a1), some (pI a2), some (pI a3)], [], (m, n))
  refine zrun hF [(.aload_n 0, 1, pI 0), (.iload_n 1, 1, pI 0), (.iload_n 3, 1, pI 0)] 0 _ (by decide +kernel) ?_
  show zG w f 4 3 ([some (pR 1 t), some (pI a1), some (pI a2), some (pI a3)], [pI a3, pI a1, pR 1 t], (m, n))
  obtain ⟨r2, q1, h⟩ := zr_k h
  refine zcallVI (pc := 3) (As := [pI a1, pI a3]) (st := []) (c := 1) (j := t) hF (m_X5_isOf ht q1) w_X5_isOf k_5_70 (by decide +kernel) rfl ht rfl rfl rfl rfl rfl ?_
  refine zif_ne (tgt := 18) (pc := 6) hF (by decide +kernel) (fun b3 => ?_) (fun b3 => ?_)
  · replace h := zit b3 h
    refine zrun hF [(.aload_n 0, 1, pI 0), (.iload_n 2, 1, pI 0), (.iload_n 3, 1, pI 0)] 9 _ (by decide +kernel) ?_
    show zG w f 4 12 ([some (pR 1 t), some (pI a1), some (pI a2), some (pI a3)], [pI a3, pI a2, pR 1 t], (m, n))
    obtain ⟨r5, q4, h⟩ := zr_k h
    refine zcallVI (pc := 12) (As := [pI a2, pI a3]) (st := []) (c := 1) (j := t) hF (m_X5_isOf ht q4) w_X5_isOf k_5_70 (by decide +kernel) rfl ht rfl rfl rfl rfl rfl ?_
    refine zif_eq (tgt := 22) (pc := 15) hF (by decide +kernel) (fun b6 => ?_) (fun b6 => ?_)
    · replace h := zit b6 h
      refine zrun hF [(.iconst 0, 1, pI 0)] 22 _ (by decide +kernel) ?_
      show zG w f 4 23 ([some (pR 1 t), some (pI a1), some (pI a2), some (pI a3)], [pI 0], (m, n))
      exact zretI (pc := 23) hF hR (by decide +kernel) (by decide +kernel) (Option.some.inj h) rfl
    · replace h := zif b6 h
      refine zcut [false, false, false, false] ?_
      exact m_X5_hasKind_L18 hl hF hR  _  rfl h
  · replace h := zif b3 h
    refine zcut [false, false, false, false] ?_
    exact m_X5_hasKind_L18 hl hF hR  _  rfl h

set_option maxHeartbeats 4000000 in
set_option maxRecDepth 100000 in
theorem m_X5_sitsBetween {w : zWd} {lc : Launch} {n : zMem} {t : Nat} {a1 : Int32} {a2 : Int32} {a3 : Int32} {m : zMem} {x : Int32} (ht : Nat.blt t 3 = true) (h : s_X5_sitsBetween t a1 a2 a3 m = some x) : zMet w lc 1 yX5_sitsBetween cX5_sitsBetween 6 (some .boolean) [pR 1 t, pI a1, pI a2, pI a3] (m, n) (zQI w x (m, n)) := by
  refine zmet (o := 5) (by decide +kernel) rfl (Nat.le_of_ble_eq_true rfl) rfl (fun f hl hF hR => ?_)
  unfold s_X5_sitsBetween at h
  show zG w f 6 0 ([some (pR 1 t), some (pI a1), some (pI a2), some (pI a3), none, none], [], (m, n))
  obtain ⟨c1, h⟩ := zchk h
  obtain ⟨c2, h⟩ := zchk h
  refine zrun hF [(.aload_n 0, 1, pI 0), (.getfield 15, 3, pR 1 1), (.iload_n 2, 1, pI 0), (.iaload, 1, pI 0), (.aload_n 0, 1, pI 0), (.getfield 15, 3, pR 1 1), (.iload_n 3, 1, pI 0), (.iaload, 1, pI 0), (.invokestatic 86, 3, pR 200 1), (.istore 4, 2, pI 0)] 0 _ (by decide +kernel) ?_
  refine (And.intro rfl (And.intro ht (And.intro rfl (And.intro ht (And.intro c1 (And.intro rfl (And.intro ht (And.intro rfl (And.intro ht (And.intro c2 (And.intro rfl (And.intro rfl ?_))))))))))))
  refine zlet_k (P := fun (v3 : Int32) => zG w f 6 17 ([some (pR 1 t), some (pI a1), some (pI a2), some (pI a3), some (pI v3), none], [], (m, n))) h (fun v3 h => ?_)
  refine zrun hF [(.aload_n 0, 1, pI 0), (.getfield 15, 3, pR 1 1), (.iload_n 2, 1, pI 0), (.iaload, 1, pI 0), (.aload_n 0, 1, pI 0), (.getfield 15, 3, pR 1 1), (.iload_n 3, 1, pI 0), (.iaload, 1, pI 0), (.invokestatic 81, 3, pR 200 0), (.istore 5, 2, pI 0)] 17 _ (by decide +kernel) ?_
  refine (And.intro rfl (And.intro ht (And.intro rfl (And.intro ht (And.intro c1 (And.intro rfl (And.intro ht (And.intro rfl (And.intro ht (And.intro c2 (And.intro rfl (And.intro rfl ?_))))))))))))
  refine zlet_k (P := fun (v4 : Int32) => zG w f 6 34 ([some (pR 1 t), some (pI a1), some (pI a2), some (pI a3), some (pI v3), some (pI v4)], [], (m, n))) h (fun v4 h => ?_)
  obtain ⟨c5, h⟩ := zchk h
  refine zrun hF [(.aload_n 0, 1, pI 0), (.getfield 15, 3, pR 1 1), (.iload_n 1, 1, pI 0), (.iaload, 1, pI 0), (.iload 4, 2, pI 0)] 34 _ (by decide +kernel) ?_
  refine (And.intro rfl (And.intro ht (And.intro rfl (And.intro ht (And.intro c5 ?_)))))
  show zG w f 6 42 ([some (pR 1 t), some (pI a1), some (pI a2), some (pI a3), some (pI v3), some (pI v4)], [pI v3, pI (m.1 3 t (ix a1))], (m, n))
  refine zicmp_le (tgt := 60) (pc := 42) hF (by decide +kernel) (fun b6 => ?_) (fun b6 => ?_)
  · replace h := zit b6 h
    refine zrun hF [(.iconst 0, 1, pI 0)] 60 _ (by decide +kernel) ?_
    show zG w f 6 61 ([some (pR 1 t), some (pI a1), some (pI a2), some (pI a3), some (pI v3), some (pI v4)], [pI 0], (m, n))
    exact zretI (pc := 61) hF hR (by decide +kernel) (by decide +kernel) (Option.some.inj h) rfl
  · replace h := zif b6 h
    refine zrun hF [(.aload_n 0, 1, pI 0), (.getfield 15, 3, pR 1 1), (.iload_n 1, 1, pI 0), (.iaload, 1, pI 0), (.iload 5, 2, pI 0)] 45 _ (by decide +kernel) ?_
    refine (And.intro rfl (And.intro ht (And.intro rfl (And.intro ht (And.intro c5 ?_)))))
    show zG w f 6 53 ([some (pR 1 t), some (pI a1), some (pI a2), some (pI a3), some (pI v3), some (pI v4)], [pI v4, pI (m.1 3 t (ix a1))], (m, n))
    refine zicmp_ge (tgt := 60) (pc := 53) hF (by decide +kernel) (fun b7 => ?_) (fun b7 => ?_)
    · replace h := zit b7 h
      refine zrun hF [(.iconst 0, 1, pI 0)] 60 _ (by decide +kernel) ?_
      show zG w f 6 61 ([some (pR 1 t), some (pI a1), some (pI a2), some (pI a3), some (pI v3), some (pI v4)], [pI 0], (m, n))
      exact zretI (pc := 61) hF hR (by decide +kernel) (by decide +kernel) (Option.some.inj h) rfl
    · replace h := zif b7 h
      refine zrun hF [(.iconst 1, 1, pI 1)] 56 _ (by decide +kernel) ?_
      show zG w f 6 57 ([some (pR 1 t), some (pI a1), some (pI a2), some (pI a3), some (pI v3), some (pI v4)], [pI 1], (m, n))
      refine zgoto (tgt := 61) (pc := 57) hF (by decide +kernel) ?_
      exact zretI (pc := 61) hF hR (by decide +kernel) (by decide +kernel) (Option.some.inj h) rfl

set_option maxHeartbeats 4000000 in
set_option maxRecDepth 100000 in
theorem m_X5_armsCross_L48 {w : zWd} {f : zFr} {n : zMem} {x : Int32} {lc : Launch} {mr : zMem} (hl : f.2.1 = lc) (hF : zFOK w f 5 cX5_armsCross 5 3) (hR : zFin w f (some .boolean) (zQI w x (mr, n))) : ∀ (x0 : Nat) (x1 : Int32) (x2 : Int32) (x3 : Int32) (x4 : Int32) (m : zMem), Nat.blt x0 3 = true → m = mr → s_X5_armsCross_L48 x0 x1 x2 x3 x4 m = some x → zG w f 5 48 ([some (pR 1 x0), some (pI x1), some (pI x2), some (pI x3), some (pI x4)], [], (m, n)) := by
  intro x0 x1 x2 x3 x4 m hx0 hm h
  unfold s_X5_armsCross_L48 at h
  refine zrun hF [(.aload_n 0, 1, pI 0), (.iload_n 3, 1, pI 0), (.iload_n 1, 1, pI 0), (.iload_n 2, 1, pI 0)] 48 _ (by decide +kernel) ?_
  show zG w f 5 52 ([some (pR 1 x0), some (pI x1), some (pI x2), some (pI x3), some (pI x4)], [pI x2, pI x1, pI x3, pR 1 x0], (m, n))
  obtain ⟨r14, q13, h⟩ := zr_k h
  refine zcallVI (pc := 52) (As := [pI x3, pI x1, pI x2]) (st := []) (c := 1) (j := x0) hF (m_X5_sitsBetween hx0 q13) w_X5_sitsBetween k_5_93 (by decide +kernel) rfl hx0 rfl rfl rfl rfl rfl ?_
  refine zrun hF [(.aload_n 0, 1, pI 0), (.iload 4, 2, pI 0), (.iload_n 1, 1, pI 0), (.iload_n 2, 1, pI 0)] 55 _ (by decide +kernel) ?_
  show zG w f 5 60 ([some (pR 1 x0), some (pI x1), some (pI x2), some (pI x3), some (pI x4)], [pI x2, pI x1, pI x4, pR 1 x0, pI r14], (m, n))
  obtain ⟨r16, q15, h⟩ := zr_k h
  refine zcallVI (pc := 60) (As := [pI x4, pI x1, pI x2]) (st := [pI r14]) (c := 1) (j := x0) hF (m_X5_sitsBetween hx0 q15) w_X5_sitsBetween k_5_93 (by decide +kernel) rfl hx0 rfl rfl rfl rfl rfl ?_
  refine zicmp_eq (tgt := 70) (pc := 63) hF (by decide +kernel) (fun b17 => ?_) (fun b17 => ?_)
  · replace h := zit b17 h
    refine zrun hF [(.iconst 0, 1, pI 0)] 70 _ (by decide +kernel) ?_
    show zG w f 5 71 ([some (pR 1 x0), some (pI x1), some (pI x2), some (pI x3), some (pI x4)], [pI 0], (m, n))
    exact zretI (pc := 71) hF hR (by decide +kernel) (by decide +kernel) (Option.some.inj h) (congrArg (fun q => (q, n)) hm)
  · replace h := zif b17 h
    refine zrun hF [(.iconst 1, 1, pI 1)] 66 _ (by decide +kernel) ?_
    show zG w f 5 67 ([some (pR 1 x0), some (pI x1), some (pI x2), some (pI x3), some (pI x4)], [pI 1], (m, n))
    refine zgoto (tgt := 71) (pc := 67) hF (by decide +kernel) ?_
    exact zretI (pc := 71) hF hR (by decide +kernel) (by decide +kernel) (Option.some.inj h) (congrArg (fun q => (q, n)) hm)

set_option maxHeartbeats 4000000 in
set_option maxRecDepth 100000 in
theorem m_X5_armsCross {w : zWd} {lc : Launch} {n : zMem} {t : Nat} {a1 : Int32} {a2 : Int32} {a3 : Int32} {a4 : Int32} {m : zMem} {x : Int32} (ht : Nat.blt t 3 = true) (h : s_X5_armsCross t a1 a2 a3 a4 m = some x) : zMet w lc 3 yX5_armsCross cX5_armsCross 5 (some .boolean) [pR 1 t, pI a1, pI a2, pI a3, pI a4] (m, n) (zQI w x (m, n)) := by
  refine zmet (o := 5) (by decide +kernel) rfl (Nat.le_of_ble_eq_true rfl) rfl (fun f hl hF hR => ?_)
  unfold s_X5_armsCross at h
  show zG w f 5 0 ([some (pR 1 t), some (pI a1), some (pI a2), some (pI a3), some (pI a4)], [], (m, n))
  refine zrun hF [(.aload_n 0, 1, pI 0), (.iload_n 1, 1, pI 0), (.iload_n 2, 1, pI 0), (.bipush 6, 2, pI 6)] 0 _ (by decide +kernel) ?_
  show zG w f 5 5 ([some (pR 1 t), some (pI a1), some (pI a2), some (pI a3), some (pI a4)], [pI 6, pI a2, pI a1, pR 1 t], (m, n))
  obtain ⟨r2, q1, h⟩ := zr_k h
  refine zcallVI (pc := 5) (As := [pI a1, pI a2, pI 6]) (st := []) (c := 1) (j := t) hF (m_X5_hasKind ht q1) w_X5_hasKind k_5_89 (by decide +kernel) rfl ht rfl rfl rfl rfl rfl ?_
  refine zif_ne (tgt := 23) (pc := 8) hF (by decide +kernel) (fun b3 => ?_) (fun b3 => ?_)
  · replace h := zit b3 h
    refine zrun hF [(.aload_n 0, 1, pI 0), (.iload_n 3, 1, pI 0), (.iload 4, 2, pI 0), (.bipush 6, 2, pI 6)] 11 _ (by decide +kernel) ?_
    show zG w f 5 17 ([some (pR 1 t), some (pI a1), some (pI a2), some (pI a3), some (pI a4)], [pI 6, pI a4, pI a3, pR 1 t], (m, n))
    obtain ⟨r5, q4, h⟩ := zr_k h
    refine zcallVI (pc := 17) (As := [pI a3, pI a4, pI 6]) (st := []) (c := 1) (j := t) hF (m_X5_hasKind ht q4) w_X5_hasKind k_5_89 (by decide +kernel) rfl ht rfl rfl rfl rfl rfl ?_
    refine zif_eq (tgt := 25) (pc := 20) hF (by decide +kernel) (fun b6 => ?_) (fun b6 => ?_)
    · replace h := zit b6 h
      refine zrun hF [(.aload_n 0, 1, pI 0), (.iload_n 1, 1, pI 0), (.iload_n 2, 1, pI 0), (.iconst 4, 1, pI 4)] 25 _ (by decide +kernel) ?_
      show zG w f 5 29 ([some (pR 1 t), some (pI a1), some (pI a2), some (pI a3), some (pI a4)], [pI 4, pI a2, pI a1, pR 1 t], (m, n))
      obtain ⟨r8, q7, h⟩ := zr_k h
      refine zcallVI (pc := 29) (As := [pI a1, pI a2, pI 4]) (st := []) (c := 1) (j := t) hF (m_X5_hasKind ht q7) w_X5_hasKind k_5_89 (by decide +kernel) rfl ht rfl rfl rfl rfl rfl ?_
      refine zif_eq (tgt := 48) (pc := 32) hF (by decide +kernel) (fun b9 => ?_) (fun b9 => ?_)
      · replace h := zit b9 h
        exact m_X5_armsCross_L48 hl hF hR  _ _ _ _ _ _ ht rfl h
      · replace h := zif b9 h
        refine zrun hF [(.aload_n 0, 1, pI 0), (.iload_n 3, 1, pI 0), (.iload 4, 2, pI 0), (.iconst 4, 1, pI 4)] 35 _ (by decide +kernel) ?_
        show zG w f 5 40 ([some (pR 1 t), some (pI a1), some (pI a2), some (pI a3), some (pI a4)], [pI 4, pI a4, pI a3, pR 1 t], (m, n))
        obtain ⟨r11, q10, h⟩ := zr_k h
        refine zcallVI (pc := 40) (As := [pI a3, pI a4, pI 4]) (st := []) (c := 1) (j := t) hF (m_X5_hasKind ht q10) w_X5_hasKind k_5_89 (by decide +kernel) rfl ht rfl rfl rfl rfl rfl ?_
        refine zif_eq (tgt := 48) (pc := 43) hF (by decide +kernel) (fun b12 => ?_) (fun b12 => ?_)
        · replace h := zit b12 h
          exact m_X5_armsCross_L48 hl hF hR  _ _ _ _ _ _ ht rfl h
        · replace h := zif b12 h
          refine zrun hF [(.iconst 0, 1, pI 0)] 46 _ (by decide +kernel) ?_
          show zG w f 5 47 ([some (pR 1 t), some (pI a1), some (pI a2), some (pI a3), some (pI a4)], [pI 0], (m, n))
          exact zretI (pc := 47) hF hR (by decide +kernel) (by decide +kernel) (Option.some.inj h) rfl
    · replace h := zif b6 h
      refine zrun hF [(.iconst 0, 1, pI 0)] 23 _ (by decide +kernel) ?_
      show zG w f 5 24 ([some (pR 1 t), some (pI a1), some (pI a2), some (pI a3), some (pI a4)], [pI 0], (m, n))
      exact zretI (pc := 24) hF hR (by decide +kernel) (by decide +kernel) (Option.some.inj h) rfl
  · replace h := zif b3 h
    refine zrun hF [(.iconst 0, 1, pI 0)] 23 _ (by decide +kernel) ?_
    show zG w f 5 24 ([some (pR 1 t), some (pI a1), some (pI a2), some (pI a3), some (pI a4)], [pI 0], (m, n))
    exact zretI (pc := 24) hF hR (by decide +kernel) (by decide +kernel) (Option.some.inj h) rfl

