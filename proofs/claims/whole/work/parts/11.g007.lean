set_option maxHeartbeats 4000000 in
set_option maxRecDepth 100000 in
theorem m_X6_had {w : zWd} {lc : Launch} {n : zMem} {a1 : Int32} {a2 : Int32} {a3 : Int32} {m : zMem} {x : Int32} {m0 : zMem}  (h : s_X6_had a1 a2 a3 m = some (x, m0)) : zMet w lc 3 yX6_had cX6_had 5 (some .int) [pR 0 0, pI a1, pI a2, pI a3] (m, n) (zQI w x (m0, n)) := by
  refine zmet (o := 6) (by decide +kernel) rfl (Nat.le_of_ble_eq_true rfl) rfl (fun f hl hF hR => ?_)
  unfold s_X6_had at h
  show zG w f 5 0 ([some (pR 0 0), some (pI a1), some (pI a2), some (pI a3), none], [], (m, n))
  refine zrun hF [(.aload_n 0, 1, pI 0), (.iload_n 1, 1, pI 0), (.iload_n 2, 1, pI 0)] 0 _ (by decide +kernel) ?_
  show zG w f 5 3 ([some (pR 0 0), some (pI a1), some (pI a2), some (pI a3), none], [pI a2, pI a1, pR 0 0], (m, n))
  obtain ⟨r2, q1, h⟩ := zr_k h
  refine zcallVI (pc := 3) (As := [pI a1, pI a2]) (st := []) (c := 0) (j := 0) hF (m_X6_refusalOfPair  q1) w_X6_refusalOfPair k_6_169 (by decide +kernel) rfl rfl rfl rfl rfl rfl rfl ?_
  refine zrun hF [(.istore 4, 2, pI 0), (.iload 4, 2, pI 0)] 6 _ (by decide +kernel) ?_
  refine (And.intro rfl ?_)
  show zG w f 5 10 ([some (pR 0 0), some (pI a1), some (pI a2), some (pI a3), some (pI r2)], [pI r2], (m, n))
  refine zif_eq (tgt := 20) (pc := 10) hF (by decide +kernel) (fun b3 => ?_) (fun b3 => ?_)
  · replace h := zit b3 h
    refine zrun hF [(.aload_n 0, 1, pI 0), (.getfield 10, 3, pR 0 0), (.aload_n 0, 1, pI 0), (.getfield 10, 3, pR 0 0), (.getfield 160, 3, pR 1 4), (.iload_n 1, 1, pI 0), (.iload_n 2, 1, pI 0), (.iload_n 3, 1, pI 0)] 20 _ (by decide +kernel) ?_
    refine (And.intro rfl (And.intro rfl (And.intro rfl (And.intro rfl (And.intro rfl (And.intro rfl ?_))))))
    show zG w f 5 34 ([some (pR 0 0), some (pI a1), some (pI a2), some (pI a3), some (pI r2)], [pI a3, pI a2, pI a1, pR 6 0, pR 1 0], (m, n))
    obtain ⟨r5, m6, q4, h⟩ := zb_k h
    refine zcallVI (pc := 34) (As := [pR 6 0, pI a1, pI a2, pI a3]) (st := []) (c := 1) (j := 0) hF (m_X5_mark_6 rfl rfl q4) w_X5_mark k_6_172 (by decide +kernel) rfl rfl rfl rfl rfl rfl rfl ?_
    refine zif_eq (tgt := 44) (pc := 37) hF (by decide +kernel) (fun b7 => ?_) (fun b7 => ?_)
    · replace h := zit b7 h
      refine zrun hF [(.iconst 0, 1, pI 0)] 44 _ (by decide +kernel) ?_
      show zG w f 5 45 ([some (pR 0 0), some (pI a1), some (pI a2), some (pI a3), some (pI r2)], [pI 0], (m6, n))
      exact zretI (pc := 45) hF hR (by decide +kernel) rfl (congrArg Prod.fst (Option.some.inj h)) (congrArg (fun (q : Int32 × zMem) => (q.2, n)) (Option.some.inj h))
    · replace h := zif b7 h
      refine zrun hF [(.iconst 1, 1, pI 1)] 40 _ (by decide +kernel) ?_
      show zG w f 5 41 ([some (pR 0 0), some (pI a1), some (pI a2), some (pI a3), some (pI r2)], [pI 1], (m6, n))
      refine zgoto (tgt := 45) (pc := 41) hF (by decide +kernel) ?_
      exact zretI (pc := 45) hF hR (by decide +kernel) rfl (congrArg Prod.fst (Option.some.inj h)) (congrArg (fun (q : Int32 × zMem) => (q.2, n)) (Option.some.inj h))
  · replace h := zif b3 h
    refine zrun hF [(.aload_n 0, 1, pI 0), (.iload 4, 2, pI 0)] 13 _ (by decide +kernel) ?_
    show zG w f 5 16 ([some (pR 0 0), some (pI a1), some (pI a2), some (pI a3), some (pI r2)], [pI r2, pR 0 0], (m, n))
    obtain ⟨r9, m10, q8, h⟩ := zb_k h
    refine zcallVI (pc := 16) (As := [pI r2]) (st := []) (c := 0) (j := 0) hF (m_X6_refuse  q8) w_X6_refuse k_6_73 (by decide +kernel) rfl rfl rfl rfl rfl rfl rfl ?_
    exact zretI (pc := 19) hF hR (by decide +kernel) rfl (congrArg Prod.fst (Option.some.inj h)) (congrArg (fun (q : Int32 × zMem) => (q.2, n)) (Option.some.inj h))

set_option maxHeartbeats 4000000 in
set_option maxRecDepth 100000 in
theorem m_X7_puts_70 {w : zWd} {lc : Launch} {n : zMem} {a2 : Int32} {a3 : Int32} {a4 : Int32} {m : zMem} {x : Int32} {m0 : zMem}  (h : s_X7_puts_70 a2 a3 a4 m = some (x, m0)) : zMet w lc 2 yX7_puts cX7_puts 5 (some .int) [pR 64 0, pR 70 0, pI a2, pI a3, pI a4] (n, m) (zQI w x (n, m0)) := by
  refine zmet (o := 7) (by decide +kernel) rfl (Nat.le_of_ble_eq_true rfl) rfl (fun f hl hF hR => ?_)
  unfold s_X7_puts_70 at h
  show zG w f 5 0 ([some (pR 64 0), some (pR 70 0), some (pI a2), some (pI a3), some (pI a4)], [], (n, m))
  obtain ⟨c1, h⟩ := zchk h
  refine zrun hF [(.aload_n 0, 1, pI 0), (.aload_n 1, 1, pI 0), (.iload_n 2, 1, pI 0), (.iaload, 1, pI 0), (.iload_n 3, 1, pI 0)] 0 _ (by decide +kernel) ?_
  refine (And.intro rfl (And.intro rfl (And.intro c1 ?_)))
  show zG w f 5 5 ([some (pR 64 0), some (pR 70 0), some (pI a2), some (pI a3), some (pI a4)], [pI a3, pI (m.1 70 0 (ix a2)), pR 64 0], (n, m))
  obtain ⟨r3, q2, h⟩ := zr_k h
  refine zcallVI (pc := 5) (As := [pI (m.1 70 0 (ix a2)), pI a3]) (st := []) (c := 64) (j := 0) hF (m_X7_isIn  q2) w_X7_isIn k_7_130 (by decide +kernel) rfl rfl rfl rfl rfl rfl rfl ?_
  refine zrun hF [(.iload 4, 2, pI 0)] 8 _ (by decide +kernel) ?_
  show zG w f 5 10 ([some (pR 64 0), some (pR 70 0), some (pI a2), some (pI a3), some (pI a4)], [pI a4, pI r3], (n, m))
  refine zicmp_ne (tgt := 15) (pc := 10) hF (by decide +kernel) (fun b4 => ?_) (fun b4 => ?_)
  · replace h := zit b4 h
    refine zrun hF [(.iconst 0, 1, pI 0)] 13 _ (by decide +kernel) ?_
    show zG w f 5 14 ([some (pR 64 0), some (pR 70 0), some (pI a2), some (pI a3), some (pI a4)], [pI 0], (n, m))
    exact zretI (pc := 14) hF hR (by decide +kernel) rfl (congrArg Prod.fst (Option.some.inj h)) (congrArg (fun (q : Int32 × zMem) => (n, q.2)) (Option.some.inj h))
  · replace h := zif b4 h
    refine zrun hF [(.aload_n 1, 1, pI 0), (.iload_n 2, 1, pI 0), (.dup2, 1, pI 0), (.iaload, 1, pI 0), (.iconst 1, 1, pI 1), (.iload_n 3, 1, pI 0), (.ishl, 1, pI 0), (.ixor, 1, pI 0), (.iastore, 1, pI 0)] 15 _ (by decide +kernel) ?_
    refine (And.intro rfl (And.intro rfl (And.intro rfl (And.intro c1 (And.intro rfl (And.intro rfl (And.intro c1 ?_)))))))
    refine zlet_k (P := fun (m5 : zMem) => zG w f 5 24 ([some (pR 64 0), some (pR 70 0), some (pI a2), some (pI a3), some (pI a4)], [], (n, m5))) h (fun m5 h => ?_)
    obtain ⟨c6, h⟩ := zchk h
    refine zrun hF [(.aload_n 1, 1, pI 0), (.iload_n 3, 1, pI 0), (.dup2, 1, pI 0), (.iaload, 1, pI 0), (.iconst 1, 1, pI 1), (.iload_n 2, 1, pI 0), (.ishl, 1, pI 0), (.ixor, 1, pI 0), (.iastore, 1, pI 0)] 24 _ (by decide +kernel) ?_
    refine (And.intro rfl (And.intro rfl (And.intro rfl (And.intro c6 (And.intro rfl (And.intro rfl (And.intro c6 ?_)))))))
    refine zlet_k (P := fun (m7 : zMem) => zG w f 5 33 ([some (pR 64 0), some (pR 70 0), some (pI a2), some (pI a3), some (pI a4)], [], (n, m7))) h (fun m7 h => ?_)
    refine zrun hF [(.iconst 1, 1, pI 1)] 33 _ (by decide +kernel) ?_
    show zG w f 5 34 ([some (pR 64 0), some (pR 70 0), some (pI a2), some (pI a3), some (pI a4)], [pI 1], (n, m7))
    exact zretI (pc := 34) hF hR (by decide +kernel) rfl (congrArg Prod.fst (Option.some.inj h)) (congrArg (fun (q : Int32 × zMem) => (n, q.2)) (Option.some.inj h))

set_option maxHeartbeats 4000000 in
set_option maxRecDepth 100000 in
theorem m_X7_had {w : zWd} {lc : Launch} {n : zMem} {a1 : Int32} {a2 : Int32} {a3 : Int32} {m : zMem} {x : Int32} {m0 : zMem}  (h : s_X7_had a1 a2 a3 m = some (x, m0)) : zMet w lc 3 yX7_had cX7_had 5 (some .int) [pR 64 0, pI a1, pI a2, pI a3] (n, m) (zQI w x (n, m0)) := by
  refine zmet (o := 7) (by decide +kernel) rfl (Nat.le_of_ble_eq_true rfl) rfl (fun f hl hF hR => ?_)
  unfold s_X7_had at h
  show zG w f 5 0 ([some (pR 64 0), some (pI a1), some (pI a2), some (pI a3), none], [], (n, m))
  refine zrun hF [(.aload_n 0, 1, pI 0), (.iload_n 1, 1, pI 0), (.iload_n 2, 1, pI 0)] 0 _ (by decide +kernel) ?_
  show zG w f 5 3 ([some (pR 64 0), some (pI a1), some (pI a2), some (pI a3), none], [pI a2, pI a1, pR 64 0], (n, m))
  obtain ⟨r2, q1, h⟩ := zr_k h
  refine zcallVI (pc := 3) (As := [pI a1, pI a2]) (st := []) (c := 64) (j := 0) hF (m_X7_pair  q1) w_X7_pair k_7_133 (by decide +kernel) rfl rfl rfl rfl rfl rfl rfl ?_
  refine zrun hF [(.istore 4, 2, pI 0), (.iload 4, 2, pI 0)] 6 _ (by decide +kernel) ?_
  refine (And.intro rfl ?_)
  show zG w f 5 10 ([some (pR 64 0), some (pI a1), some (pI a2), some (pI a3), some (pI r2)], [pI r2], (n, m))
  refine zif_eq (tgt := 22) (pc := 10) hF (by decide +kernel) (fun b3 => ?_) (fun b3 => ?_)
  · replace h := zit b3 h
    refine zrun hF [(.aload_n 0, 1, pI 0), (.aload_n 0, 1, pI 0), (.getfield 35, 3, pR 64 12), (.iload_n 1, 1, pI 0), (.iload_n 2, 1, pI 0), (.iload_n 3, 1, pI 0)] 22 _ (by decide +kernel) ?_
    refine (And.intro rfl (And.intro rfl ?_))
    show zG w f 5 30 ([some (pR 64 0), some (pI a1), some (pI a2), some (pI a3), some (pI r2)], [pI a3, pI a2, pI a1, pR 70 0, pR 64 0], (n, m))
    obtain ⟨r5, m6, q4, h⟩ := zb_k h
    refine zcallVI (pc := 30) (As := [pR 70 0, pI a1, pI a2, pI a3]) (st := []) (c := 64) (j := 0) hF (m_X7_puts_70  q4) w_X7_puts k_7_137 (by decide +kernel) rfl rfl rfl rfl rfl rfl rfl ?_
    exact zretI (pc := 33) hF hR (by decide +kernel) rfl (congrArg Prod.fst (Option.some.inj h)) (congrArg (fun (q : Int32 × zMem) => (n, q.2)) (Option.some.inj h))
  · replace h := zif b3 h
    refine zrun hF [(.aload_n 0, 1, pI 0), (.iload 4, 2, pI 0)] 13 _ (by decide +kernel) ?_
    show zG w f 5 16 ([some (pR 64 0), some (pI a1), some (pI a2), some (pI a3), some (pI r2)], [pI r2, pR 64 0], (n, m))
    obtain ⟨r8, m9, q7, h⟩ := zb_k h
    refine zcallVI (pc := 16) (As := [pI r2]) (st := []) (c := 64) (j := 0) hF (m_X7_no  q7) w_X7_no k_7_100 (by decide +kernel) rfl rfl rfl rfl rfl rfl rfl ?_
    refine zgoto (tgt := 33) (pc := 19) hF (by decide +kernel) ?_
    exact zretI (pc := 33) hF hR (by decide +kernel) rfl (congrArg Prod.fst (Option.some.inj h)) (congrArg (fun (q : Int32 × zMem) => (n, q.2)) (Option.some.inj h))

set_option maxHeartbeats 4000000 in
set_option maxRecDepth 100000 in
theorem m_X6_eyes_L16 {w : zWd} {f : zFr} {n : zMem} {x : Int32} {m0 : zMem} {lc : Launch} (hl : f.2.1 = lc) (hF : zFOK w f 6 cX6_eyes 3 2) (hR : zFin w f (some .int) (zQI w x (m0, n))) : ∀ (x1 : Int32) (m : zMem), s_X6_eyes_L16 x1 m = some (x, m0) → zG w f 3 16 ([some (pR 0 0), some (pI x1), none], [], (m, n)) := by
  intro x1 m h
  unfold s_X6_eyes_L16 at h
  refine zrun hF [(.aload_n 0, 1, pI 0), (.getfield 10, 3, pR 0 0), (.getfield 176, 3, pR 1 7), (.istore_n 2, 1, pI 0), (.aload_n 0, 1, pI 0), (.getfield 10, 3, pR 0 0), (.iload_n 1, 1, pI 0), (.putfield 176, 3, pR 1 7)] 16 _ (by decide +kernel) ?_
  refine (And.intro rfl (And.intro rfl (And.intro rfl (And.intro rfl (And.intro rfl (And.intro rfl (And.intro rfl (And.intro rfl (And.intro rfl (And.intro trivial ?_))))))))))
  refine zlet_k (P := fun (m6 : zMem) => zG w f 3 32 ([some (pR 0 0), some (pI x1), some (pI (m.1 1 0 7))], [], (m6, n))) h (fun m6 h => ?_)
  refine zrun hF [(.iload_n 2, 1, pI 0)] 32 _ (by decide +kernel) ?_
  show zG w f 3 33 ([some (pR 0 0), some (pI x1), some (pI (m.1 1 0 7))], [pI (m.1 1 0 7)], (m6, n))
  exact zretI (pc := 33) hF hR (by decide +kernel) rfl (congrArg Prod.fst (Option.some.inj h)) (congrArg (fun (q : Int32 × zMem) => (q.2, n)) (Option.some.inj h))

set_option maxHeartbeats 4000000 in
set_option maxRecDepth 100000 in
theorem m_X6_eyes {w : zWd} {lc : Launch} {n : zMem} {a1 : Int32} {m : zMem} {x : Int32} {m0 : zMem}  (h : s_X6_eyes a1 m = some (x, m0)) : zMet w lc 2 yX6_eyes cX6_eyes 3 (some .int) [pR 0 0, pI a1] (m, n) (zQI w x (m0, n)) := by
  refine zmet (o := 6) (by decide +kernel) rfl (Nat.le_of_ble_eq_true rfl) rfl (fun f hl hF hR => ?_)
  unfold s_X6_eyes at h
  show zG w f 3 0 ([some (pR 0 0), some (pI a1), none], [], (m, n))
  refine zrun hF [(.iload_n 1, 1, pI 0)] 0 _ (by decide +kernel) ?_
  show zG w f 3 1 ([some (pR 0 0), some (pI a1), none], [pI a1], (m, n))
  refine zif_eq (tgt := 16) (pc := 1) hF (by decide +kernel) (fun b1 => ?_) (fun b1 => ?_)
  · replace h := zit b1 h
    exact m_X6_eyes_L16 hl hF hR  _ _  h
  · replace h := zif b1 h
    refine zrun hF [(.iload_n 1, 1, pI 0), (.iconst 1, 1, pI 1)] 4 _ (by decide +kernel) ?_
    show zG w f 3 6 ([some (pR 0 0), some (pI a1), none], [pI 1, pI a1], (m, n))
    refine zicmp_eq (tgt := 16) (pc := 6) hF (by decide +kernel) (fun b2 => ?_) (fun b2 => ?_)
    · replace h := zit b2 h
      exact m_X6_eyes_L16 hl hF hR  _ _  h
    · replace h := zif b2 h
      refine zrun hF [(.aload_n 0, 1, pI 0), (.bipush (-6), 2, pI (-6))] 9 _ (by decide +kernel) ?_
      show zG w f 3 12 ([some (pR 0 0), some (pI a1), none], [pI (-6), pR 0 0], (m, n))
      obtain ⟨r4, m5, q3, h⟩ := zb_k h
      refine zcallVI (pc := 12) (As := [pI (-6)]) (st := []) (c := 0) (j := 0) hF (m_X6_refuse  q3) w_X6_refuse k_6_73 (by decide +kernel) rfl rfl rfl rfl rfl rfl rfl ?_
      exact zretI (pc := 15) hF hR (by decide +kernel) rfl (congrArg Prod.fst (Option.some.inj h)) (congrArg (fun (q : Int32 × zMem) => (q.2, n)) (Option.some.inj h))

set_option maxHeartbeats 4000000 in
set_option maxRecDepth 100000 in
theorem m_X7_eyes_L9 {w : zWd} {f : zFr} {n : zMem} {x : Int32} {m0 : zMem} {lc : Launch} (hl : f.2.1 = lc) (hF : zFOK w f 7 cX7_eyes 3 2) (hR : zFin w f (some .int) (zQI w x (n, m0))) : ∀ (m : zMem), s_X7_eyes_L9 m = some (x, m0) → zG w f 3 9 ([some (pR 64 0), none, none], [], (n, m)) := by
  intro m h
  unfold s_X7_eyes_L9 at h
  refine zrun hF [(.aload_n 0, 1, pI 0), (.bipush (-6), 2, pI (-6))] 9 _ (by decide +kernel) ?_
  show zG w f 3 12 ([some (pR 64 0), none, none], [pI (-6), pR 64 0], (n, m))
  obtain ⟨r5, m6, q4, h⟩ := zb_k h
  refine zcallVI (pc := 12) (As := [pI (-6)]) (st := []) (c := 64) (j := 0) hF (m_X7_no  q4) w_X7_no k_7_100 (by decide +kernel) rfl rfl rfl rfl rfl rfl rfl ?_
  exact zretI (pc := 15) hF hR (by decide +kernel) rfl (congrArg Prod.fst (Option.some.inj h)) (congrArg (fun (q : Int32 × zMem) => (n, q.2)) (Option.some.inj h))

set_option maxHeartbeats 4000000 in
set_option maxRecDepth 100000 in
theorem m_X7_eyes {w : zWd} {lc : Launch} {n : zMem} {a1 : Int32} {m : zMem} {x : Int32} {m0 : zMem}  (h : s_X7_eyes a1 m = some (x, m0)) : zMet w lc 2 yX7_eyes cX7_eyes 3 (some .int) [pR 64 0, pI a1] (n, m) (zQI w x (n, m0)) := by
  refine zmet (o := 7) (by decide +kernel) rfl (Nat.le_of_ble_eq_true rfl) rfl (fun f hl hF hR => ?_)
  unfold s_X7_eyes at h
  show zG w f 3 0 ([some (pR 64 0), some (pI a1), none], [], (n, m))
  refine zrun hF [(.iload_n 1, 1, pI 0)] 0 _ (by decide +kernel) ?_
  show zG w f 3 1 ([some (pR 64 0), some (pI a1), none], [pI a1], (n, m))
  refine zif_lt (tgt := 9) (pc := 1) hF (by decide +kernel) (fun b1 => ?_) (fun b1 => ?_)
  · replace h := zit b1 h
    refine zcut [true, false, true] ?_
    exact m_X7_eyes_L9 hl hF hR  _  h
  · replace h := zif b1 h
    refine zrun hF [(.iload_n 1, 1, pI 0), (.iconst 1, 1, pI 1)] 4 _ (by decide +kernel) ?_
    show zG w f 3 6 ([some (pR 64 0), some (pI a1), none], [pI 1, pI a1], (n, m))
    refine zicmp_le (tgt := 16) (pc := 6) hF (by decide +kernel) (fun b2 => ?_) (fun b2 => ?_)
    · replace h := zit b2 h
      refine zrun hF [(.aload_n 0, 1, pI 0), (.getfield 141, 3, pR 64 2), (.istore_n 2, 1, pI 0), (.aload_n 0, 1, pI 0), (.iload_n 1, 1, pI 0), (.putfield 141, 3, pR 64 2)] 16 _ (by decide +kernel) ?_
      refine (And.intro rfl (And.intro rfl (And.intro rfl (And.intro rfl (And.intro rfl (And.intro trivial ?_))))))
      refine zlet_k (P := fun (m3 : zMem) => zG w f 3 26 ([some (pR 64 0), some (pI a1), some (pI (m.1 64 0 2))], [], (n, m3))) h (fun m3 h => ?_)
      refine zrun hF [(.iload_n 2, 1, pI 0)] 26 _ (by decide +kernel) ?_
      show zG w f 3 27 ([some (pR 64 0), some (pI a1), some (pI (m.1 64 0 2))], [pI (m.1 64 0 2)], (n, m3))
      exact zretI (pc := 27) hF hR (by decide +kernel) rfl (congrArg Prod.fst (Option.some.inj h)) (congrArg (fun (q : Int32 × zMem) => (n, q.2)) (Option.some.inj h))
    · replace h := zif b2 h
      refine zcut [true, false, true] ?_
      exact m_X7_eyes_L9 hl hF hR  _  h

set_option maxHeartbeats 4000000 in
set_option maxRecDepth 100000 in
theorem m_X5_takeOver {w : zWd} {lc : Launch} {n : zMem} {t : Nat} {a1 : Nat} {m : zMem} {m0 : zMem} (ht : Nat.blt t 3 = true) (ha1 : Nat.blt a1 3 = true) (h : s_X5_takeOver t a1 m = some m0) : zMet w lc 1 yX5_takeOver cX5_takeOver 2 none [pR 1 t, pR 1 a1] (m, n) (zQV w (m0, n)) := by
  refine zmet (o := 5) (by decide +kernel) rfl (Nat.le_of_ble_eq_true rfl) rfl (fun f hl hF hR => ?_)
  unfold s_X5_takeOver at h
  show zG w f 2 0 ([some (pR 1 t), some (pR 1 a1)], [], (m, n))
  refine zrun hF [(.aload_n 1, 1, pI 0), (.getfield 9, 3, pR 1 0), (.iconst 0, 1, pI 0), (.aload_n 0, 1, pI 0), (.getfield 9, 3, pR 1 0), (.iconst 0, 1, pI 0), (.bipush 10, 2, pI 10), (.invokestatic 46, 3, pR 201 0)] 0 _ (by decide +kernel) ?_
  refine (And.intro rfl (And.intro ha1 (And.intro rfl (And.intro ht (And.intro rfl (And.intro (And.intro ht ha1) (And.intro rfl (And.intro (And.intro rfl rfl) (And.intro rfl ?_)))))))))
  refine zlet_k (P := fun (m1 : zMem) => zG w f 2 15 ([some (pR 1 t), some (pR 1 a1)], [], (m1, n))) h (fun m1 h => ?_)
  refine zrun hF [(.aload_n 1, 1, pI 0), (.getfield 15, 3, pR 1 1), (.iconst 0, 1, pI 0), (.aload_n 0, 1, pI 0), (.getfield 15, 3, pR 1 1), (.iconst 0, 1, pI 0), (.bipush 10, 2, pI 10), (.invokestatic 46, 3, pR 201 0)] 15 _ (by decide +kernel) ?_
  refine (And.intro rfl (And.intro ha1 (And.intro rfl (And.intro ht (And.intro rfl (And.intro (And.intro ht ha1) (And.intro rfl (And.intro (And.intro rfl rfl) (And.intro rfl ?_)))))))))
  refine zlet_k (P := fun (m2 : zMem) => zG w f 2 30 ([some (pR 1 t), some (pR 1 a1)], [], (m2, n))) h (fun m2 h => ?_)
  refine zrun hF [(.aload_n 1, 1, pI 0), (.getfield 18, 3, pR 1 2), (.iconst 0, 1, pI 0), (.aload_n 0, 1, pI 0), (.getfield 18, 3, pR 1 2), (.iconst 0, 1, pI 0), (.bipush 10, 2, pI 10), (.invokestatic 46, 3, pR 201 0)] 30 _ (by decide +kernel) ?_
  refine (And.intro rfl (And.intro ha1 (And.intro rfl (And.intro ht (And.intro rfl (And.intro (And.intro ht ha1) (And.intro rfl (And.intro (And.intro rfl rfl) (And.intro rfl ?_)))))))))
  refine zlet_k (P := fun (m3 : zMem) => zG w f 2 45 ([some (pR 1 t), some (pR 1 a1)], [], (m3, n))) h (fun m3 h => ?_)
  refine zrun hF [(.aload_n 1, 1, pI 0), (.getfield 21, 3, pR 1 3), (.iconst 0, 1, pI 0), (.aload_n 0, 1, pI 0), (.getfield 21, 3, pR 1 3), (.iconst 0, 1, pI 0), (.bipush 10, 2, pI 10), (.invokestatic 46, 3, pR 201 0)] 45 _ (by decide +kernel) ?_
  refine (And.intro rfl (And.intro ha1 (And.intro rfl (And.intro ht (And.intro rfl (And.intro (And.intro ht ha1) (And.intro rfl (And.intro (And.intro rfl rfl) (And.intro rfl ?_)))))))))
  refine zlet_k (P := fun (m4 : zMem) => zG w f 2 60 ([some (pR 1 t), some (pR 1 a1)], [], (m4, n))) h (fun m4 h => ?_)
  refine zrun hF [(.aload_n 1, 1, pI 0), (.getfield 24, 3, pR 1 4), (.iconst 0, 1, pI 0), (.aload_n 0, 1, pI 0), (.getfield 24, 3, pR 1 4), (.iconst 0, 1, pI 0), (.bipush 10, 2, pI 10), (.invokestatic 46, 3, pR 201 0)] 60 _ (by decide +kernel) ?_
  refine (And.intro rfl (And.intro ha1 (And.intro rfl (And.intro ht (And.intro rfl (And.intro (And.intro ht ha1) (And.intro rfl (And.intro (And.intro rfl rfl) (And.intro rfl ?_)))))))))
  refine zlet_k (P := fun (m5 : zMem) => zG w f 2 75 ([some (pR 1 t), some (pR 1 a1)], [], (m5, n))) h (fun m5 h => ?_)
  refine zrun hF [(.aload_n 0, 1, pI 0), (.aload_n 1, 1, pI 0), (.getfield 27, 3, pR 1 5), (.putfield 27, 3, pR 1 5)] 75 _ (by decide +kernel) ?_
  refine (And.intro rfl (And.intro ha1 (And.intro rfl (And.intro ht (And.intro trivial ?_)))))
  refine zlet_k (P := fun (m6 : zMem) => zG w f 2 83 ([some (pR 1 t), some (pR 1 a1)], [], (m6, n))) h (fun m6 h => ?_)
  refine zrun hF [(.aload_n 0, 1, pI 0), (.aload_n 1, 1, pI 0), (.getfield 31, 3, pR 1 6), (.putfield 31, 3, pR 1 6)] 83 _ (by decide +kernel) ?_
  refine (And.intro rfl (And.intro ha1 (And.intro rfl (And.intro ht (And.intro trivial ?_)))))
  refine zlet_k (P := fun (m7 : zMem) => zG w f 2 91 ([some (pR 1 t), some (pR 1 a1)], [], (m7, n))) h (fun m7 h => ?_)
  refine zrun hF [(.aload_n 0, 1, pI 0), (.aload_n 1, 1, pI 0), (.getfield 34, 3, pR 1 7), (.putfield 34, 3, pR 1 7)] 91 _ (by decide +kernel) ?_
  refine (And.intro rfl (And.intro ha1 (And.intro rfl (And.intro ht (And.intro trivial ?_)))))
  refine zlet_k (P := fun (m8 : zMem) => zG w f 2 99 ([some (pR 1 t), some (pR 1 a1)], [], (m8, n))) h (fun m8 h => ?_)
  refine zrun hF [(.aload_n 0, 1, pI 0), (.aload_n 1, 1, pI 0), (.getfield 37, 3, pR 1 8), (.putfield 37, 3, pR 1 8)] 99 _ (by decide +kernel) ?_
  refine (And.intro rfl (And.intro ha1 (And.intro rfl (And.intro ht (And.intro trivial ?_)))))
  refine zlet_k (P := fun (m9 : zMem) => zG w f 2 107 ([some (pR 1 t), some (pR 1 a1)], [], (m9, n))) h (fun m9 h => ?_)
  refine zrun hF [(.aload_n 0, 1, pI 0), (.aload_n 1, 1, pI 0), (.getfield 40, 3, pR 1 9), (.putfield 40, 3, pR 1 9)] 107 _ (by decide +kernel) ?_
  refine (And.intro rfl (And.intro ha1 (And.intro rfl (And.intro ht (And.intro trivial ?_)))))
  refine zlet_k (P := fun (m10 : zMem) => zG w f 2 115 ([some (pR 1 t), some (pR 1 a1)], [], (m10, n))) h (fun m10 h => ?_)
  refine zrun hF [(.aload_n 0, 1, pI 0), (.aload_n 1, 1, pI 0), (.getfield 43, 3, pR 1 10), (.putfield 43, 3, pR 1 10)] 115 _ (by decide +kernel) ?_
  refine (And.intro rfl (And.intro ha1 (And.intro rfl (And.intro ht (And.intro trivial ?_)))))
  refine zlet_k (P := fun (m11 : zMem) => zG w f 2 123 ([some (pR 1 t), some (pR 1 a1)], [], (m11, n))) h (fun m11 h => ?_)
  exact zretV (pc := 123) hF hR (by decide +kernel) (congrArg (fun q => (q, n)) (Option.some.inj h))

set_option maxHeartbeats 4000000 in
set_option maxRecDepth 100000 in
theorem m_X4_number {w : zWd} {lc : Launch} {n : zMem} {t : Nat} {a1 : Int32} {m : zMem} {x : Int32} (ht : Nat.blt t 8 = true) (h : s_X4_number t a1 m = some x) : zMet w lc 2 yX4_number cX4_number 2 (some .int) [pR 8 t, pI a1] (m, n) (zQI w x (m, n)) := by
  refine zmet (o := 4) (by decide +kernel) rfl (Nat.le_of_ble_eq_true rfl) rfl (fun f hl hF hR => ?_)
  unfold s_X4_number at h
  show zG w f 2 0 ([some (pR 8 t), some (pI a1)], [], (m, n))
  refine zrun hF [(.aload_n 0, 1, pI 0), (.iload_n 1, 1, pI 0)] 0 _ (by decide +kernel) ?_
  show zG w f 2 2 ([some (pR 8 t), some (pI a1)], [pI a1, pR 8 t], (m, n))
  obtain ⟨r2, q1, h⟩ := zr_k h
  refine zcallVI (pc := 2) (As := [pI a1]) (st := []) (c := 8) (j := t) hF (m_X4_has ht q1) w_X4_has k_4_31 (by decide +kernel) rfl ht rfl rfl rfl rfl rfl ?_
  refine zif_eq (tgt := 18) (pc := 5) hF (by decide +kernel) (fun b3 => ?_) (fun b3 => ?_)
  · replace h := zit b3 h
    refine zrun hF [(.iconst 0, 1, pI 0)] 18 _ (by decide +kernel) ?_
    show zG w f 2 19 ([some (pR 8 t), some (pI a1)], [pI 0], (m, n))
    exact zretI (pc := 19) hF hR (by decide +kernel) rfl (Option.some.inj h) rfl
  · replace h := zif b3 h
    obtain ⟨c4, h⟩ := zchk h
    refine zrun hF [(.aload_n 0, 1, pI 0), (.getfield 9, 3, pR 8 0), (.iload_n 1, 1, pI 0), (.laload, 1, pI 0), (.l2i, 1, pI 0)] 8 _ (by decide +kernel) ?_
    refine (And.intro rfl (And.intro ht (And.intro rfl (And.intro ht (And.intro c4 ?_)))))
    show zG w f 2 15 ([some (pR 8 t), some (pI a1)], [pI (Int64.toInt32 (m.2 9 t (ix a1)))], (m, n))
    refine zgoto (tgt := 19) (pc := 15) hF (by decide +kernel) ?_
    exact zretI (pc := 19) hF hR (by decide +kernel) rfl (Option.some.inj h) rfl

set_option maxHeartbeats 4000000 in
set_option maxRecDepth 100000 in
theorem m_X3_readWord_L2 {w : zWd} {f : zFr} {n : zMem} {x : Int32} {m0 : zMem} {lc : Launch} (hl : f.2.1 = lc) (hF : zFOK w f 3 cX3_readWord 4 6) (hR : zFin w f (some .boolean) (zQI w x (m0, n))) : ∀ (k : Nat) (x1 : Nat) (x2 : Nat) (x3 : Int32) (m : zMem), Nat.blt x1 8 = true → Nat.blt x2 6 = true → s_X3_readWord_L2 k x1 x2 x3 m = some (x, m0) → zG w f 4 2 ([some (pR 19 0), some (pR 8 x1), some (pR 61 x2), some (pI x3)], [], (m, n)) := by
  intro k
  induction k with
  | zero => intro x1 x2 x3 m hx1 hx2 h; exact zno h
  | succ k ih =>
    intro x1 x2 x3 m hx1 hx2 h
    unfold s_X3_readWord_L2 at h
    refine zrun hF [(.iload_n 3, 1, pI 0), (.aload_n 2, 1, pI 0)] 2 _ (by decide +kernel) ?_
    show zG w f 4 4 ([some (pR 19 0), some (pR 8 x1), some (pR 61 x2), some (pI x3)], [pR 61 x2, pI x3], (m, n))
    obtain ⟨r2, q1, h⟩ := zr_k h
    refine zlenS (pc := 4) (st := [pI x3]) hF k_3_80 (by decide +kernel) hx2 rfl rfl q1 ?_
    refine zicmp_ge (tgt := 44) (pc := 7) hF (by decide +kernel) (fun b3 => ?_) (fun b3 => ?_)
    · replace h := zit b3 h
      refine zrun hF [(.iconst 1, 1, pI 1)] 44 _ (by decide +kernel) ?_
      show zG w f 4 45 ([some (pR 19 0), some (pR 8 x1), some (pR 61 x2), some (pI x3)], [pI 1], (m, n))
      exact zretI (pc := 45) hF hR (by decide +kernel) (by decide +kernel) (congrArg Prod.fst (Option.some.inj h)) (congrArg (fun (q : Int32 × zMem) => (q.2, n)) (Option.some.inj h))
    · replace h := zif b3 h
      refine zrun hF [(.aload_n 1, 1, pI 0), (.aload_n 0, 1, pI 0), (.getfield 9, 3, pR 19 0)] 10 _ (by decide +kernel) ?_
      refine (And.intro rfl (And.intro rfl ?_))
      show zG w f 4 15 ([some (pR 19 0), some (pR 8 x1), some (pR 61 x2), some (pI x3)], [pI (m.1 19 0 0), pR 8 x1], (m, n))
      obtain ⟨r5, q4, h⟩ := zr_k h
      refine zcallVI (pc := 15) (As := [pI (m.1 19 0 0)]) (st := []) (c := 8) (j := x1) hF (m_X4_number hx1 q4) w_X4_number k_3_24 (by decide +kernel) rfl hx1 rfl rfl rfl rfl rfl ?_
      refine zrun hF [(.aload_n 2, 1, pI 0), (.iload_n 3, 1, pI 0)] 18 _ (by decide +kernel) ?_
      show zG w f 4 20 ([some (pR 19 0), some (pR 8 x1), some (pR 61 x2), some (pI x3)], [pI x3, pR 61 x2, pI r5], (m, n))
      obtain ⟨r7, q6, h⟩ := zr_k h
      refine zchrS (pc := 20) (st := [pI r5]) hF k_3_85 (by decide +kernel) hx2 rfl rfl q6 ?_
      refine zicmp_eq (tgt := 28) (pc := 23) hF (by decide +kernel) (fun b8 => ?_) (fun b8 => ?_)
      · replace h := zit b8 h
        refine zrun hF [(.aload_n 0, 1, pI 0), (.dup, 1, pI 0), (.getfield 9, 3, pR 19 0), (.iconst 1, 1, pI 1), (.iadd, 1, pI 0), (.putfield 9, 3, pR 19 0)] 28 _ (by decide +kernel) ?_
        refine (And.intro rfl (And.intro rfl (And.intro rfl (And.intro rfl (And.intro rfl (And.intro trivial ?_))))))
        refine zlet_k (P := fun (m9 : zMem) => zG w f 4 38 ([some (pR 19 0), some (pR 8 x1), some (pR 61 x2), some (pI x3)], [], (m9, n))) h (fun m9 h => ?_)
        refine zrun hF [(.iinc 3 1, 3, pI 1)] 38 _ (by decide +kernel) ?_
        refine (And.intro rfl ?_)
        show zG w f 4 41 ([some (pR 19 0), some (pR 8 x1), some (pR 61 x2), some (pI (x3 + 1))], [], (m9, n))
        refine zgoto (tgt := 2) (pc := 41) hF (by decide +kernel) ?_
        exact ih _ _ _ _ hx1 hx2 h
      · replace h := zif b8 h
        refine zrun hF [(.iconst 0, 1, pI 0)] 26 _ (by decide +kernel) ?_
        show zG w f 4 27 ([some (pR 19 0), some (pR 8 x1), some (pR 61 x2), some (pI x3)], [pI 0], (m, n))
        exact zretI (pc := 27) hF hR (by decide +kernel) (by decide +kernel) (congrArg Prod.fst (Option.some.inj h)) (congrArg (fun (q : Int32 × zMem) => (q.2, n)) (Option.some.inj h))

set_option maxHeartbeats 4000000 in
set_option maxRecDepth 100000 in
theorem m_X3_readWord {w : zWd} {lc : Launch} {n : zMem} {a1 : Nat} {a2 : Nat} {m : zMem} {x : Int32} {m0 : zMem} (ha1 : Nat.blt a1 8 = true) (ha2 : Nat.blt a2 6 = true) (h : s_X3_readWord a1 a2 m = some (x, m0)) : zMet w lc 6 yX3_readWord cX3_readWord 4 (some .boolean) [pR 19 0, pR 8 a1, pR 61 a2] (m, n) (zQI w x (m0, n)) := by
  refine zmet (o := 3) (by decide +kernel) rfl (Nat.le_of_ble_eq_true rfl) rfl (fun f hl hF hR => ?_)
  unfold s_X3_readWord at h
  show zG w f 4 0 ([some (pR 19 0), some (pR 8 a1), some (pR 61 a2), none], [], (m, n))
  refine zrun hF [(.iconst 0, 1, pI 0), (.istore_n 3, 1, pI 0)] 0 _ (by decide +kernel) ?_
  refine (And.intro rfl ?_)
  show zG w f 4 2 ([some (pR 19 0), some (pR 8 a1), some (pR 61 a2), some (pI 0)], [], (m, n))
  exact m_X3_readWord_L2 hl hF hR  zF _ _ _ _ ha1 ha2 h

set_option maxHeartbeats 4000000 in
set_option maxRecDepth 100000 in
theorem m_X5_guestBits {w : zWd} {lc : Launch} {n : zMem} {t : Nat} {m : zMem} {x : Int32} (ht : Nat.blt t 3 = true) (h : s_X5_guestBits t m = some x) : zMet w lc 2 yX5_guestBits cX5_guestBits 1 (some .int) [pR 1 t] (m, n) (zQI w x (m, n)) := by
  refine zmet (o := 5) (by decide +kernel) rfl (Nat.le_of_ble_eq_true rfl) rfl (fun f hl hF hR => ?_)
  unfold s_X5_guestBits at h
  show zG w f 1 0 ([some (pR 1 t)], [], (m, n))
  refine zrun hF [(.aload_n 0, 1, pI 0), (.getfield 31, 3, pR 1 6)] 0 _ (by decide +kernel) ?_
  refine (And.intro rfl (And.intro ht ?_))
  show zG w f 1 4 ([some (pR 1 t)], [pI (m.1 1 t 6)], (m, n))
  obtain ⟨r2, q1, h⟩ := zr_k h
  refine zcallNI (pc := 4) (As := [pI (m.1 1 t 6)]) (st := []) hF (m_X6_bit  q1) w_X6_bit k_5_55 (by decide +kernel) rfl rfl rfl rfl ?_
  refine zrun hF [(.iconst 1, 1, pI 1), (.isub, 1, pI 0)] 7 _ (by decide +kernel) ?_
  show zG w f 1 9 ([some (pR 1 t)], [pI (r2 - 1)], (m, n))
  exact zretI (pc := 9) hF hR (by decide +kernel) rfl (Option.some.inj h) rfl

set_option maxHeartbeats 4000000 in
set_option maxRecDepth 100000 in
theorem m_X3_digit {w : zWd} {lc : Launch} {M : zWM} {a1 : Int32} {x : Int32}  (h : s_X3_digit a1 = some x) : zMet w lc 1 yX3_digit cX3_digit 1 (some .int) [pI a1] M (zQI w x M) := by
  refine zmet (o := 3) (by decide +kernel) rfl (Nat.le_of_ble_eq_true rfl) rfl (fun f hl hF hR => ?_)
  unfold s_X3_digit at h
  show zG w f 1 0 ([some (pI a1)], [], M)
  refine zrun hF [(.iload_n 0, 1, pI 0), (.bipush 48, 2, pI 48)] 0 _ (by decide +kernel) ?_
  show zG w f 1 3 ([some (pI a1)], [pI 48, pI a1], M)
  refine zicmp_lt (tgt := 19) (pc := 3) hF (by decide +kernel) (fun b1 => ?_) (fun b1 => ?_)
  · replace h := zit b1 h
    refine zrun hF [(.iconst (-1), 1, pI (-1))] 19 _ (by decide +kernel) ?_
    show zG w f 1 20 ([some (pI a1)], [pI (-1)], M)
    exact zretI (pc := 20) hF hR (by decide +kernel) rfl (Option.some.inj h) rfl
  · replace h := zif b1 h
    refine zrun hF [(.iload_n 0, 1, pI 0), (.bipush 57, 2, pI 57)] 6 _ (by decide +kernel) ?_
    show zG w f 1 9 ([some (pI a1)], [pI 57, pI a1], M)
    refine zicmp_gt (tgt := 19) (pc := 9) hF (by decide +kernel) (fun b2 => ?_) (fun b2 => ?_)
    · replace h := zit b2 h
      refine zrun hF [(.iconst (-1), 1, pI (-1))] 19 _ (by decide +kernel) ?_
      show zG w f 1 20 ([some (pI a1)], [pI (-1)], M)
      exact zretI (pc := 20) hF hR (by decide +kernel) rfl (Option.some.inj h) rfl
    · replace h := zif b2 h
      refine zrun hF [(.iload_n 0, 1, pI 0), (.bipush 48, 2, pI 48), (.isub, 1, pI 0)] 12 _ (by decide +kernel) ?_
      show zG w f 1 16 ([some (pI a1)], [pI (a1 - 48)], M)
      refine zgoto (tgt := 20) (pc := 16) hF (by decide +kernel) ?_
      exact zretI (pc := 20) hF hR (by decide +kernel) rfl (Option.some.inj h) rfl

set_option maxHeartbeats 4000000 in
set_option maxRecDepth 100000 in
theorem m_X3_readNumber_L76 {w : zWd} {f : zFr} {n : zMem} {x : Int32} {m0 : zMem} {lc : Launch} (hl : f.2.1 = lc) (hF : zFOK w f 3 cX3_readNumber 6 3) (hR : zFin w f (some .int) (zQI w x (m0, n))) : ∀ (x2 : Int32) (x4 : Int32) (y0 : Int32) (m : zMem), s_X3_readNumber_L76 x2 x4 y0 m = some (x, m0) → zG w f 6 76 ([some (pR 19 0), none, some (pI x2), none, some (pI x4), none], [pI y0], (m, n)) := by
  intro x2 x4 y0 m h
  unfold s_X3_readNumber_L76 at h
  refine zrun hF [(.istore 5, 2, pI 0), (.iload 5, 2, pI 0), (.bipush 12, 2, pI 12)] 76 _ (by decide +kernel) ?_
  refine (And.intro rfl ?_)
  show zG w f 6 82 ([some (pR 19 0), none, some (pI x2), none, some (pI x4), some (pI y0)], [pI 12, pI y0], (m, n))
  refine zicmp_gt (tgt := 94) (pc := 82) hF (by decide +kernel) (fun b15 => ?_) (fun b15 => ?_)
  · replace h := zit b15 h
    refine zrun hF [(.iconst (-1), 1, pI (-1))] 94 _ (by decide +kernel) ?_
    show zG w f 6 95 ([some (pR 19 0), none, some (pI x2), none, some (pI x4), some (pI y0)], [pI (-1)], (m, n))
    exact zretI (pc := 95) hF hR (by decide +kernel) rfl (congrArg Prod.fst (Option.some.inj h)) (congrArg (fun (q : Int32 × zMem) => (q.2, n)) (Option.some.inj h))
  · replace h := zif b15 h
    refine zrun hF [(.iload_n 2, 1, pI 0), (.iload 5, 2, pI 0), (.ishr, 1, pI 0), (.iconst 1, 1, pI 1), (.iand, 1, pI 0)] 85 _ (by decide +kernel) ?_
    show zG w f 6 91 ([some (pR 19 0), none, some (pI x2), none, some (pI x4), some (pI y0)], [pI ((jshr x2 y0) &&& 1)], (m, n))
    refine zif_ne (tgt := 96) (pc := 91) hF (by decide +kernel) (fun b16 => ?_) (fun b16 => ?_)
    · replace h := zit b16 h
      refine zrun hF [(.iconst (-1), 1, pI (-1))] 94 _ (by decide +kernel) ?_
      show zG w f 6 95 ([some (pR 19 0), none, some (pI x2), none, some (pI x4), some (pI y0)], [pI (-1)], (m, n))
      exact zretI (pc := 95) hF hR (by decide +kernel) rfl (congrArg Prod.fst (Option.some.inj h)) (congrArg (fun (q : Int32 × zMem) => (q.2, n)) (Option.some.inj h))
    · replace h := zif b16 h
      refine zrun hF [(.aload_n 0, 1, pI 0), (.dup, 1, pI 0), (.getfield 9, 3, pR 19 0), (.iload 4, 2, pI 0), (.iconst (-1), 1, pI (-1))] 96 _ (by decide +kernel) ?_
      refine (And.intro rfl (And.intro rfl (And.intro rfl ?_)))
      show zG w f 6 104 ([some (pR 19 0), none, some (pI x2), none, some (pI x4), some (pI y0)], [pI (-1), pI x4, pI (m.1 19 0 0), pR 19 0], (m, n))
      refine zicmp_ne (tgt := 111) (pc := 104) hF (by decide +kernel) (fun b17 => ?_) (fun b17 => ?_)
      · replace h := zit b17 h
        refine zrun hF [(.iconst 1, 1, pI 1)] 107 _ (by decide +kernel) ?_
        show zG w f 6 108 ([some (pR 19 0), none, some (pI x2), none, some (pI x4), some (pI y0)], [pI 1, pI (m.1 19 0 0), pR 19 0], (m, n))
        refine zgoto (tgt := 112) (pc := 108) hF (by decide +kernel) ?_
        refine zrun hF [(.iadd, 1, pI 0), (.putfield 9, 3, pR 19 0)] 112 _ (by decide +kernel) ?_
        refine (And.intro rfl (And.intro rfl (And.intro trivial ?_)))
        refine zlet_k (P := fun (m18 : zMem) => zG w f 6 116 ([some (pR 19 0), none, some (pI x2), none, some (pI x4), some (pI y0)], [], (m18, n))) h (fun m18 h => ?_)
        refine zrun hF [(.iload 5, 2, pI 0)] 116 _ (by decide +kernel) ?_
        show zG w f 6 118 ([some (pR 19 0), none, some (pI x2), none, some (pI x4), some (pI y0)], [pI y0], (m18, n))
        exact zretI (pc := 118) hF hR (by decide +kernel) rfl (congrArg Prod.fst (Option.some.inj h)) (congrArg (fun (q : Int32 × zMem) => (q.2, n)) (Option.some.inj h))
      · replace h := zif b17 h
        refine zrun hF [(.iconst 2, 1, pI 2), (.iadd, 1, pI 0), (.putfield 9, 3, pR 19 0)] 111 _ (by decide +kernel) ?_
        refine (And.intro rfl (And.intro rfl (And.intro trivial ?_)))
        refine zlet_k (P := fun (m19 : zMem) => zG w f 6 116 ([some (pR 19 0), none, some (pI x2), none, some (pI x4), some (pI y0)], [], (m19, n))) h (fun m19 h => ?_)
        refine zrun hF [(.iload 5, 2, pI 0)] 116 _ (by decide +kernel) ?_
        show zG w f 6 118 ([some (pR 19 0), none, some (pI x2), none, some (pI x4), some (pI y0)], [pI y0], (m19, n))
        exact zretI (pc := 118) hF hR (by decide +kernel) rfl (congrArg Prod.fst (Option.some.inj h)) (congrArg (fun (q : Int32 × zMem) => (q.2, n)) (Option.some.inj h))

set_option maxHeartbeats 4000000 in
set_option maxRecDepth 100000 in
theorem m_X3_readNumber {w : zWd} {lc : Launch} {n : zMem} {a1 : Nat} {a2 : Int32} {m : zMem} {x : Int32} {m0 : zMem} (ha1 : Nat.blt a1 8 = true) (h : s_X3_readNumber a1 a2 m = some (x, m0)) : zMet w lc 3 yX3_readNumber cX3_readNumber 6 (some .int) [pR 19 0, pR 8 a1, pI a2] (m, n) (zQI w x (m0, n)) := by
  refine zmet (o := 3) (by decide +kernel) rfl (Nat.le_of_ble_eq_true rfl) rfl (fun f hl hF hR => ?_)
  unfold s_X3_readNumber at h
  show zG w f 6 0 ([some (pR 19 0), some (pR 8 a1), some (pI a2), none, none, none], [], (m, n))
  refine zrun hF [(.aload_n 1, 1, pI 0), (.aload_n 0, 1, pI 0), (.getfield 9, 3, pR 19 0)] 0 _ (by decide +kernel) ?_
  refine (And.intro rfl (And.intro rfl ?_))
  show zG w f 6 5 ([some (pR 19 0), some (pR 8 a1), some (pI a2), none, none, none], [pI (m.1 19 0 0), pR 8 a1], (m, n))
  obtain ⟨r2, q1, h⟩ := zr_k h
  refine zcallVI (pc := 5) (As := [pI (m.1 19 0 0)]) (st := []) (c := 8) (j := a1) hF (m_X4_number ha1 q1) w_X4_number k_3_24 (by decide +kernel) rfl ha1 rfl rfl rfl rfl rfl ?_
  refine zrun hF [(.bipush 32, 2, pI 32)] 8 _ (by decide +kernel) ?_
  show zG w f 6 10 ([some (pR 19 0), some (pR 8 a1), some (pI a2), none, none, none], [pI 32, pI r2], (m, n))
  refine zicmp_eq (tgt := 15) (pc := 10) hF (by decide +kernel) (fun b3 => ?_) (fun b3 => ?_)
  · replace h := zit b3 h
    refine zrun hF [(.aload_n 0, 1, pI 0), (.dup, 1, pI 0), (.getfield 9, 3, pR 19 0), (.iconst 1, 1, pI 1), (.iadd, 1, pI 0), (.putfield 9, 3, pR 19 0)] 15 _ (by decide +kernel) ?_
    refine (And.intro rfl (And.intro rfl (And.intro rfl (And.intro rfl (And.intro rfl (And.intro trivial ?_))))))
    refine zlet_k (P := fun (m4 : zMem) => zG w f 6 25 ([some (pR 19 0), some (pR 8 a1), some (pI a2), none, none, none], [], (m4, n))) h (fun m4 h => ?_)
    refine zrun hF [(.aload_n 1, 1, pI 0), (.aload_n 0, 1, pI 0), (.getfield 9, 3, pR 19 0)] 25 _ (by decide +kernel) ?_
    refine (And.intro rfl (And.intro rfl ?_))
    show zG w f 6 30 ([some (pR 19 0), some (pR 8 a1), some (pI a2), none, none, none], [pI (m4.1 19 0 0), pR 8 a1], (m4, n))
    obtain ⟨r6, q5, h⟩ := zr_k h
    refine zcallVI (pc := 30) (As := [pI (m4.1 19 0 0)]) (st := []) (c := 8) (j := a1) hF (m_X4_number ha1 q5) w_X4_number k_3_24 (by decide +kernel) rfl ha1 rfl rfl rfl rfl rfl ?_
    obtain ⟨r8, q7, h⟩ := zr_k h
    refine zcallSI (pc := 33) (As := [pI r6]) (st := []) hF (m_X3_digit  q7) w_X3_digit k_3_89 (by decide +kernel) rfl rfl rfl rfl ?_
    refine zrun hF [(.istore_n 3, 1, pI 0), (.iload_n 3, 1, pI 0), (.iconst (-1), 1, pI (-1))] 36 _ (by decide +kernel) ?_
    refine (And.intro rfl ?_)
    show zG w f 6 39 ([some (pR 19 0), some (pR 8 a1), some (pI a2), some (pI r8), none, none], [pI (-1), pI r8], (m4, n))
    refine zicmp_ne (tgt := 44) (pc := 39) hF (by decide +kernel) (fun b9 => ?_) (fun b9 => ?_)
    · replace h := zit b9 h
      refine zrun hF [(.iconst (-1), 1, pI (-1))] 42 _ (by decide +kernel) ?_
      show zG w f 6 43 ([some (pR 19 0), some (pR 8 a1), some (pI a2), some (pI r8), none, none], [pI (-1)], (m4, n))
      exact zretI (pc := 43) hF hR (by decide +kernel) rfl (congrArg Prod.fst (Option.some.inj h)) (congrArg (fun (q : Int32 × zMem) => (q.2, n)) (Option.some.inj h))
    · replace h := zif b9 h
      refine zrun hF [(.aload_n 1, 1, pI 0), (.aload_n 0, 1, pI 0), (.getfield 9, 3, pR 19 0), (.iconst 1, 1, pI 1), (.iadd, 1, pI 0)] 44 _ (by decide +kernel) ?_
      refine (And.intro rfl (And.intro rfl ?_))
      show zG w f 6 51 ([some (pR 19 0), some (pR 8 a1), some (pI a2), some (pI r8), none, none], [pI ((m4.1 19 0 0) + 1), pR 8 a1], (m4, n))
      obtain ⟨r11, q10, h⟩ := zr_k h
      refine zcallVI (pc := 51) (As := [pI ((m4.1 19 0 0) + 1)]) (st := []) (c := 8) (j := a1) hF (m_X4_number ha1 q10) w_X4_number k_3_24 (by decide +kernel) rfl ha1 rfl rfl rfl rfl rfl ?_
      obtain ⟨r13, q12, h⟩ := zr_k h
      refine zcallSI (pc := 54) (As := [pI r11]) (st := []) hF (m_X3_digit  q12) w_X3_digit k_3_89 (by decide +kernel) rfl rfl rfl rfl ?_
      refine zrun hF [(.istore 4, 2, pI 0), (.iload 4, 2, pI 0), (.iconst (-1), 1, pI (-1))] 57 _ (by decide +kernel) ?_
      refine (And.intro rfl ?_)
      show zG w f 6 62 ([some (pR 19 0), some (pR 8 a1), some (pI a2), some (pI r8), some (pI r13), none], [pI (-1), pI r13], (m4, n))
      refine zicmp_ne (tgt := 69) (pc := 62) hF (by decide +kernel) (fun b14 => ?_) (fun b14 => ?_)
      · replace h := zit b14 h
        refine zrun hF [(.iload_n 3, 1, pI 0)] 65 _ (by decide +kernel) ?_
        show zG w f 6 66 ([some (pR 19 0), some (pR 8 a1), some (pI a2), some (pI r8), some (pI r13), none], [pI r8], (m4, n))
        refine zgoto (tgt := 76) (pc := 66) hF (by decide +kernel) ?_
        refine zcut [true, false, true, false, true, true] ?_
        exact m_X3_readNumber_L76 hl hF hR  _ _ _ _  h
      · replace h := zif b14 h
        refine zrun hF [(.bipush 10, 2, pI 10), (.iload_n 3, 1, pI 0), (.imul, 1, pI 0), (.iload 4, 2, pI 0), (.iadd, 1, pI 0)] 69 _ (by decide +kernel) ?_
        show zG w f 6 76 ([some (pR 19 0), some (pR 8 a1), some (pI a2), some (pI r8), some (pI r13), none], [pI ((10 * r8) + r13)], (m4, n))
        refine zcut [true, false, true, false, true, true] ?_
        exact m_X3_readNumber_L76 hl hF hR  _ _ _ _  h
  · replace h := zif b3 h
    refine zrun hF [(.iconst (-1), 1, pI (-1))] 13 _ (by decide +kernel) ?_
    show zG w f 6 14 ([some (pR 19 0), some (pR 8 a1), some (pI a2), none, none, none], [pI (-1)], (m, n))
    exact zretI (pc := 14) hF hR (by decide +kernel) rfl (congrArg Prod.fst (Option.some.inj h)) (congrArg (fun (q : Int32 × zMem) => (q.2, n)) (Option.some.inj h))

