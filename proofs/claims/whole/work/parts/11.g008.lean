set_option maxHeartbeats 4000000 in
set_option maxRecDepth 100000 in
theorem m_X3_readMove_L28 {w : zWd} {f : zFr} {n : zMem} {x : Int32} {m0 : zMem} {lc : Launch} (hl : f.2.1 = lc) (hF : zFOK w f 3 cX3_readMove 5 4) (hR : zFin w f (some .boolean) (zQI w x (m0, n))) : ∀ (x2 : Nat) (x3 : Int32) (y0 : Int32) (m : zMem), Nat.blt x2 3 = true → s_X3_readMove_L28 x2 x3 y0 m = some (x, m0) → zG w f 5 28 ([none, none, some (pR 1 x2), some (pI x3), none], [pI y0], (m, n)) := by
  intro x2 x3 y0 m hx2 h
  unfold s_X3_readMove_L28 at h
  refine zrun hF [(.istore 4, 2, pI 0), (.iload 4, 2, pI 0), (.iconst (-1), 1, pI (-1))] 28 _ (by decide +kernel) ?_
  refine (And.intro rfl ?_)
  show zG w f 5 33 ([none, none, some (pR 1 x2), some (pI x3), some (pI y0)], [pI (-1), pI y0], (m, n))
  refine zicmp_ne (tgt := 38) (pc := 33) hF (by decide +kernel) (fun b12 => ?_) (fun b12 => ?_)
  · replace h := zit b12 h
    refine zrun hF [(.iconst 0, 1, pI 0)] 36 _ (by decide +kernel) ?_
    show zG w f 5 37 ([none, none, some (pR 1 x2), some (pI x3), some (pI y0)], [pI 0], (m, n))
    exact zretI (pc := 37) hF hR (by decide +kernel) (by decide +kernel) (congrArg Prod.fst (Option.some.inj h)) (congrArg (fun (q : Int32 × zMem) => (q.2, n)) (Option.some.inj h))
  · replace h := zif b12 h
    obtain ⟨c13, h⟩ := zchk h
    refine zrun hF [(.aload_n 2, 1, pI 0), (.getfield 119, 3, pR 1 1), (.iload_n 3, 1, pI 0), (.iload 4, 2, pI 0), (.iastore, 1, pI 0)] 38 _ (by decide +kernel) ?_
    refine (And.intro rfl (And.intro hx2 (And.intro rfl (And.intro hx2 (And.intro c13 ?_)))))
    refine zlet_k (P := fun (m14 : zMem) => zG w f 5 46 ([none, none, some (pR 1 x2), some (pI x3), some (pI y0)], [], (m14, n))) h (fun m14 h => ?_)
    refine zrun hF [(.iconst 1, 1, pI 1)] 46 _ (by decide +kernel) ?_
    show zG w f 5 47 ([none, none, some (pR 1 x2), some (pI x3), some (pI y0)], [pI 1], (m14, n))
    exact zretI (pc := 47) hF hR (by decide +kernel) (by decide +kernel) (congrArg Prod.fst (Option.some.inj h)) (congrArg (fun (q : Int32 × zMem) => (q.2, n)) (Option.some.inj h))

set_option maxHeartbeats 4000000 in
set_option maxRecDepth 100000 in
theorem m_X3_readMove {w : zWd} {lc : Launch} {n : zMem} {a1 : Nat} {a2 : Nat} {m : zMem} {x : Int32} {m0 : zMem} (ha1 : Nat.blt a1 8 = true) (ha2 : Nat.blt a2 3 = true) (h : s_X3_readMove a1 a2 m = some (x, m0)) : zMet w lc 4 yX3_readMove cX3_readMove 5 (some .boolean) [pR 19 0, pR 8 a1, pR 1 a2] (m, n) (zQI w x (m0, n)) := by
  refine zmet (o := 3) (by decide +kernel) rfl (Nat.le_of_ble_eq_true rfl) rfl (fun f hl hF hR => ?_)
  unfold s_X3_readMove at h
  show zG w f 5 0 ([some (pR 19 0), some (pR 8 a1), some (pR 1 a2), none, none], [], (m, n))
  refine zrun hF [(.aload_n 0, 1, pI 0), (.aload_n 1, 1, pI 0), (.aload_n 2, 1, pI 0)] 0 _ (by decide +kernel) ?_
  show zG w f 5 3 ([some (pR 19 0), some (pR 8 a1), some (pR 1 a2), none, none], [pR 1 a2, pR 8 a1, pR 19 0], (m, n))
  obtain ⟨r2, q1, h⟩ := zr_k h
  refine zcallVI (pc := 3) (As := []) (st := [pR 8 a1, pR 19 0]) (c := 1) (j := a2) hF (m_X5_guestBits ha2 q1) w_X5_guestBits k_3_106 (by decide +kernel) rfl ha2 rfl rfl rfl rfl rfl ?_
  obtain ⟨r4, m5, q3, h⟩ := zb_k h
  refine zcallVI (pc := 6) (As := [pR 8 a1, pI r2]) (st := []) (c := 19) (j := 0) hF (m_X3_readNumber ha1 q3) w_X3_readNumber k_3_92 (by decide +kernel) rfl rfl rfl rfl rfl rfl rfl ?_
  refine zrun hF [(.istore_n 3, 1, pI 0), (.iload_n 3, 1, pI 0), (.iconst (-1), 1, pI (-1))] 9 _ (by decide +kernel) ?_
  refine (And.intro rfl ?_)
  show zG w f 5 12 ([some (pR 19 0), some (pR 8 a1), some (pR 1 a2), some (pI r4), none], [pI (-1), pI r4], (m5, n))
  refine zicmp_ne (tgt := 19) (pc := 12) hF (by decide +kernel) (fun b6 => ?_) (fun b6 => ?_)
  · replace h := zit b6 h
    refine zrun hF [(.iconst (-1), 1, pI (-1))] 15 _ (by decide +kernel) ?_
    show zG w f 5 16 ([some (pR 19 0), some (pR 8 a1), some (pR 1 a2), some (pI r4), none], [pI (-1)], (m5, n))
    refine zgoto (tgt := 28) (pc := 16) hF (by decide +kernel) ?_
    refine zcut [false, false, true, true, true] ?_
    exact m_X3_readMove_L28 hl hF hR  _ _ _ _ ha2 h
  · replace h := zif b6 h
    refine zrun hF [(.aload_n 0, 1, pI 0), (.aload_n 1, 1, pI 0), (.aload_n 2, 1, pI 0)] 19 _ (by decide +kernel) ?_
    show zG w f 5 22 ([some (pR 19 0), some (pR 8 a1), some (pR 1 a2), some (pI r4), none], [pR 1 a2, pR 8 a1, pR 19 0], (m5, n))
    obtain ⟨r8, q7, h⟩ := zr_k h
    refine zcallVI (pc := 22) (As := []) (st := [pR 8 a1, pR 19 0]) (c := 1) (j := a2) hF (m_X5_freeSeatBits ha2 q7) w_X5_freeSeatBits k_3_99 (by decide +kernel) rfl ha2 rfl rfl rfl rfl rfl ?_
    obtain ⟨r10, m11, q9, h⟩ := zb_k h
    refine zcallVI (pc := 25) (As := [pR 8 a1, pI r8]) (st := []) (c := 19) (j := 0) hF (m_X3_readNumber ha1 q9) w_X3_readNumber k_3_92 (by decide +kernel) rfl rfl rfl rfl rfl rfl rfl ?_
    refine zcut [false, false, true, true, true] ?_
    exact m_X3_readMove_L28 hl hF hR  _ _ _ _ ha2 h

set_option maxHeartbeats 4000000 in
set_option maxRecDepth 100000 in
theorem m_X3_readEyes {w : zWd} {lc : Launch} {n : zMem} {a1 : Nat} {a2 : Nat} {m : zMem} {x : Int32} {m0 : zMem} (ha1 : Nat.blt a1 8 = true) (ha2 : Nat.blt a2 3 = true) (h : s_X3_readEyes a1 a2 m = some (x, m0)) : zMet w lc 4 yX3_readEyes cX3_readEyes 4 (some .boolean) [pR 19 0, pR 8 a1, pR 1 a2] (m, n) (zQI w x (m0, n)) := by
  refine zmet (o := 3) (by decide +kernel) rfl (Nat.le_of_ble_eq_true rfl) rfl (fun f hl hF hR => ?_)
  unfold s_X3_readEyes at h
  show zG w f 4 0 ([some (pR 19 0), some (pR 8 a1), some (pR 1 a2), none], [], (m, n))
  refine zrun hF [(.aload_n 0, 1, pI 0), (.aload_n 1, 1, pI 0), (.iconst 3, 1, pI 3)] 0 _ (by decide +kernel) ?_
  show zG w f 4 3 ([some (pR 19 0), some (pR 8 a1), some (pR 1 a2), none], [pI 3, pR 8 a1, pR 19 0], (m, n))
  obtain ⟨r2, m3, q1, h⟩ := zb_k h
  refine zcallVI (pc := 3) (As := [pR 8 a1, pI 3]) (st := []) (c := 19) (j := 0) hF (m_X3_readNumber ha1 q1) w_X3_readNumber k_3_92 (by decide +kernel) rfl rfl rfl rfl rfl rfl rfl ?_
  refine zrun hF [(.istore_n 3, 1, pI 0), (.iload_n 3, 1, pI 0), (.iconst (-1), 1, pI (-1))] 6 _ (by decide +kernel) ?_
  refine (And.intro rfl ?_)
  show zG w f 4 9 ([some (pR 19 0), some (pR 8 a1), some (pR 1 a2), some (pI r2)], [pI (-1), pI r2], (m3, n))
  refine zicmp_ne (tgt := 14) (pc := 9) hF (by decide +kernel) (fun b4 => ?_) (fun b4 => ?_)
  · replace h := zit b4 h
    refine zrun hF [(.iconst 0, 1, pI 0)] 12 _ (by decide +kernel) ?_
    show zG w f 4 13 ([some (pR 19 0), some (pR 8 a1), some (pR 1 a2), some (pI r2)], [pI 0], (m3, n))
    exact zretI (pc := 13) hF hR (by decide +kernel) (by decide +kernel) (congrArg Prod.fst (Option.some.inj h)) (congrArg (fun (q : Int32 × zMem) => (q.2, n)) (Option.some.inj h))
  · replace h := zif b4 h
    refine zrun hF [(.aload_n 2, 1, pI 0), (.iload_n 3, 1, pI 0), (.putfield 116, 3, pR 1 7)] 14 _ (by decide +kernel) ?_
    refine (And.intro rfl (And.intro ha2 (And.intro trivial ?_)))
    refine zlet_k (P := fun (m5 : zMem) => zG w f 4 19 ([some (pR 19 0), some (pR 8 a1), some (pR 1 a2), some (pI r2)], [], (m5, n))) h (fun m5 h => ?_)
    refine zrun hF [(.iconst 1, 1, pI 1)] 19 _ (by decide +kernel) ?_
    show zG w f 4 20 ([some (pR 19 0), some (pR 8 a1), some (pR 1 a2), some (pI r2)], [pI 1], (m5, n))
    exact zretI (pc := 20) hF hR (by decide +kernel) (by decide +kernel) (congrArg Prod.fst (Option.some.inj h)) (congrArg (fun (q : Int32 × zMem) => (q.2, n)) (Option.some.inj h))

set_option maxHeartbeats 4000000 in
set_option maxRecDepth 100000 in
theorem m_X5_othersOf {w : zWd} {lc : Launch} {n : zMem} {t : Nat} {a1 : Int32} {m : zMem} {x : Int32} (ht : Nat.blt t 3 = true) (h : s_X5_othersOf t a1 m = some x) : zMet w lc 3 yX5_othersOf cX5_othersOf 2 (some .int) [pR 1 t, pI a1] (m, n) (zQI w x (m, n)) := by
  refine zmet (o := 5) (by decide +kernel) rfl (Nat.le_of_ble_eq_true rfl) rfl (fun f hl hF hR => ?_)
  unfold s_X5_othersOf at h
  show zG w f 2 0 ([some (pR 1 t), some (pI a1)], [], (m, n))
  refine zrun hF [(.aload_n 0, 1, pI 0)] 0 _ (by decide +kernel) ?_
  show zG w f 2 1 ([some (pR 1 t), some (pI a1)], [pR 1 t], (m, n))
  obtain ⟨r2, q1, h⟩ := zr_k h
  refine zcallVI (pc := 1) (As := []) (st := []) (c := 1) (j := t) hF (m_X5_guestBits ht q1) w_X5_guestBits k_5_59 (by decide +kernel) rfl ht rfl rfl rfl rfl rfl ?_
  refine zrun hF [(.iload_n 1, 1, pI 0)] 4 _ (by decide +kernel) ?_
  show zG w f 2 5 ([some (pR 1 t), some (pI a1)], [pI a1, pI r2], (m, n))
  obtain ⟨r4, q3, h⟩ := zr_k h
  refine zcallNI (pc := 5) (As := [pI a1]) (st := [pI r2]) hF (m_X6_bit  q3) w_X6_bit k_5_55 (by decide +kernel) rfl rfl rfl rfl ?_
  refine zrun hF [(.iconst (-1), 1, pI (-1)), (.ixor, 1, pI 0), (.iand, 1, pI 0)] 8 _ (by decide +kernel) ?_
  show zG w f 2 11 ([some (pR 1 t), some (pI a1)], [pI (r2 &&& (r4 ^^^ (-1)))], (m, n))
  exact zretI (pc := 11) hF hR (by decide +kernel) rfl (Option.some.inj h) rfl

set_option maxHeartbeats 4000000 in
set_option maxRecDepth 100000 in
theorem m_X3_readPair_6_L32 {w : zWd} {f : zFr} {n : zMem} {x : Int32} {m0 : zMem} {lc : Launch} (hl : f.2.1 = lc) (hF : zFOK w f 3 cX3_readPair 6 4) (hR : zFin w f (some .boolean) (zQI w x (m0, n))) : ∀ (x2 : Nat) (x3 : Nat) (x4 : Int32) (y0 : Int32) (m : zMem), Nat.blt x2 3 = true → Nat.blt x3 3 = true → s_X3_readPair_6_L32 x2 x3 x4 y0 m = some (x, m0) → zG w f 6 32 ([none, none, some (pR 1 x2), some (pR 6 x3), some (pI x4), none], [pI y0], (m, n)) := by
  intro x2 x3 x4 y0 m hx2 hx3 h
  unfold s_X3_readPair_6_L32 at h
  refine zrun hF [(.istore 5, 2, pI 0), (.iload 5, 2, pI 0), (.iconst (-1), 1, pI (-1))] 32 _ (by decide +kernel) ?_
  refine (And.intro rfl ?_)
  show zG w f 6 37 ([none, none, some (pR 1 x2), some (pR 6 x3), some (pI x4), some (pI y0)], [pI (-1), pI y0], (m, n))
  refine zicmp_ne (tgt := 42) (pc := 37) hF (by decide +kernel) (fun b12 => ?_) (fun b12 => ?_)
  · replace h := zit b12 h
    refine zrun hF [(.iconst 0, 1, pI 0)] 40 _ (by decide +kernel) ?_
    show zG w f 6 41 ([none, none, some (pR 1 x2), some (pR 6 x3), some (pI x4), some (pI y0)], [pI 0], (m, n))
    exact zretI (pc := 41) hF hR (by decide +kernel) (by decide +kernel) (congrArg Prod.fst (Option.some.inj h)) (congrArg (fun (q : Int32 × zMem) => (q.2, n)) (Option.some.inj h))
  · replace h := zif b12 h
    refine zrun hF [(.aload_n 2, 1, pI 0), (.aload_n 3, 1, pI 0), (.iload 4, 2, pI 0), (.iload 5, 2, pI 0), (.iconst 1, 1, pI 1)] 42 _ (by decide +kernel) ?_
    show zG w f 6 49 ([none, none, some (pR 1 x2), some (pR 6 x3), some (pI x4), some (pI y0)], [pI 1, pI y0, pI x4, pR 6 x3, pR 1 x2], (m, n))
    obtain ⟨r14, m15, q13, h⟩ := zb_k h
    refine zcallVI (pc := 49) (As := [pR 6 x3, pI x4, pI y0, pI 1]) (st := []) (c := 1) (j := x2) hF (m_X5_mark_6 hx2 hx3 q13) w_X5_mark k_3_112 (by decide +kernel) rfl hx2 rfl rfl rfl rfl rfl ?_
    refine zrun hF [(.pop, 1, pI 0), (.iconst 1, 1, pI 1)] 52 _ (by decide +kernel) ?_
    refine (And.intro rfl ?_)
    show zG w f 6 54 ([none, none, some (pR 1 x2), some (pR 6 x3), some (pI x4), some (pI y0)], [pI 1], (m15, n))
    exact zretI (pc := 54) hF hR (by decide +kernel) (by decide +kernel) (congrArg Prod.fst (Option.some.inj h)) (congrArg (fun (q : Int32 × zMem) => (q.2, n)) (Option.some.inj h))

set_option maxHeartbeats 4000000 in
set_option maxRecDepth 100000 in
theorem m_X3_readPair_6 {w : zWd} {lc : Launch} {n : zMem} {a1 : Nat} {a2 : Nat} {a3 : Nat} {m : zMem} {x : Int32} {m0 : zMem} (ha1 : Nat.blt a1 8 = true) (ha2 : Nat.blt a2 3 = true) (ha3 : Nat.blt a3 3 = true) (h : s_X3_readPair_6 a1 a2 a3 m = some (x, m0)) : zMet w lc 4 yX3_readPair cX3_readPair 6 (some .boolean) [pR 19 0, pR 8 a1, pR 1 a2, pR 6 a3] (m, n) (zQI w x (m0, n)) := by
  refine zmet (o := 3) (by decide +kernel) rfl (Nat.le_of_ble_eq_true rfl) rfl (fun f hl hF hR => ?_)
  unfold s_X3_readPair_6 at h
  show zG w f 6 0 ([some (pR 19 0), some (pR 8 a1), some (pR 1 a2), some (pR 6 a3), none, none], [], (m, n))
  refine zrun hF [(.aload_n 0, 1, pI 0), (.aload_n 1, 1, pI 0), (.aload_n 2, 1, pI 0)] 0 _ (by decide +kernel) ?_
  show zG w f 6 3 ([some (pR 19 0), some (pR 8 a1), some (pR 1 a2), some (pR 6 a3), none, none], [pR 1 a2, pR 8 a1, pR 19 0], (m, n))
  obtain ⟨r2, q1, h⟩ := zr_k h
  refine zcallVI (pc := 3) (As := []) (st := [pR 8 a1, pR 19 0]) (c := 1) (j := a2) hF (m_X5_guestBits ha2 q1) w_X5_guestBits k_3_106 (by decide +kernel) rfl ha2 rfl rfl rfl rfl rfl ?_
  obtain ⟨r4, m5, q3, h⟩ := zb_k h
  refine zcallVI (pc := 6) (As := [pR 8 a1, pI r2]) (st := []) (c := 19) (j := 0) hF (m_X3_readNumber ha1 q3) w_X3_readNumber k_3_92 (by decide +kernel) rfl rfl rfl rfl rfl rfl rfl ?_
  refine zrun hF [(.istore 4, 2, pI 0), (.iload 4, 2, pI 0), (.iconst (-1), 1, pI (-1))] 9 _ (by decide +kernel) ?_
  refine (And.intro rfl ?_)
  show zG w f 6 14 ([some (pR 19 0), some (pR 8 a1), some (pR 1 a2), some (pR 6 a3), some (pI r4), none], [pI (-1), pI r4], (m5, n))
  refine zicmp_ne (tgt := 21) (pc := 14) hF (by decide +kernel) (fun b6 => ?_) (fun b6 => ?_)
  · replace h := zit b6 h
    refine zrun hF [(.iconst (-1), 1, pI (-1))] 17 _ (by decide +kernel) ?_
    show zG w f 6 18 ([some (pR 19 0), some (pR 8 a1), some (pR 1 a2), some (pR 6 a3), some (pI r4), none], [pI (-1)], (m5, n))
    refine zgoto (tgt := 32) (pc := 18) hF (by decide +kernel) ?_
    refine zcut [false, false, true, true, true, true] ?_
    exact m_X3_readPair_6_L32 hl hF hR  _ _ _ _ _ ha2 ha3 h
  · replace h := zif b6 h
    refine zrun hF [(.aload_n 0, 1, pI 0), (.aload_n 1, 1, pI 0), (.aload_n 2, 1, pI 0), (.iload 4, 2, pI 0)] 21 _ (by decide +kernel) ?_
    show zG w f 6 26 ([some (pR 19 0), some (pR 8 a1), some (pR 1 a2), some (pR 6 a3), some (pI r4), none], [pI r4, pR 1 a2, pR 8 a1, pR 19 0], (m5, n))
    obtain ⟨r8, q7, h⟩ := zr_k h
    refine zcallVI (pc := 26) (As := [pI r4]) (st := [pR 8 a1, pR 19 0]) (c := 1) (j := a2) hF (m_X5_othersOf ha2 q7) w_X5_othersOf k_3_109 (by decide +kernel) rfl ha2 rfl rfl rfl rfl rfl ?_
    obtain ⟨r10, m11, q9, h⟩ := zb_k h
    refine zcallVI (pc := 29) (As := [pR 8 a1, pI r8]) (st := []) (c := 19) (j := 0) hF (m_X3_readNumber ha1 q9) w_X3_readNumber k_3_92 (by decide +kernel) rfl rfl rfl rfl rfl rfl rfl ?_
    refine zcut [false, false, true, true, true, true] ?_
    exact m_X3_readPair_6_L32 hl hF hR  _ _ _ _ _ ha2 ha3 h

set_option maxHeartbeats 4000000 in
set_option maxRecDepth 100000 in
theorem m_X3_readPair_5_L32 {w : zWd} {f : zFr} {n : zMem} {x : Int32} {m0 : zMem} {lc : Launch} (hl : f.2.1 = lc) (hF : zFOK w f 3 cX3_readPair 6 4) (hR : zFin w f (some .boolean) (zQI w x (m0, n))) : ∀ (x2 : Nat) (x3 : Nat) (x4 : Int32) (y0 : Int32) (m : zMem), Nat.blt x2 3 = true → Nat.blt x3 3 = true → s_X3_readPair_5_L32 x2 x3 x4 y0 m = some (x, m0) → zG w f 6 32 ([none, none, some (pR 1 x2), some (pR 5 x3), some (pI x4), none], [pI y0], (m, n)) := by
  intro x2 x3 x4 y0 m hx2 hx3 h
  unfold s_X3_readPair_5_L32 at h
  refine zrun hF [(.istore 5, 2, pI 0), (.iload 5, 2, pI 0), (.iconst (-1), 1, pI (-1))] 32 _ (by decide +kernel) ?_
  refine (And.intro rfl ?_)
  show zG w f 6 37 ([none, none, some (pR 1 x2), some (pR 5 x3), some (pI x4), some (pI y0)], [pI (-1), pI y0], (m, n))
  refine zicmp_ne (tgt := 42) (pc := 37) hF (by decide +kernel) (fun b12 => ?_) (fun b12 => ?_)
  · replace h := zit b12 h
    refine zrun hF [(.iconst 0, 1, pI 0)] 40 _ (by decide +kernel) ?_
    show zG w f 6 41 ([none, none, some (pR 1 x2), some (pR 5 x3), some (pI x4), some (pI y0)], [pI 0], (m, n))
    exact zretI (pc := 41) hF hR (by decide +kernel) (by decide +kernel) (congrArg Prod.fst (Option.some.inj h)) (congrArg (fun (q : Int32 × zMem) => (q.2, n)) (Option.some.inj h))
  · replace h := zif b12 h
    refine zrun hF [(.aload_n 2, 1, pI 0), (.aload_n 3, 1, pI 0), (.iload 4, 2, pI 0), (.iload 5, 2, pI 0), (.iconst 1, 1, pI 1)] 42 _ (by decide +kernel) ?_
    show zG w f 6 49 ([none, none, some (pR 1 x2), some (pR 5 x3), some (pI x4), some (pI y0)], [pI 1, pI y0, pI x4, pR 5 x3, pR 1 x2], (m, n))
    obtain ⟨r14, m15, q13, h⟩ := zb_k h
    refine zcallVI (pc := 49) (As := [pR 5 x3, pI x4, pI y0, pI 1]) (st := []) (c := 1) (j := x2) hF (m_X5_mark_5 hx2 hx3 q13) w_X5_mark k_3_112 (by decide +kernel) rfl hx2 rfl rfl rfl rfl rfl ?_
    refine zrun hF [(.pop, 1, pI 0), (.iconst 1, 1, pI 1)] 52 _ (by decide +kernel) ?_
    refine (And.intro rfl ?_)
    show zG w f 6 54 ([none, none, some (pR 1 x2), some (pR 5 x3), some (pI x4), some (pI y0)], [pI 1], (m15, n))
    exact zretI (pc := 54) hF hR (by decide +kernel) (by decide +kernel) (congrArg Prod.fst (Option.some.inj h)) (congrArg (fun (q : Int32 × zMem) => (q.2, n)) (Option.some.inj h))

set_option maxHeartbeats 4000000 in
set_option maxRecDepth 100000 in
theorem m_X3_readPair_5 {w : zWd} {lc : Launch} {n : zMem} {a1 : Nat} {a2 : Nat} {a3 : Nat} {m : zMem} {x : Int32} {m0 : zMem} (ha1 : Nat.blt a1 8 = true) (ha2 : Nat.blt a2 3 = true) (ha3 : Nat.blt a3 3 = true) (h : s_X3_readPair_5 a1 a2 a3 m = some (x, m0)) : zMet w lc 4 yX3_readPair cX3_readPair 6 (some .boolean) [pR 19 0, pR 8 a1, pR 1 a2, pR 5 a3] (m, n) (zQI w x (m0, n)) := by
  refine zmet (o := 3) (by decide +kernel) rfl (Nat.le_of_ble_eq_true rfl) rfl (fun f hl hF hR => ?_)
  unfold s_X3_readPair_5 at h
  show zG w f 6 0 ([some (pR 19 0), some (pR 8 a1), some (pR 1 a2), some (pR 5 a3), none, none], [], (m, n))
  refine zrun hF [(.aload_n 0, 1, pI 0), (.aload_n 1, 1, pI 0), (.aload_n 2, 1, pI 0)] 0 _ (by decide +kernel) ?_
  show zG w f 6 3 ([some (pR 19 0), some (pR 8 a1), some (pR 1 a2), some (pR 5 a3), none, none], [pR 1 a2, pR 8 a1, pR 19 0], (m, n))
  obtain ⟨r2, q1, h⟩ := zr_k h
  refine zcallVI (pc := 3) (As := []) (st := [pR 8 a1, pR 19 0]) (c := 1) (j := a2) hF (m_X5_guestBits ha2 q1) w_X5_guestBits k_3_106 (by decide +kernel) rfl ha2 rfl rfl rfl rfl rfl ?_
  obtain ⟨r4, m5, q3, h⟩ := zb_k h
  refine zcallVI (pc := 6) (As := [pR 8 a1, pI r2]) (st := []) (c := 19) (j := 0) hF (m_X3_readNumber ha1 q3) w_X3_readNumber k_3_92 (by decide +kernel) rfl rfl rfl rfl rfl rfl rfl ?_
  refine zrun hF [(.istore 4, 2, pI 0), (.iload 4, 2, pI 0), (.iconst (-1), 1, pI (-1))] 9 _ (by decide +kernel) ?_
  refine (And.intro rfl ?_)
  show zG w f 6 14 ([some (pR 19 0), some (pR 8 a1), some (pR 1 a2), some (pR 5 a3), some (pI r4), none], [pI (-1), pI r4], (m5, n))
  refine zicmp_ne (tgt := 21) (pc := 14) hF (by decide +kernel) (fun b6 => ?_) (fun b6 => ?_)
  · replace h := zit b6 h
    refine zrun hF [(.iconst (-1), 1, pI (-1))] 17 _ (by decide +kernel) ?_
    show zG w f 6 18 ([some (pR 19 0), some (pR 8 a1), some (pR 1 a2), some (pR 5 a3), some (pI r4), none], [pI (-1)], (m5, n))
    refine zgoto (tgt := 32) (pc := 18) hF (by decide +kernel) ?_
    refine zcut [false, false, true, true, true, true] ?_
    exact m_X3_readPair_5_L32 hl hF hR  _ _ _ _ _ ha2 ha3 h
  · replace h := zif b6 h
    refine zrun hF [(.aload_n 0, 1, pI 0), (.aload_n 1, 1, pI 0), (.aload_n 2, 1, pI 0), (.iload 4, 2, pI 0)] 21 _ (by decide +kernel) ?_
    show zG w f 6 26 ([some (pR 19 0), some (pR 8 a1), some (pR 1 a2), some (pR 5 a3), some (pI r4), none], [pI r4, pR 1 a2, pR 8 a1, pR 19 0], (m5, n))
    obtain ⟨r8, q7, h⟩ := zr_k h
    refine zcallVI (pc := 26) (As := [pI r4]) (st := [pR 8 a1, pR 19 0]) (c := 1) (j := a2) hF (m_X5_othersOf ha2 q7) w_X5_othersOf k_3_109 (by decide +kernel) rfl ha2 rfl rfl rfl rfl rfl ?_
    obtain ⟨r10, m11, q9, h⟩ := zb_k h
    refine zcallVI (pc := 29) (As := [pR 8 a1, pI r8]) (st := []) (c := 19) (j := 0) hF (m_X3_readNumber ha1 q9) w_X3_readNumber k_3_92 (by decide +kernel) rfl rfl rfl rfl rfl rfl rfl ?_
    refine zcut [false, false, true, true, true, true] ?_
    exact m_X3_readPair_5_L32 hl hF hR  _ _ _ _ _ ha2 ha3 h

set_option maxHeartbeats 4000000 in
set_option maxRecDepth 100000 in
theorem m_X3_readWordIf {w : zWd} {lc : Launch} {n : zMem} {a1 : Int32} {a2 : Nat} {a3 : Nat} {m : zMem} {x : Int32} {m0 : zMem} (ha2 : Nat.blt a2 8 = true) (ha3 : Nat.blt a3 6 = true) (h : s_X3_readWordIf a1 a2 a3 m = some (x, m0)) : zMet w lc 7 yX3_readWordIf cX3_readWordIf 5 (some .boolean) [pR 19 0, pI a1, pR 8 a2, pR 61 a3] (m, n) (zQI w x (m0, n)) := by
  refine zmet (o := 3) (by decide +kernel) rfl (Nat.le_of_ble_eq_true rfl) rfl (fun f hl hF hR => ?_)
  unfold s_X3_readWordIf at h
  show zG w f 5 0 ([some (pR 19 0), some (pI a1), some (pR 8 a2), some (pR 61 a3), none], [], (m, n))
  refine zrun hF [(.aload_n 0, 1, pI 0), (.getfield 9, 3, pR 19 0), (.istore 4, 2, pI 0), (.aload_n 0, 1, pI 0), (.aload_n 2, 1, pI 0), (.aload_n 3, 1, pI 0)] 0 _ (by decide +kernel) ?_
  refine (And.intro rfl (And.intro rfl (And.intro rfl ?_)))
  show zG w f 5 9 ([some (pR 19 0), some (pI a1), some (pR 8 a2), some (pR 61 a3), some (pI (m.1 19 0 0))], [pR 61 a3, pR 8 a2, pR 19 0], (m, n))
  obtain ⟨r2, m3, q1, h⟩ := zb_k h
  refine zcallVI (pc := 9) (As := [pR 8 a2, pR 61 a3]) (st := []) (c := 19) (j := 0) hF (m_X3_readWord ha2 ha3 q1) w_X3_readWord k_3_53 (by decide +kernel) rfl rfl rfl rfl rfl rfl rfl ?_
  refine zif_ne (tgt := 17) (pc := 12) hF (by decide +kernel) (fun b4 => ?_) (fun b4 => ?_)
  · replace h := zit b4 h
    refine zrun hF [(.iconst 0, 1, pI 0)] 15 _ (by decide +kernel) ?_
    show zG w f 5 16 ([some (pR 19 0), some (pI a1), some (pR 8 a2), some (pR 61 a3), some (pI (m.1 19 0 0))], [pI 0], (m3, n))
    exact zretI (pc := 16) hF hR (by decide +kernel) (by decide +kernel) (congrArg Prod.fst (Option.some.inj h)) (congrArg (fun (q : Int32 × zMem) => (q.2, n)) (Option.some.inj h))
  · replace h := zif b4 h
    refine zrun hF [(.iload_n 1, 1, pI 0)] 17 _ (by decide +kernel) ?_
    show zG w f 5 18 ([some (pR 19 0), some (pI a1), some (pR 8 a2), some (pR 61 a3), some (pI (m.1 19 0 0))], [pI a1], (m3, n))
    refine zif_ne (tgt := 27) (pc := 18) hF (by decide +kernel) (fun b5 => ?_) (fun b5 => ?_)
    · replace h := zit b5 h
      refine zrun hF [(.aload_n 0, 1, pI 0), (.iload 4, 2, pI 0), (.putfield 9, 3, pR 19 0)] 21 _ (by decide +kernel) ?_
      refine (And.intro rfl (And.intro rfl (And.intro trivial ?_)))
      refine zlet_k (P := fun (m6 : zMem) => zG w f 5 27 ([some (pR 19 0), some (pI a1), some (pR 8 a2), some (pR 61 a3), some (pI (m.1 19 0 0))], [], (m6, n))) h (fun m6 h => ?_)
      refine zrun hF [(.iload_n 1, 1, pI 0)] 27 _ (by decide +kernel) ?_
      show zG w f 5 28 ([some (pR 19 0), some (pI a1), some (pR 8 a2), some (pR 61 a3), some (pI (m.1 19 0 0))], [pI a1], (m6, n))
      obtain ⟨c7, h⟩ := zbo_k h
      exact zretI (pc := 28) hF hR (by decide +kernel) c7 (congrArg Prod.fst (Option.some.inj h)) (congrArg (fun (q : Int32 × zMem) => (q.2, n)) (Option.some.inj h))
    · replace h := zif b5 h
      refine zrun hF [(.iload_n 1, 1, pI 0)] 27 _ (by decide +kernel) ?_
      show zG w f 5 28 ([some (pR 19 0), some (pI a1), some (pR 8 a2), some (pR 61 a3), some (pI (m.1 19 0 0))], [pI a1], (m3, n))
      obtain ⟨c8, h⟩ := zbo_k h
      exact zretI (pc := 28) hF hR (by decide +kernel) c8 (congrArg Prod.fst (Option.some.inj h)) (congrArg (fun (q : Int32 × zMem) => (q.2, n)) (Option.some.inj h))

set_option maxHeartbeats 4000000 in
set_option maxRecDepth 100000 in
theorem m_X3_readGuest_L46 {w : zWd} {f : zFr} {n : zMem} {x : Int32} {m0 : zMem} {lc : Launch} (hl : f.2.1 = lc) (hF : zFOK w f 3 cX3_readGuest 6 4) (hR : zFin w f (some .boolean) (zQI w x (m0, n))) : ∀ (x2 : Nat) (x3 : Int32) (x4 : Int32) (y0 : Int32) (m : zMem), Nat.blt x2 3 = true → s_X3_readGuest_L46 x2 x3 x4 y0 m = some (x, m0) → zG w f 6 46 ([none, none, some (pR 1 x2), some (pI x3), some (pI x4), none], [pI y0], (m, n)) := by
  intro x2 x3 x4 y0 m hx2 h
  unfold s_X3_readGuest_L46 at h
  refine zrun hF [(.istore 5, 2, pI 0), (.iload 5, 2, pI 0), (.iconst (-1), 1, pI (-1))] 46 _ (by decide +kernel) ?_
  refine (And.intro rfl ?_)
  show zG w f 6 51 ([none, none, some (pR 1 x2), some (pI x3), some (pI x4), some (pI y0)], [pI (-1), pI y0], (m, n))
  refine zicmp_ne (tgt := 56) (pc := 51) hF (by decide +kernel) (fun b14 => ?_) (fun b14 => ?_)
  · replace h := zit b14 h
    refine zrun hF [(.iconst 0, 1, pI 0)] 54 _ (by decide +kernel) ?_
    show zG w f 6 55 ([none, none, some (pR 1 x2), some (pI x3), some (pI x4), some (pI y0)], [pI 0], (m, n))
    exact zretI (pc := 55) hF hR (by decide +kernel) (by decide +kernel) (congrArg Prod.fst (Option.some.inj h)) (congrArg (fun (q : Int32 × zMem) => (q.2, n)) (Option.some.inj h))
  · replace h := zif b14 h
    refine zrun hF [(.aload_n 2, 1, pI 0), (.iload_n 3, 1, pI 0), (.iload 4, 2, pI 0), (.iload 5, 2, pI 0)] 56 _ (by decide +kernel) ?_
    show zG w f 6 62 ([none, none, some (pR 1 x2), some (pI x3), some (pI x4), some (pI y0)], [pI y0, pI x4, pI x3, pR 1 x2], (m, n))
    obtain ⟨m17, q15, h⟩ := zr_k h
    refine zcallVV (pc := 62) (As := [pI x3, pI x4, pI y0]) (st := []) (c := 1) (j := x2) hF (m_X5_add hx2 q15) w_X5_add k_3_102 (by decide +kernel) rfl hx2 rfl rfl rfl rfl rfl ?_
    refine zrun hF [(.iconst 1, 1, pI 1)] 65 _ (by decide +kernel) ?_
    show zG w f 6 66 ([none, none, some (pR 1 x2), some (pI x3), some (pI x4), some (pI y0)], [pI 1], (m17, n))
    exact zretI (pc := 66) hF hR (by decide +kernel) (by decide +kernel) (congrArg Prod.fst (Option.some.inj h)) (congrArg (fun (q : Int32 × zMem) => (q.2, n)) (Option.some.inj h))

set_option maxHeartbeats 4000000 in
set_option maxRecDepth 100000 in
theorem m_X3_readGuest_L26 {w : zWd} {f : zFr} {n : zMem} {x : Int32} {m0 : zMem} {lc : Launch} (hl : f.2.1 = lc) (hF : zFOK w f 3 cX3_readGuest 6 4) (hR : zFin w f (some .boolean) (zQI w x (m0, n))) : ∀ (x1 : Nat) (x2 : Nat) (x3 : Int32) (y0 : Int32) (m : zMem), Nat.blt x1 8 = true → Nat.blt x2 3 = true → s_X3_readGuest_L26 x1 x2 x3 y0 m = some (x, m0) → zG w f 6 26 ([some (pR 19 0), some (pR 8 x1), some (pR 1 x2), some (pI x3), none, none], [pI y0], (m, n)) := by
  intro x1 x2 x3 y0 m hx1 hx2 h
  unfold s_X3_readGuest_L26 at h
  refine zrun hF [(.istore 4, 2, pI 0), (.iload 4, 2, pI 0), (.iconst (-1), 1, pI (-1))] 26 _ (by decide +kernel) ?_
  refine (And.intro rfl ?_)
  show zG w f 6 31 ([some (pR 19 0), some (pR 8 x1), some (pR 1 x2), some (pI x3), some (pI y0), none], [pI (-1), pI y0], (m, n))
  refine zicmp_ne (tgt := 38) (pc := 31) hF (by decide +kernel) (fun b10 => ?_) (fun b10 => ?_)
  · replace h := zit b10 h
    refine zrun hF [(.iconst (-1), 1, pI (-1))] 34 _ (by decide +kernel) ?_
    show zG w f 6 35 ([some (pR 19 0), some (pR 8 x1), some (pR 1 x2), some (pI x3), some (pI y0), none], [pI (-1)], (m, n))
    refine zgoto (tgt := 46) (pc := 35) hF (by decide +kernel) ?_
    refine zcut [false, false, true, true, true, true] ?_
    exact m_X3_readGuest_L46 hl hF hR  _ _ _ _ _ hx2 h
  · replace h := zif b10 h
    refine zrun hF [(.aload_n 0, 1, pI 0), (.aload_n 1, 1, pI 0), (.sipush 1023, 3, pI 1023)] 38 _ (by decide +kernel) ?_
    show zG w f 6 43 ([some (pR 19 0), some (pR 8 x1), some (pR 1 x2), some (pI x3), some (pI y0), none], [pI 1023, pR 8 x1, pR 19 0], (m, n))
    obtain ⟨r12, m13, q11, h⟩ := zb_k h
    refine zcallVI (pc := 43) (As := [pR 8 x1, pI 1023]) (st := []) (c := 19) (j := 0) hF (m_X3_readNumber hx1 q11) w_X3_readNumber k_3_92 (by decide +kernel) rfl rfl rfl rfl rfl rfl rfl ?_
    refine zcut [false, false, true, true, true, true] ?_
    exact m_X3_readGuest_L46 hl hF hR  _ _ _ _ _ hx2 h

set_option maxHeartbeats 4000000 in
set_option maxRecDepth 100000 in
theorem m_X3_readGuest {w : zWd} {lc : Launch} {n : zMem} {a1 : Nat} {a2 : Nat} {m : zMem} {x : Int32} {m0 : zMem} (ha1 : Nat.blt a1 8 = true) (ha2 : Nat.blt a2 3 = true) (h : s_X3_readGuest a1 a2 m = some (x, m0)) : zMet w lc 4 yX3_readGuest cX3_readGuest 6 (some .boolean) [pR 19 0, pR 8 a1, pR 1 a2] (m, n) (zQI w x (m0, n)) := by
  refine zmet (o := 3) (by decide +kernel) rfl (Nat.le_of_ble_eq_true rfl) rfl (fun f hl hF hR => ?_)
  unfold s_X3_readGuest at h
  show zG w f 6 0 ([some (pR 19 0), some (pR 8 a1), some (pR 1 a2), none, none, none], [], (m, n))
  refine zrun hF [(.aload_n 0, 1, pI 0), (.aload_n 1, 1, pI 0), (.bipush 127, 2, pI 127)] 0 _ (by decide +kernel) ?_
  show zG w f 6 4 ([some (pR 19 0), some (pR 8 a1), some (pR 1 a2), none, none, none], [pI 127, pR 8 a1, pR 19 0], (m, n))
  obtain ⟨r2, m3, q1, h⟩ := zb_k h
  refine zcallVI (pc := 4) (As := [pR 8 a1, pI 127]) (st := []) (c := 19) (j := 0) hF (m_X3_readNumber ha1 q1) w_X3_readNumber k_3_92 (by decide +kernel) rfl rfl rfl rfl rfl rfl rfl ?_
  refine zrun hF [(.istore_n 3, 1, pI 0), (.iload_n 3, 1, pI 0), (.iconst (-1), 1, pI (-1))] 7 _ (by decide +kernel) ?_
  refine (And.intro rfl ?_)
  show zG w f 6 10 ([some (pR 19 0), some (pR 8 a1), some (pR 1 a2), some (pI r2), none, none], [pI (-1), pI r2], (m3, n))
  refine zicmp_ne (tgt := 17) (pc := 10) hF (by decide +kernel) (fun b4 => ?_) (fun b4 => ?_)
  · replace h := zit b4 h
    refine zrun hF [(.iconst (-1), 1, pI (-1))] 13 _ (by decide +kernel) ?_
    show zG w f 6 14 ([some (pR 19 0), some (pR 8 a1), some (pR 1 a2), some (pI r2), none, none], [pI (-1)], (m3, n))
    refine zgoto (tgt := 26) (pc := 14) hF (by decide +kernel) ?_
    exact m_X3_readGuest_L26 hl hF hR  _ _ _ _ _ ha1 ha2 h
  · replace h := zif b4 h
    refine zrun hF [(.aload_n 0, 1, pI 0), (.aload_n 1, 1, pI 0), (.aload_n 2, 1, pI 0)] 17 _ (by decide +kernel) ?_
    show zG w f 6 20 ([some (pR 19 0), some (pR 8 a1), some (pR 1 a2), some (pI r2), none, none], [pR 1 a2, pR 8 a1, pR 19 0], (m3, n))
    obtain ⟨r6, q5, h⟩ := zr_k h
    refine zcallVI (pc := 20) (As := []) (st := [pR 8 a1, pR 19 0]) (c := 1) (j := a2) hF (m_X5_freeSeatBits ha2 q5) w_X5_freeSeatBits k_3_99 (by decide +kernel) rfl ha2 rfl rfl rfl rfl rfl ?_
    obtain ⟨r8, m9, q7, h⟩ := zb_k h
    refine zcallVI (pc := 23) (As := [pR 8 a1, pI r6]) (st := []) (c := 19) (j := 0) hF (m_X3_readNumber ha1 q7) w_X3_readNumber k_3_92 (by decide +kernel) rfl rfl rfl rfl rfl rfl rfl ?_
    exact m_X3_readGuest_L26 hl hF hR  _ _ _ _ _ ha1 ha2 h

set_option maxHeartbeats 4000000 in
set_option maxRecDepth 100000 in
theorem m_X3_readSeats {w : zWd} {lc : Launch} {n : zMem} {a1 : Nat} {a2 : Nat} {m : zMem} {x : Int32} {m0 : zMem} (ha1 : Nat.blt a1 8 = true) (ha2 : Nat.blt a2 3 = true) (h : s_X3_readSeats a1 a2 m = some (x, m0)) : zMet w lc 4 yX3_readSeats cX3_readSeats 4 (some .boolean) [pR 19 0, pR 8 a1, pR 1 a2] (m, n) (zQI w x (m0, n)) := by
  refine zmet (o := 3) (by decide +kernel) rfl (Nat.le_of_ble_eq_true rfl) rfl (fun f hl hF hR => ?_)
  unfold s_X3_readSeats at h
  show zG w f 4 0 ([some (pR 19 0), some (pR 8 a1), some (pR 1 a2), none], [], (m, n))
  refine zrun hF [(.aload_n 0, 1, pI 0), (.aload_n 1, 1, pI 0), (.sipush 8184, 3, pI 8184)] 0 _ (by decide +kernel) ?_
  show zG w f 4 5 ([some (pR 19 0), some (pR 8 a1), some (pR 1 a2), none], [pI 8184, pR 8 a1, pR 19 0], (m, n))
  obtain ⟨r2, m3, q1, h⟩ := zb_k h
  refine zcallVI (pc := 5) (As := [pR 8 a1, pI 8184]) (st := []) (c := 19) (j := 0) hF (m_X3_readNumber ha1 q1) w_X3_readNumber k_3_92 (by decide +kernel) rfl rfl rfl rfl rfl rfl rfl ?_
  refine zrun hF [(.istore_n 3, 1, pI 0), (.iload_n 3, 1, pI 0), (.iconst (-1), 1, pI (-1))] 8 _ (by decide +kernel) ?_
  refine (And.intro rfl ?_)
  show zG w f 4 11 ([some (pR 19 0), some (pR 8 a1), some (pR 1 a2), some (pI r2)], [pI (-1), pI r2], (m3, n))
  refine zicmp_ne (tgt := 16) (pc := 11) hF (by decide +kernel) (fun b4 => ?_) (fun b4 => ?_)
  · replace h := zit b4 h
    refine zrun hF [(.iconst 0, 1, pI 0)] 14 _ (by decide +kernel) ?_
    show zG w f 4 15 ([some (pR 19 0), some (pR 8 a1), some (pR 1 a2), some (pI r2)], [pI 0], (m3, n))
    exact zretI (pc := 15) hF hR (by decide +kernel) (by decide +kernel) (congrArg Prod.fst (Option.some.inj h)) (congrArg (fun (q : Int32 × zMem) => (q.2, n)) (Option.some.inj h))
  · replace h := zif b4 h
    refine zrun hF [(.aload_n 2, 1, pI 0), (.iload_n 3, 1, pI 0), (.putfield 96, 3, pR 1 5)] 16 _ (by decide +kernel) ?_
    refine (And.intro rfl (And.intro ha2 (And.intro trivial ?_)))
    refine zlet_k (P := fun (m5 : zMem) => zG w f 4 21 ([some (pR 19 0), some (pR 8 a1), some (pR 1 a2), some (pI r2)], [], (m5, n))) h (fun m5 h => ?_)
    refine zrun hF [(.iconst 1, 1, pI 1)] 21 _ (by decide +kernel) ?_
    show zG w f 4 22 ([some (pR 19 0), some (pR 8 a1), some (pR 1 a2), some (pI r2)], [pI 1], (m5, n))
    exact zretI (pc := 22) hF hR (by decide +kernel) (by decide +kernel) (congrArg Prod.fst (Option.some.inj h)) (congrArg (fun (q : Int32 × zMem) => (q.2, n)) (Option.some.inj h))

set_option maxHeartbeats 4000000 in
set_option maxRecDepth 100000 in
theorem m_X3_readItem_L109 {w : zWd} {f : zFr} {n : zMem} {x : Int32} {m0 : zMem} {lc : Launch} (hl : f.2.1 = lc) (hF : zFOK w f 3 cX3_readItem 3 8) (hR : zFin w f (some .boolean) (zQI w x (m0, n))) : ∀ (x1 : Nat) (x2 : Nat) (y1 : Int32) (m : zMem), Nat.blt x1 8 = true → Nat.blt x2 3 = true → s_X3_readItem_L109 x1 x2 y1 m = some (x, m0) → zG w f 3 109 ([some (pR 19 0), some (pR 8 x1), some (pR 1 x2)], [pI y1, pR 19 0], (m, n)) := by
  intro x1 x2 y1 m hx1 hx2 h
  unfold s_X3_readItem_L109 at h
  refine zrun hF [(.aload_n 1, 1, pI 0), (.ldc 33, 2, pR 0 0)] 109 _ (by decide +kernel) ?_
  show zG w f 3 112 ([some (pR 19 0), some (pR 8 x1), some (pR 1 x2)], [pR 61 0, pR 8 x1, pI y1, pR 19 0], (m, n))
  obtain ⟨r54, m55, q53, h⟩ := zb_k h
  refine zcallVI (pc := 112) (As := [pI y1, pR 8 x1, pR 61 0]) (st := []) (c := 19) (j := 0) hF (m_X3_readWordIf hx1 rfl q53) w_X3_readWordIf k_3_35 (by decide +kernel) rfl rfl rfl rfl rfl rfl rfl ?_
  refine zif_eq (tgt := 131) (pc := 115) hF (by decide +kernel) (fun b56 => ?_) (fun b56 => ?_)
  · replace h := zit b56 h
    refine zrun hF [(.iconst 0, 1, pI 0)] 131 _ (by decide +kernel) ?_
    show zG w f 3 132 ([some (pR 19 0), some (pR 8 x1), some (pR 1 x2)], [pI 0], (m55, n))
    exact zretI (pc := 132) hF hR (by decide +kernel) (by decide +kernel) (congrArg Prod.fst (Option.some.inj h)) (congrArg (fun (q : Int32 × zMem) => (q.2, n)) (Option.some.inj h))
  · replace h := zif b56 h
    refine zrun hF [(.aload_n 0, 1, pI 0), (.aload_n 1, 1, pI 0), (.aload_n 2, 1, pI 0)] 118 _ (by decide +kernel) ?_
    show zG w f 3 121 ([some (pR 19 0), some (pR 8 x1), some (pR 1 x2)], [pR 1 x2, pR 8 x1, pR 19 0], (m55, n))
    obtain ⟨r58, m59, q57, h⟩ := zb_k h
    refine zcallVI (pc := 121) (As := [pR 8 x1, pR 1 x2]) (st := []) (c := 19) (j := 0) hF (m_X3_readSeats hx1 hx2 q57) w_X3_readSeats k_3_39 (by decide +kernel) rfl rfl rfl rfl rfl rfl rfl ?_
    refine zif_eq (tgt := 131) (pc := 124) hF (by decide +kernel) (fun b60 => ?_) (fun b60 => ?_)
    · replace h := zit b60 h
      refine zrun hF [(.iconst 0, 1, pI 0)] 131 _ (by decide +kernel) ?_
      show zG w f 3 132 ([some (pR 19 0), some (pR 8 x1), some (pR 1 x2)], [pI 0], (m59, n))
      exact zretI (pc := 132) hF hR (by decide +kernel) (by decide +kernel) (congrArg Prod.fst (Option.some.inj h)) (congrArg (fun (q : Int32 × zMem) => (q.2, n)) (Option.some.inj h))
    · replace h := zif b60 h
      refine zrun hF [(.iconst 1, 1, pI 1)] 127 _ (by decide +kernel) ?_
      show zG w f 3 128 ([some (pR 19 0), some (pR 8 x1), some (pR 1 x2)], [pI 1], (m59, n))
      refine zgoto (tgt := 132) (pc := 128) hF (by decide +kernel) ?_
      exact zretI (pc := 132) hF hR (by decide +kernel) (by decide +kernel) (congrArg Prod.fst (Option.some.inj h)) (congrArg (fun (q : Int32 × zMem) => (q.2, n)) (Option.some.inj h))

set_option maxHeartbeats 4000000 in
set_option maxRecDepth 100000 in
theorem m_X3_readItem_L146 {w : zWd} {f : zFr} {n : zMem} {x : Int32} {m0 : zMem} {lc : Launch} (hl : f.2.1 = lc) (hF : zFOK w f 3 cX3_readItem 3 8) (hR : zFin w f (some .boolean) (zQI w x (m0, n))) : ∀ (x1 : Nat) (x2 : Nat) (y1 : Int32) (m : zMem), Nat.blt x1 8 = true → Nat.blt x2 3 = true → s_X3_readItem_L146 x1 x2 y1 m = some (x, m0) → zG w f 3 146 ([some (pR 19 0), some (pR 8 x1), some (pR 1 x2)], [pI y1, pR 19 0], (m, n)) := by
  intro x1 x2 y1 m hx1 hx2 h
  unfold s_X3_readItem_L146 at h
  refine zrun hF [(.aload_n 1, 1, pI 0), (.ldc 46, 2, pR 0 1)] 146 _ (by decide +kernel) ?_
  show zG w f 3 149 ([some (pR 19 0), some (pR 8 x1), some (pR 1 x2)], [pR 61 1, pR 8 x1, pI y1, pR 19 0], (m, n))
  obtain ⟨r46, m47, q45, h⟩ := zb_k h
  refine zcallVI (pc := 149) (As := [pI y1, pR 8 x1, pR 61 1]) (st := []) (c := 19) (j := 0) hF (m_X3_readWordIf hx1 rfl q45) w_X3_readWordIf k_3_35 (by decide +kernel) rfl rfl rfl rfl rfl rfl rfl ?_
  refine zif_eq (tgt := 168) (pc := 152) hF (by decide +kernel) (fun b48 => ?_) (fun b48 => ?_)
  · replace h := zit b48 h
    refine zrun hF [(.iconst 0, 1, pI 0)] 168 _ (by decide +kernel) ?_
    show zG w f 3 169 ([some (pR 19 0), some (pR 8 x1), some (pR 1 x2)], [pI 0], (m47, n))
    exact zretI (pc := 169) hF hR (by decide +kernel) (by decide +kernel) (congrArg Prod.fst (Option.some.inj h)) (congrArg (fun (q : Int32 × zMem) => (q.2, n)) (Option.some.inj h))
  · replace h := zif b48 h
    refine zrun hF [(.aload_n 0, 1, pI 0), (.aload_n 1, 1, pI 0), (.aload_n 2, 1, pI 0)] 155 _ (by decide +kernel) ?_
    show zG w f 3 158 ([some (pR 19 0), some (pR 8 x1), some (pR 1 x2)], [pR 1 x2, pR 8 x1, pR 19 0], (m47, n))
    obtain ⟨r50, m51, q49, h⟩ := zb_k h
    refine zcallVI (pc := 158) (As := [pR 8 x1, pR 1 x2]) (st := []) (c := 19) (j := 0) hF (m_X3_readGuest hx1 hx2 q49) w_X3_readGuest k_3_48 (by decide +kernel) rfl rfl rfl rfl rfl rfl rfl ?_
    refine zif_eq (tgt := 168) (pc := 161) hF (by decide +kernel) (fun b52 => ?_) (fun b52 => ?_)
    · replace h := zit b52 h
      refine zrun hF [(.iconst 0, 1, pI 0)] 168 _ (by decide +kernel) ?_
      show zG w f 3 169 ([some (pR 19 0), some (pR 8 x1), some (pR 1 x2)], [pI 0], (m51, n))
      exact zretI (pc := 169) hF hR (by decide +kernel) (by decide +kernel) (congrArg Prod.fst (Option.some.inj h)) (congrArg (fun (q : Int32 × zMem) => (q.2, n)) (Option.some.inj h))
    · replace h := zif b52 h
      refine zrun hF [(.iconst 1, 1, pI 1)] 164 _ (by decide +kernel) ?_
      show zG w f 3 165 ([some (pR 19 0), some (pR 8 x1), some (pR 1 x2)], [pI 1], (m51, n))
      refine zgoto (tgt := 169) (pc := 165) hF (by decide +kernel) ?_
      exact zretI (pc := 169) hF hR (by decide +kernel) (by decide +kernel) (congrArg Prod.fst (Option.some.inj h)) (congrArg (fun (q : Int32 × zMem) => (q.2, n)) (Option.some.inj h))

set_option maxHeartbeats 4000000 in
set_option maxRecDepth 100000 in
theorem m_X3_readItem {w : zWd} {lc : Launch} {n : zMem} {a1 : Nat} {a2 : Nat} {m : zMem} {x : Int32} {m0 : zMem} (ha1 : Nat.blt a1 8 = true) (ha2 : Nat.blt a2 3 = true) (h : s_X3_readItem a1 a2 m = some (x, m0)) : zMet w lc 8 yX3_readItem cX3_readItem 3 (some .boolean) [pR 19 0, pR 8 a1, pR 1 a2] (m, n) (zQI w x (m0, n)) := by
  refine zmet (o := 3) (by decide +kernel) rfl (Nat.le_of_ble_eq_true rfl) rfl (fun f hl hF hR => ?_)
  unfold s_X3_readItem at h
  show zG w f 3 0 ([some (pR 19 0), some (pR 8 a1), some (pR 1 a2)], [], (m, n))
  refine zrun hF [(.aload_n 1, 1, pI 0), (.aload_n 0, 1, pI 0), (.getfield 9, 3, pR 19 0)] 0 _ (by decide +kernel) ?_
  refine (And.intro rfl (And.intro rfl ?_))
  show zG w f 3 5 ([some (pR 19 0), some (pR 8 a1), some (pR 1 a2)], [pI (m.1 19 0 0), pR 8 a1], (m, n))
  obtain ⟨r2, q1, h⟩ := zr_k h
  refine zcallVI (pc := 5) (As := [pI (m.1 19 0 0)]) (st := []) (c := 8) (j := a1) hF (m_X4_number ha1 q1) w_X4_number k_3_24 (by decide +kernel) rfl ha1 rfl rfl rfl rfl rfl ?_
  refine zswitch (pc := 8) [(98, 170), (101, 228), (103, 133), (104, 199), (109, 253), (115, 96)] 278 hF (by decide +kernel) ?_
  refine And.intro (fun b3 => ?_) (fun b3 => ?_)
  · replace h := zit b3 h
    refine zrun hF [(.aload_n 0, 1, pI 0), (.aload_n 1, 1, pI 0), (.ldc 51, 2, pR 0 2)] 170 _ (by decide +kernel) ?_
    show zG w f 3 174 ([some (pR 19 0), some (pR 8 a1), some (pR 1 a2)], [pR 61 2, pR 8 a1, pR 19 0], (m, n))
    obtain ⟨r5, m6, q4, h⟩ := zb_k h
    refine zcallVI (pc := 174) (As := [pR 8 a1, pR 61 2]) (st := []) (c := 19) (j := 0) hF (m_X3_readWord ha1 rfl q4) w_X3_readWord k_3_53 (by decide +kernel) rfl rfl rfl rfl rfl rfl rfl ?_
    refine zif_eq (tgt := 197) (pc := 177) hF (by decide +kernel) (fun b7 => ?_) (fun b7 => ?_)
    · replace h := zit b7 h
      refine zrun hF [(.iconst 0, 1, pI 0)] 197 _ (by decide +kernel) ?_
      show zG w f 3 198 ([some (pR 19 0), some (pR 8 a1), some (pR 1 a2)], [pI 0], (m6, n))
      exact zretI (pc := 198) hF hR (by decide +kernel) (by decide +kernel) (congrArg Prod.fst (Option.some.inj h)) (congrArg (fun (q : Int32 × zMem) => (q.2, n)) (Option.some.inj h))
    · replace h := zif b7 h
      refine zrun hF [(.aload_n 0, 1, pI 0), (.aload_n 1, 1, pI 0), (.aload_n 2, 1, pI 0), (.aload_n 2, 1, pI 0), (.getfield 57, 3, pR 1 3)] 180 _ (by decide +kernel) ?_
      refine (And.intro rfl (And.intro ha2 ?_))
      show zG w f 3 187 ([some (pR 19 0), some (pR 8 a1), some (pR 1 a2)], [pR 5 a2, pR 1 a2, pR 8 a1, pR 19 0], (m6, n))
      obtain ⟨r9, m10, q8, h⟩ := zb_k h
      refine zcallVI (pc := 187) (As := [pR 8 a1, pR 1 a2, pR 5 a2]) (st := []) (c := 19) (j := 0) hF (m_X3_readPair_5 ha1 ha2 ha2 q8) w_X3_readPair k_3_61 (by decide +kernel) rfl rfl rfl rfl rfl rfl rfl ?_
      refine zif_eq (tgt := 197) (pc := 190) hF (by decide +kernel) (fun b11 => ?_) (fun b11 => ?_)
      · replace h := zit b11 h
        refine zrun hF [(.iconst 0, 1, pI 0)] 197 _ (by decide +kernel) ?_
        show zG w f 3 198 ([some (pR 19 0), some (pR 8 a1), some (pR 1 a2)], [pI 0], (m10, n))
        exact zretI (pc := 198) hF hR (by decide +kernel) (by decide +kernel) (congrArg Prod.fst (Option.some.inj h)) (congrArg (fun (q : Int32 × zMem) => (q.2, n)) (Option.some.inj h))
      · replace h := zif b11 h
        refine zrun hF [(.iconst 1, 1, pI 1)] 193 _ (by decide +kernel) ?_
        show zG w f 3 194 ([some (pR 19 0), some (pR 8 a1), some (pR 1 a2)], [pI 1], (m10, n))
        refine zgoto (tgt := 198) (pc := 194) hF (by decide +kernel) ?_
        exact zretI (pc := 198) hF hR (by decide +kernel) (by decide +kernel) (congrArg Prod.fst (Option.some.inj h)) (congrArg (fun (q : Int32 × zMem) => (q.2, n)) (Option.some.inj h))
  · replace h := zif b3 h
    refine And.intro (fun b12 => ?_) (fun b12 => ?_)
    · replace h := zit b12 h
      refine zrun hF [(.aload_n 0, 1, pI 0), (.aload_n 1, 1, pI 0), (.ldc 70, 2, pR 0 4)] 228 _ (by decide +kernel) ?_
      show zG w f 3 232 ([some (pR 19 0), some (pR 8 a1), some (pR 1 a2)], [pR 61 4, pR 8 a1, pR 19 0], (m, n))
      obtain ⟨r14, m15, q13, h⟩ := zb_k h
      refine zcallVI (pc := 232) (As := [pR 8 a1, pR 61 4]) (st := []) (c := 19) (j := 0) hF (m_X3_readWord ha1 rfl q13) w_X3_readWord k_3_53 (by decide +kernel) rfl rfl rfl rfl rfl rfl rfl ?_
      refine zif_eq (tgt := 251) (pc := 235) hF (by decide +kernel) (fun b16 => ?_) (fun b16 => ?_)
      · replace h := zit b16 h
        refine zrun hF [(.iconst 0, 1, pI 0)] 251 _ (by decide +kernel) ?_
        show zG w f 3 252 ([some (pR 19 0), some (pR 8 a1), some (pR 1 a2)], [pI 0], (m15, n))
        exact zretI (pc := 252) hF hR (by decide +kernel) (by decide +kernel) (congrArg Prod.fst (Option.some.inj h)) (congrArg (fun (q : Int32 × zMem) => (q.2, n)) (Option.some.inj h))
      · replace h := zif b16 h
        refine zrun hF [(.aload_n 0, 1, pI 0), (.aload_n 1, 1, pI 0), (.aload_n 2, 1, pI 0)] 238 _ (by decide +kernel) ?_
        show zG w f 3 241 ([some (pR 19 0), some (pR 8 a1), some (pR 1 a2)], [pR 1 a2, pR 8 a1, pR 19 0], (m15, n))
        obtain ⟨r18, m19, q17, h⟩ := zb_k h
        refine zcallVI (pc := 241) (As := [pR 8 a1, pR 1 a2]) (st := []) (c := 19) (j := 0) hF (m_X3_readEyes ha1 ha2 q17) w_X3_readEyes k_3_72 (by decide +kernel) rfl rfl rfl rfl rfl rfl rfl ?_
        refine zif_eq (tgt := 251) (pc := 244) hF (by decide +kernel) (fun b20 => ?_) (fun b20 => ?_)
        · replace h := zit b20 h
          refine zrun hF [(.iconst 0, 1, pI 0)] 251 _ (by decide +kernel) ?_
          show zG w f 3 252 ([some (pR 19 0), some (pR 8 a1), some (pR 1 a2)], [pI 0], (m19, n))
          exact zretI (pc := 252) hF hR (by decide +kernel) (by decide +kernel) (congrArg Prod.fst (Option.some.inj h)) (congrArg (fun (q : Int32 × zMem) => (q.2, n)) (Option.some.inj h))
        · replace h := zif b20 h
          refine zrun hF [(.iconst 1, 1, pI 1)] 247 _ (by decide +kernel) ?_
          show zG w f 3 248 ([some (pR 19 0), some (pR 8 a1), some (pR 1 a2)], [pI 1], (m19, n))
          refine zgoto (tgt := 252) (pc := 248) hF (by decide +kernel) ?_
          exact zretI (pc := 252) hF hR (by decide +kernel) (by decide +kernel) (congrArg Prod.fst (Option.some.inj h)) (congrArg (fun (q : Int32 × zMem) => (q.2, n)) (Option.some.inj h))
    · replace h := zif b12 h
      refine And.intro (fun b21 => ?_) (fun b21 => ?_)
      · replace h := zit b21 h
        refine zrun hF [(.aload_n 0, 1, pI 0), (.aload_n 2, 1, pI 0)] 133 _ (by decide +kernel) ?_
        show zG w f 3 135 ([some (pR 19 0), some (pR 8 a1), some (pR 1 a2)], [pR 1 a2, pR 19 0], (m, n))
        obtain ⟨r23, q22, h⟩ := zr_k h
        refine zcallVI (pc := 135) (As := []) (st := [pR 19 0]) (c := 1) (j := a2) hF (m_X5_isFull ha2 q22) w_X5_isFull k_3_42 (by decide +kernel) rfl ha2 rfl rfl rfl rfl rfl ?_
        refine zif_ne (tgt := 145) (pc := 138) hF (by decide +kernel) (fun b24 => ?_) (fun b24 => ?_)
        · replace h := zit b24 h
          refine zrun hF [(.iconst 1, 1, pI 1)] 141 _ (by decide +kernel) ?_
          show zG w f 3 142 ([some (pR 19 0), some (pR 8 a1), some (pR 1 a2)], [pI 1, pR 19 0], (m, n))
          refine zgoto (tgt := 146) (pc := 142) hF (by decide +kernel) ?_
          exact m_X3_readItem_L146 hl hF hR  _ _ _ _ ha1 ha2 h
        · replace h := zif b24 h
          refine zrun hF [(.iconst 0, 1, pI 0)] 145 _ (by decide +kernel) ?_
          show zG w f 3 146 ([some (pR 19 0), some (pR 8 a1), some (pR 1 a2)], [pI 0, pR 19 0], (m, n))
          exact m_X3_readItem_L146 hl hF hR  _ _ _ _ ha1 ha2 h
      · replace h := zif b21 h
        refine And.intro (fun b25 => ?_) (fun b25 => ?_)
        · replace h := zit b25 h
          refine zrun hF [(.aload_n 0, 1, pI 0), (.aload_n 1, 1, pI 0), (.ldc 65, 2, pR 0 3)] 199 _ (by decide +kernel) ?_
          show zG w f 3 203 ([some (pR 19 0), some (pR 8 a1), some (pR 1 a2)], [pR 61 3, pR 8 a1, pR 19 0], (m, n))
          obtain ⟨r27, m28, q26, h⟩ := zb_k h
          refine zcallVI (pc := 203) (As := [pR 8 a1, pR 61 3]) (st := []) (c := 19) (j := 0) hF (m_X3_readWord ha1 rfl q26) w_X3_readWord k_3_53 (by decide +kernel) rfl rfl rfl rfl rfl rfl rfl ?_
          refine zif_eq (tgt := 226) (pc := 206) hF (by decide +kernel) (fun b29 => ?_) (fun b29 => ?_)
          · replace h := zit b29 h
            refine zrun hF [(.iconst 0, 1, pI 0)] 226 _ (by decide +kernel) ?_
            show zG w f 3 227 ([some (pR 19 0), some (pR 8 a1), some (pR 1 a2)], [pI 0], (m28, n))
            exact zretI (pc := 227) hF hR (by decide +kernel) (by decide +kernel) (congrArg Prod.fst (Option.some.inj h)) (congrArg (fun (q : Int32 × zMem) => (q.2, n)) (Option.some.inj h))
          · replace h := zif b29 h
            refine zrun hF [(.aload_n 0, 1, pI 0), (.aload_n 1, 1, pI 0), (.aload_n 2, 1, pI 0), (.aload_n 2, 1, pI 0), (.getfield 67, 3, pR 1 4)] 209 _ (by decide +kernel) ?_
            refine (And.intro rfl (And.intro ha2 ?_))
            show zG w f 3 216 ([some (pR 19 0), some (pR 8 a1), some (pR 1 a2)], [pR 6 a2, pR 1 a2, pR 8 a1, pR 19 0], (m28, n))
            obtain ⟨r31, m32, q30, h⟩ := zb_k h
            refine zcallVI (pc := 216) (As := [pR 8 a1, pR 1 a2, pR 6 a2]) (st := []) (c := 19) (j := 0) hF (m_X3_readPair_6 ha1 ha2 ha2 q30) w_X3_readPair k_3_61 (by decide +kernel) rfl rfl rfl rfl rfl rfl rfl ?_
            refine zif_eq (tgt := 226) (pc := 219) hF (by decide +kernel) (fun b33 => ?_) (fun b33 => ?_)
            · replace h := zit b33 h
              refine zrun hF [(.iconst 0, 1, pI 0)] 226 _ (by decide +kernel) ?_
              show zG w f 3 227 ([some (pR 19 0), some (pR 8 a1), some (pR 1 a2)], [pI 0], (m32, n))
              exact zretI (pc := 227) hF hR (by decide +kernel) (by decide +kernel) (congrArg Prod.fst (Option.some.inj h)) (congrArg (fun (q : Int32 × zMem) => (q.2, n)) (Option.some.inj h))
            · replace h := zif b33 h
              refine zrun hF [(.iconst 1, 1, pI 1)] 222 _ (by decide +kernel) ?_
              show zG w f 3 223 ([some (pR 19 0), some (pR 8 a1), some (pR 1 a2)], [pI 1], (m32, n))
              refine zgoto (tgt := 227) (pc := 223) hF (by decide +kernel) ?_
              exact zretI (pc := 227) hF hR (by decide +kernel) (by decide +kernel) (congrArg Prod.fst (Option.some.inj h)) (congrArg (fun (q : Int32 × zMem) => (q.2, n)) (Option.some.inj h))
        · replace h := zif b25 h
          refine And.intro (fun b34 => ?_) (fun b34 => ?_)
          · replace h := zit b34 h
            refine zrun hF [(.aload_n 0, 1, pI 0), (.aload_n 1, 1, pI 0), (.ldc 75, 2, pR 0 5)] 253 _ (by decide +kernel) ?_
            show zG w f 3 257 ([some (pR 19 0), some (pR 8 a1), some (pR 1 a2)], [pR 61 5, pR 8 a1, pR 19 0], (m, n))
            obtain ⟨r36, m37, q35, h⟩ := zb_k h
            refine zcallVI (pc := 257) (As := [pR 8 a1, pR 61 5]) (st := []) (c := 19) (j := 0) hF (m_X3_readWord ha1 rfl q35) w_X3_readWord k_3_53 (by decide +kernel) rfl rfl rfl rfl rfl rfl rfl ?_
            refine zif_eq (tgt := 276) (pc := 260) hF (by decide +kernel) (fun b38 => ?_) (fun b38 => ?_)
            · replace h := zit b38 h
              refine zrun hF [(.iconst 0, 1, pI 0)] 276 _ (by decide +kernel) ?_
              show zG w f 3 277 ([some (pR 19 0), some (pR 8 a1), some (pR 1 a2)], [pI 0], (m37, n))
              exact zretI (pc := 277) hF hR (by decide +kernel) (by decide +kernel) (congrArg Prod.fst (Option.some.inj h)) (congrArg (fun (q : Int32 × zMem) => (q.2, n)) (Option.some.inj h))
            · replace h := zif b38 h
              refine zrun hF [(.aload_n 0, 1, pI 0), (.aload_n 1, 1, pI 0), (.aload_n 2, 1, pI 0)] 263 _ (by decide +kernel) ?_
              show zG w f 3 266 ([some (pR 19 0), some (pR 8 a1), some (pR 1 a2)], [pR 1 a2, pR 8 a1, pR 19 0], (m37, n))
              obtain ⟨r40, m41, q39, h⟩ := zb_k h
              refine zcallVI (pc := 266) (As := [pR 8 a1, pR 1 a2]) (st := []) (c := 19) (j := 0) hF (m_X3_readMove ha1 ha2 q39) w_X3_readMove k_3_77 (by decide +kernel) rfl rfl rfl rfl rfl rfl rfl ?_
              refine zif_eq (tgt := 276) (pc := 269) hF (by decide +kernel) (fun b42 => ?_) (fun b42 => ?_)
              · replace h := zit b42 h
                refine zrun hF [(.iconst 0, 1, pI 0)] 276 _ (by decide +kernel) ?_
                show zG w f 3 277 ([some (pR 19 0), some (pR 8 a1), some (pR 1 a2)], [pI 0], (m41, n))
                exact zretI (pc := 277) hF hR (by decide +kernel) (by decide +kernel) (congrArg Prod.fst (Option.some.inj h)) (congrArg (fun (q : Int32 × zMem) => (q.2, n)) (Option.some.inj h))
              · replace h := zif b42 h
                refine zrun hF [(.iconst 1, 1, pI 1)] 272 _ (by decide +kernel) ?_
                show zG w f 3 273 ([some (pR 19 0), some (pR 8 a1), some (pR 1 a2)], [pI 1], (m41, n))
                refine zgoto (tgt := 277) (pc := 273) hF (by decide +kernel) ?_
                exact zretI (pc := 277) hF hR (by decide +kernel) (by decide +kernel) (congrArg Prod.fst (Option.some.inj h)) (congrArg (fun (q : Int32 × zMem) => (q.2, n)) (Option.some.inj h))
          · replace h := zif b34 h
            refine And.intro (fun b43 => ?_) (fun b43 => ?_)
            · replace h := zit b43 h
              refine zrun hF [(.aload_n 0, 1, pI 0), (.aload_n 2, 1, pI 0), (.getfield 28, 3, pR 1 6)] 96 _ (by decide +kernel) ?_
              refine (And.intro rfl (And.intro ha2 ?_))
              show zG w f 3 101 ([some (pR 19 0), some (pR 8 a1), some (pR 1 a2)], [pI (m.1 1 a2 6), pR 19 0], (m, n))
              refine zif_ne (tgt := 108) (pc := 101) hF (by decide +kernel) (fun b44 => ?_) (fun b44 => ?_)
              · replace h := zit b44 h
                refine zrun hF [(.iconst 1, 1, pI 1)] 104 _ (by decide +kernel) ?_
                show zG w f 3 105 ([some (pR 19 0), some (pR 8 a1), some (pR 1 a2)], [pI 1, pR 19 0], (m, n))
                refine zgoto (tgt := 109) (pc := 105) hF (by decide +kernel) ?_
                exact m_X3_readItem_L109 hl hF hR  _ _ _ _ ha1 ha2 h
              · replace h := zif b44 h
                refine zrun hF [(.iconst 0, 1, pI 0)] 108 _ (by decide +kernel) ?_
                show zG w f 3 109 ([some (pR 19 0), some (pR 8 a1), some (pR 1 a2)], [pI 0, pR 19 0], (m, n))
                exact m_X3_readItem_L109 hl hF hR  _ _ _ _ ha1 ha2 h
            · replace h := zif b43 h
              refine zrun hF [(.iconst 0, 1, pI 0)] 278 _ (by decide +kernel) ?_
              show zG w f 3 279 ([some (pR 19 0), some (pR 8 a1), some (pR 1 a2)], [pI 0], (m, n))
              exact zretI (pc := 279) hF hR (by decide +kernel) (by decide +kernel) (congrArg Prod.fst (Option.some.inj h)) (congrArg (fun (q : Int32 × zMem) => (q.2, n)) (Option.some.inj h))

