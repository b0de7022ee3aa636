set_option maxHeartbeats 4000000 in
set_option maxRecDepth 100000 in
theorem m_X7_isGuest {w : zWd} {lc : Launch} {n : zMem} {a1 : Int32} {m : zMem} {x : Int32}  (h : s_X7_isGuest a1 m = some x) : zMet w lc 1 yX7_isGuest cX7_isGuest 2 (some .boolean) [pR 64 0, pI a1] (n, m) (zQI w x (n, m)) := by
  refine zmet (o := 7) (by decide +kernel) rfl (Nat.le_of_ble_eq_true rfl) rfl (fun f hl hF hR => ?_)
  unfold s_X7_isGuest at h
  show zG w f 2 0 ([some (pR 64 0), some (pI a1)], [], (n, m))
  refine zrun hF [(.iload_n 1, 1, pI 0)] 0 _ (by decide +kernel) ?_
  show zG w f 2 1 ([some (pR 64 0), some (pI a1)], [pI a1], (n, m))
  refine zif_lt (tgt := 16) (pc := 1) hF (by decide +kernel) (fun b1 => ?_) (fun b1 => ?_)
  · replace h := zit b1 h
    refine zrun hF [(.iconst 0, 1, pI 0)] 16 _ (by decide +kernel) ?_
    show zG w f 2 17 ([some (pR 64 0), some (pI a1)], [pI 0], (n, m))
    exact zretI (pc := 17) hF hR (by decide +kernel) (by decide +kernel) (Option.some.inj h) rfl
  · replace h := zif b1 h
    refine zrun hF [(.iload_n 1, 1, pI 0), (.aload_n 0, 1, pI 0), (.getfield 93, 3, pR 64 0)] 4 _ (by decide +kernel) ?_
    refine (And.intro rfl (And.intro rfl ?_))
    show zG w f 2 9 ([some (pR 64 0), some (pI a1)], [pI (m.1 64 0 0), pI a1], (n, m))
    refine zicmp_ge (tgt := 16) (pc := 9) hF (by decide +kernel) (fun b2 => ?_) (fun b2 => ?_)
    · replace h := zit b2 h
      refine zrun hF [(.iconst 0, 1, pI 0)] 16 _ (by decide +kernel) ?_
      show zG w f 2 17 ([some (pR 64 0), some (pI a1)], [pI 0], (n, m))
      exact zretI (pc := 17) hF hR (by decide +kernel) (by decide +kernel) (Option.some.inj h) rfl
    · replace h := zif b2 h
      refine zrun hF [(.iconst 1, 1, pI 1)] 12 _ (by decide +kernel) ?_
      show zG w f 2 13 ([some (pR 64 0), some (pI a1)], [pI 1], (n, m))
      refine zgoto (tgt := 17) (pc := 13) hF (by decide +kernel) ?_
      exact zretI (pc := 17) hF hR (by decide +kernel) (by decide +kernel) (Option.some.inj h) rfl

set_option maxHeartbeats 4000000 in
set_option maxRecDepth 100000 in
theorem m_X7_show_L21 {w : zWd} {f : zFr} {n : zMem} {x : Int32} {m0 : zMem} {lc : Launch} (hl : f.2.1 = lc) (hF : zFOK w f 7 cX7_show 3 2) (hR : zFin w f (some .int) (zQI w x (n, m0))) : ∀ (m : zMem), s_X7_show_L21 m = some (x, m0) → zG w f 3 21 ([some (pR 64 0), none, none], [], (n, m)) := by
  intro m h
  unfold s_X7_show_L21 at h
  refine zrun hF [(.aload_n 0, 1, pI 0), (.iconst (-1), 1, pI (-1))] 21 _ (by decide +kernel) ?_
  show zG w f 3 23 ([some (pR 64 0), none, none], [pI (-1), pR 64 0], (n, m))
  obtain ⟨r9, m10, q8, h⟩ := zb_k h
  refine zcallVI (pc := 23) (As := [pI (-1)]) (st := []) (c := 64) (j := 0) hF (m_X7_no  q8) w_X7_no k_7_100 (by decide +kernel) rfl rfl rfl rfl rfl rfl rfl ?_
  exact zretI (pc := 26) hF hR (by decide +kernel) rfl (congrArg Prod.fst (Option.some.inj h)) (congrArg (fun (q : Int32 × zMem) => (n, q.2)) (Option.some.inj h))

set_option maxHeartbeats 4000000 in
set_option maxRecDepth 100000 in
theorem m_X7_show_L42 {w : zWd} {f : zFr} {n : zMem} {x : Int32} {m0 : zMem} {lc : Launch} (hl : f.2.1 = lc) (hF : zFOK w f 7 cX7_show 3 2) (hR : zFin w f (some .int) (zQI w x (n, m0))) : ∀ (x1 : Int32) (x2 : Int32) (y1 : Int32) (y2 : Int32) (m : zMem), s_X7_show_L42 x1 x2 y1 y2 m = some (x, m0) → zG w f 3 42 ([some (pR 64 0), some (pI x1), some (pI x2)], [pI y2, pI y1, pR 71 0], (n, m)) := by
  intro x1 x2 y1 y2 m h
  unfold s_X7_show_L42 at h
  obtain ⟨c12, h⟩ := zchk h
  refine zrun hF [(.iastore, 1, pI 0)] 42 _ (by decide +kernel) ?_
  refine (And.intro rfl (And.intro rfl (And.intro c12 ?_)))
  refine zlet_k (P := fun (m13 : zMem) => zG w f 3 43 ([some (pR 64 0), some (pI x1), some (pI x2)], [], (n, m13))) h (fun m13 h => ?_)
  obtain ⟨c14, h⟩ := zchk h
  refine zrun hF [(.aload_n 0, 1, pI 0), (.getfield 47, 3, pR 64 16), (.iload_n 1, 1, pI 0), (.iload_n 2, 1, pI 0), (.iastore, 1, pI 0)] 43 _ (by decide +kernel) ?_
  refine (And.intro rfl (And.intro rfl (And.intro rfl (And.intro rfl (And.intro c14 ?_)))))
  refine zlet_k (P := fun (m15 : zMem) => zG w f 3 50 ([some (pR 64 0), some (pI x1), some (pI x2)], [], (n, m15))) h (fun m15 h => ?_)
  refine zrun hF [(.iload_n 2, 1, pI 0), (.iconst (-1), 1, pI (-1))] 50 _ (by decide +kernel) ?_
  show zG w f 3 52 ([some (pR 64 0), some (pI x1), some (pI x2)], [pI (-1), pI x2], (n, m15))
  refine zicmp_ne (tgt := 59) (pc := 52) hF (by decide +kernel) (fun b16 => ?_) (fun b16 => ?_)
  · replace h := zit b16 h
    refine zrun hF [(.iconst 0, 1, pI 0)] 55 _ (by decide +kernel) ?_
    show zG w f 3 56 ([some (pR 64 0), some (pI x1), some (pI x2)], [pI 0], (n, m15))
    refine zgoto (tgt := 60) (pc := 56) hF (by decide +kernel) ?_
    exact zretI (pc := 60) hF hR (by decide +kernel) rfl (congrArg Prod.fst (Option.some.inj h)) (congrArg (fun (q : Int32 × zMem) => (n, q.2)) (Option.some.inj h))
  · replace h := zif b16 h
    refine zrun hF [(.iconst 1, 1, pI 1)] 59 _ (by decide +kernel) ?_
    show zG w f 3 60 ([some (pR 64 0), some (pI x1), some (pI x2)], [pI 1], (n, m15))
    exact zretI (pc := 60) hF hR (by decide +kernel) rfl (congrArg Prod.fst (Option.some.inj h)) (congrArg (fun (q : Int32 × zMem) => (n, q.2)) (Option.some.inj h))

set_option maxHeartbeats 4000000 in
set_option maxRecDepth 100000 in
theorem m_X7_show_L27 {w : zWd} {f : zFr} {n : zMem} {x : Int32} {m0 : zMem} {lc : Launch} (hl : f.2.1 = lc) (hF : zFOK w f 7 cX7_show 3 2) (hR : zFin w f (some .int) (zQI w x (n, m0))) : ∀ (x1 : Int32) (x2 : Int32) (m : zMem), s_X7_show_L27 x1 x2 m = some (x, m0) → zG w f 3 27 ([some (pR 64 0), some (pI x1), some (pI x2)], [], (n, m)) := by
  intro x1 x2 m h
  unfold s_X7_show_L27 at h
  refine zrun hF [(.aload_n 0, 1, pI 0), (.getfield 38, 3, pR 64 13), (.iload_n 1, 1, pI 0), (.iload_n 2, 1, pI 0), (.iconst (-1), 1, pI (-1))] 27 _ (by decide +kernel) ?_
  refine (And.intro rfl (And.intro rfl ?_))
  show zG w f 3 34 ([some (pR 64 0), some (pI x1), some (pI x2)], [pI (-1), pI x2, pI x1, pR 71 0], (n, m))
  refine zicmp_ne (tgt := 41) (pc := 34) hF (by decide +kernel) (fun b11 => ?_) (fun b11 => ?_)
  · replace h := zit b11 h
    refine zrun hF [(.iconst 0, 1, pI 0)] 37 _ (by decide +kernel) ?_
    show zG w f 3 38 ([some (pR 64 0), some (pI x1), some (pI x2)], [pI 0, pI x1, pR 71 0], (n, m))
    refine zgoto (tgt := 42) (pc := 38) hF (by decide +kernel) ?_
    exact m_X7_show_L42 hl hF hR  _ _ _ _ _  h
  · replace h := zif b11 h
    refine zrun hF [(.iconst 2, 1, pI 2)] 41 _ (by decide +kernel) ?_
    show zG w f 3 42 ([some (pR 64 0), some (pI x1), some (pI x2)], [pI 2, pI x1, pR 71 0], (n, m))
    exact m_X7_show_L42 hl hF hR  _ _ _ _ _  h

set_option maxHeartbeats 4000000 in
set_option maxRecDepth 100000 in
theorem m_X7_show {w : zWd} {lc : Launch} {n : zMem} {a1 : Int32} {a2 : Int32} {m : zMem} {x : Int32} {m0 : zMem}  (h : s_X7_show a1 a2 m = some (x, m0)) : zMet w lc 2 yX7_show cX7_show 3 (some .int) [pR 64 0, pI a1, pI a2] (n, m) (zQI w x (n, m0)) := by
  refine zmet (o := 7) (by decide +kernel) rfl (Nat.le_of_ble_eq_true rfl) rfl (fun f hl hF hR => ?_)
  unfold s_X7_show at h
  show zG w f 3 0 ([some (pR 64 0), some (pI a1), some (pI a2)], [], (n, m))
  refine zrun hF [(.aload_n 0, 1, pI 0), (.iload_n 1, 1, pI 0)] 0 _ (by decide +kernel) ?_
  show zG w f 3 2 ([some (pR 64 0), some (pI a1), some (pI a2)], [pI a1, pR 64 0], (n, m))
  obtain ⟨r2, q1, h⟩ := zr_k h
  refine zcallVI (pc := 2) (As := [pI a1]) (st := []) (c := 64) (j := 0) hF (m_X7_isShelf  q1) w_X7_isShelf k_7_96 (by decide +kernel) rfl rfl rfl rfl rfl rfl rfl ?_
  refine zif_eq (tgt := 21) (pc := 5) hF (by decide +kernel) (fun b3 => ?_) (fun b3 => ?_)
  · replace h := zit b3 h
    refine zcut [true, false, false] ?_
    exact m_X7_show_L21 hl hF hR  _  h
  · replace h := zif b3 h
    refine zrun hF [(.iload_n 2, 1, pI 0), (.iconst (-1), 1, pI (-1))] 8 _ (by decide +kernel) ?_
    show zG w f 3 10 ([some (pR 64 0), some (pI a1), some (pI a2)], [pI (-1), pI a2], (n, m))
    refine zicmp_eq (tgt := 27) (pc := 10) hF (by decide +kernel) (fun b4 => ?_) (fun b4 => ?_)
    · replace h := zit b4 h
      exact m_X7_show_L27 hl hF hR  _ _ _  h
    · replace h := zif b4 h
      refine zrun hF [(.aload_n 0, 1, pI 0), (.iload_n 2, 1, pI 0)] 13 _ (by decide +kernel) ?_
      show zG w f 3 15 ([some (pR 64 0), some (pI a1), some (pI a2)], [pI a2, pR 64 0], (n, m))
      obtain ⟨r6, q5, h⟩ := zr_k h
      refine zcallVI (pc := 15) (As := [pI a2]) (st := []) (c := 64) (j := 0) hF (m_X7_isGuest  q5) w_X7_isGuest k_7_104 (by decide +kernel) rfl rfl rfl rfl rfl rfl rfl ?_
      refine zif_ne (tgt := 27) (pc := 18) hF (by decide +kernel) (fun b7 => ?_) (fun b7 => ?_)
      · replace h := zit b7 h
        refine zcut [true, false, false] ?_
        exact m_X7_show_L21 hl hF hR  _  h
      · replace h := zif b7 h
        exact m_X7_show_L27 hl hF hR  _ _ _  h

set_option maxHeartbeats 4000000 in
set_option maxRecDepth 100000 in
theorem m_X6_holds {w : zWd} {lc : Launch} {n : zMem} {a1 : Int32} {m : zMem} {x : Int32}  (h : s_X6_holds a1 m = some x) : zMet w lc 2 yX6_holds cX6_holds 2 (some .int) [pR 0 0, pI a1] (m, n) (zQI w x (m, n)) := by
  refine zmet (o := 6) (by decide +kernel) rfl (Nat.le_of_ble_eq_true rfl) rfl (fun f hl hF hR => ?_)
  unfold s_X6_holds at h
  show zG w f 2 0 ([some (pR 0 0), some (pI a1)], [], (m, n))
  refine zrun hF [(.iload_n 1, 1, pI 0)] 0 _ (by decide +kernel) ?_
  show zG w f 2 1 ([some (pR 0 0), some (pI a1)], [pI a1], (m, n))
  obtain ⟨r2, q1, h⟩ := zr_k h
  refine zcallSI (pc := 1) (As := [pI a1]) (st := []) hF (m_X6_isShelf  q1) w_X6_isShelf k_6_69 (by decide +kernel) rfl rfl rfl rfl ?_
  refine zif_eq (tgt := 19) (pc := 4) hF (by decide +kernel) (fun b3 => ?_) (fun b3 => ?_)
  · replace h := zit b3 h
    refine zrun hF [(.iconst (-1), 1, pI (-1))] 19 _ (by decide +kernel) ?_
    show zG w f 2 20 ([some (pR 0 0), some (pI a1)], [pI (-1)], (m, n))
    exact zretI (pc := 20) hF hR (by decide +kernel) rfl (Option.some.inj h) rfl
  · replace h := zif b3 h
    obtain ⟨c4, h⟩ := zchk h
    refine zrun hF [(.aload_n 0, 1, pI 0), (.getfield 28, 3, pR 0 4), (.iload_n 1, 1, pI 0), (.aaload, 1, pI 0), (.getfield 98, 3, pR 8 1)] 7 _ (by decide +kernel) ?_
    refine (And.intro rfl (And.intro rfl (And.intro rfl (And.intro c4 (And.intro rfl (And.intro (zinb_blt c4) ?_))))))
    show zG w f 2 16 ([some (pR 0 0), some (pI a1)], [pI (m.1 8 (ix a1) 1)], (m, n))
    refine zgoto (tgt := 20) (pc := 16) hF (by decide +kernel) ?_
    exact zretI (pc := 20) hF hR (by decide +kernel) rfl (Option.some.inj h) rfl

set_option maxHeartbeats 4000000 in
set_option maxRecDepth 100000 in
theorem m_X7_holds {w : zWd} {lc : Launch} {n : zMem} {a1 : Int32} {m : zMem} {x : Int32}  (h : s_X7_holds a1 m = some x) : zMet w lc 2 yX7_holds cX7_holds 2 (some .int) [pR 64 0, pI a1] (n, m) (zQI w x (n, m)) := by
  refine zmet (o := 7) (by decide +kernel) rfl (Nat.le_of_ble_eq_true rfl) rfl (fun f hl hF hR => ?_)
  unfold s_X7_holds at h
  show zG w f 2 0 ([some (pR 64 0), some (pI a1)], [], (n, m))
  refine zrun hF [(.aload_n 0, 1, pI 0), (.iload_n 1, 1, pI 0)] 0 _ (by decide +kernel) ?_
  show zG w f 2 2 ([some (pR 64 0), some (pI a1)], [pI a1, pR 64 0], (n, m))
  obtain ⟨r2, q1, h⟩ := zr_k h
  refine zcallVI (pc := 2) (As := [pI a1]) (st := []) (c := 64) (j := 0) hF (m_X7_isShelf  q1) w_X7_isShelf k_7_96 (by decide +kernel) rfl rfl rfl rfl rfl rfl rfl ?_
  refine zif_eq (tgt := 17) (pc := 5) hF (by decide +kernel) (fun b3 => ?_) (fun b3 => ?_)
  · replace h := zit b3 h
    refine zrun hF [(.iconst (-1), 1, pI (-1))] 17 _ (by decide +kernel) ?_
    show zG w f 2 18 ([some (pR 64 0), some (pI a1)], [pI (-1)], (n, m))
    exact zretI (pc := 18) hF hR (by decide +kernel) rfl (Option.some.inj h) rfl
  · replace h := zif b3 h
    obtain ⟨c4, h⟩ := zchk h
    refine zrun hF [(.aload_n 0, 1, pI 0), (.getfield 38, 3, pR 64 13), (.iload_n 1, 1, pI 0), (.iaload, 1, pI 0)] 8 _ (by decide +kernel) ?_
    refine (And.intro rfl (And.intro rfl (And.intro rfl (And.intro rfl (And.intro c4 ?_)))))
    show zG w f 2 14 ([some (pR 64 0), some (pI a1)], [pI (m.1 71 0 (ix a1))], (n, m))
    refine zif_ne (tgt := 19) (pc := 14) hF (by decide +kernel) (fun b5 => ?_) (fun b5 => ?_)
    · replace h := zit b5 h
      refine zrun hF [(.iconst (-1), 1, pI (-1))] 17 _ (by decide +kernel) ?_
      show zG w f 2 18 ([some (pR 64 0), some (pI a1)], [pI (-1)], (n, m))
      exact zretI (pc := 18) hF hR (by decide +kernel) rfl (Option.some.inj h) rfl
    · replace h := zif b5 h
      refine zrun hF [(.aload_n 0, 1, pI 0), (.getfield 38, 3, pR 64 13), (.iload_n 1, 1, pI 0), (.iaload, 1, pI 0), (.iconst 1, 1, pI 1)] 19 _ (by decide +kernel) ?_
      refine (And.intro rfl (And.intro rfl (And.intro rfl (And.intro rfl (And.intro c4 ?_)))))
      show zG w f 2 26 ([some (pR 64 0), some (pI a1)], [pI 1, pI (m.1 71 0 (ix a1))], (n, m))
      refine zicmp_ne (tgt := 41) (pc := 26) hF (by decide +kernel) (fun b6 => ?_) (fun b6 => ?_)
      · replace h := zit b6 h
        refine zrun hF [(.bipush 100, 2, pI 100), (.aload_n 0, 1, pI 0), (.getfield 41, 3, pR 64 14), (.iload_n 1, 1, pI 0), (.iaload, 1, pI 0), (.iadd, 1, pI 0)] 29 _ (by decide +kernel) ?_
        refine (And.intro rfl (And.intro rfl (And.intro rfl (And.intro rfl (And.intro c4 ?_)))))
        show zG w f 2 38 ([some (pR 64 0), some (pI a1)], [pI (100 + (m.1 72 0 (ix a1)))], (n, m))
        refine zgoto (tgt := 47) (pc := 38) hF (by decide +kernel) ?_
        exact zretI (pc := 47) hF hR (by decide +kernel) rfl (Option.some.inj h) rfl
      · replace h := zif b6 h
        refine zrun hF [(.aload_n 0, 1, pI 0), (.getfield 47, 3, pR 64 16), (.iload_n 1, 1, pI 0), (.iaload, 1, pI 0)] 41 _ (by decide +kernel) ?_
        refine (And.intro rfl (And.intro rfl (And.intro rfl (And.intro rfl (And.intro c4 ?_)))))
        show zG w f 2 47 ([some (pR 64 0), some (pI a1)], [pI (m.1 74 0 (ix a1))], (n, m))
        exact zretI (pc := 47) hF hR (by decide +kernel) rfl (Option.some.inj h) rfl

