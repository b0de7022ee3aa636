set_option maxHeartbeats 4000000 in
set_option maxRecDepth 100000 in
theorem m_X0_waitsOf_L64 {w : zWd} {f : zFr} {n : zMem} {x : Int32} {m0 : zMem} {lc : Launch} (hl : f.2.1 = lc) (hF : zFOK w f 0 cX0_waitsOf 4 4) (hR : zFin w f (some .int) (zQI w x (m0, n))) : ∀ (y0 : Int32) (y1 : Int32) (m : zMem), s_X0_waitsOf_L64 y0 y1 m = some (x, m0) → zG w f 4 64 ([some (pR 20 0), none, none, none], [pI y1, pI y0], (m, n)) := by
  intro y0 y1 m h
  unfold s_X0_waitsOf_L64 at h
  refine zrun hF [(.isub, 1, pI 0), (.istore_n 2, 1, pI 0), (.aload_n 0, 1, pI 0), (.iload_n 2, 1, pI 0)] 64 _ (by decide +kernel) ?_
  refine (And.intro rfl ?_)
  show zG w f 4 68 ([some (pR 20 0), none, some (pI (y0 - y1)), none], [pI (y0 - y1), pR 20 0], (m, n))
  obtain ⟨r20, m21, q19, h⟩ := zb_k h
  refine zcallVI (pc := 68) (As := [pI (y0 - y1)]) (st := []) (c := 20) (j := 0) hF (m_X0_clinksOf  q19) w_X0_clinksOf k_0_35 (by decide +kernel) rfl rfl rfl rfl rfl rfl rfl ?_
  refine zrun hF [(.iconst 2, 1, pI 2), (.imul, 1, pI 0), (.istore_n 3, 1, pI 0), (.aload_n 0, 1, pI 0), (.iconst 2, 1, pI 2)] 71 _ (by decide +kernel) ?_
  refine (And.intro rfl ?_)
  show zG w f 4 76 ([some (pR 20 0), none, some (pI (y0 - y1)), some (pI (r20 * 2))], [pI 2, pR 20 0], (m21, n))
  obtain ⟨r23, q22, h⟩ := zr_k h
  refine zcallVI (pc := 76) (As := [pI 2]) (st := []) (c := 20) (j := 0) hF (m_X0_is  q22) w_X0_is k_0_45 (by decide +kernel) rfl rfl rfl rfl rfl rfl rfl ?_
  refine zif_eq (tgt := 88) (pc := 79) hF (by decide +kernel) (fun b24 => ?_) (fun b24 => ?_)
  · replace h := zit b24 h
    refine zrun hF [(.iload_n 3, 1, pI 0)] 88 _ (by decide +kernel) ?_
    show zG w f 4 89 ([some (pR 20 0), none, some (pI (y0 - y1)), some (pI (r20 * 2))], [pI (r20 * 2)], (m21, n))
    exact zretI (pc := 89) hF hR (by decide +kernel) rfl (congrArg Prod.fst (Option.some.inj h)) (congrArg (fun (q : Int32 × zMem) => (q.2, n)) (Option.some.inj h))
  · replace h := zif b24 h
    refine zrun hF [(.iconst 3, 1, pI 3), (.iload_n 3, 1, pI 0), (.imul, 1, pI 0)] 82 _ (by decide +kernel) ?_
    show zG w f 4 85 ([some (pR 20 0), none, some (pI (y0 - y1)), some (pI (r20 * 2))], [pI (3 * (r20 * 2))], (m21, n))
    refine zgoto (tgt := 89) (pc := 85) hF (by decide +kernel) ?_
    exact zretI (pc := 89) hF hR (by decide +kernel) rfl (congrArg Prod.fst (Option.some.inj h)) (congrArg (fun (q : Int32 × zMem) => (q.2, n)) (Option.some.inj h))

set_option maxHeartbeats 4000000 in
set_option maxRecDepth 100000 in
theorem m_X0_waitsOf_L44 {w : zWd} {f : zFr} {n : zMem} {x : Int32} {m0 : zMem} {lc : Launch} (hl : f.2.1 = lc) (hF : zFOK w f 0 cX0_waitsOf 4 4) (hR : zFin w f (some .int) (zQI w x (m0, n))) : ∀ (y0 : Int32) (y1 : Int32) (m : zMem), s_X0_waitsOf_L44 y0 y1 m = some (x, m0) → zG w f 4 44 ([some (pR 20 0), none, none, none], [pI y1, pI y0], (m, n)) := by
  intro y0 y1 m h
  unfold s_X0_waitsOf_L44 at h
  refine zrun hF [(.iadd, 1, pI 0), (.istore_n 2, 1, pI 0), (.iload_n 2, 1, pI 0), (.aload_n 0, 1, pI 0), (.bipush 6, 2, pI 6)] 44 _ (by decide +kernel) ?_
  refine (And.intro rfl ?_)
  show zG w f 4 50 ([some (pR 20 0), none, some (pI (y0 + y1)), none], [pI 6, pR 20 0, pI (y0 + y1)], (m, n))
  obtain ⟨r17, q16, h⟩ := zr_k h
  refine zcallVI (pc := 50) (As := [pI 6]) (st := [pI (y0 + y1)]) (c := 20) (j := 0) hF (m_X0_is  q16) w_X0_is k_0_45 (by decide +kernel) rfl rfl rfl rfl rfl rfl rfl ?_
  refine zif_eq (tgt := 63) (pc := 53) hF (by decide +kernel) (fun b18 => ?_) (fun b18 => ?_)
  · replace h := zit b18 h
    refine zrun hF [(.iconst 0, 1, pI 0)] 63 _ (by decide +kernel) ?_
    show zG w f 4 64 ([some (pR 20 0), none, some (pI (y0 + y1)), none], [pI 0, pI (y0 + y1)], (m, n))
    refine zcut [true, true, false, true] ?_
    exact m_X0_waitsOf_L64 hl hF hR  _ _ _  h
  · replace h := zif b18 h
    refine zrun hF [(.aload_n 0, 1, pI 0), (.getfield 25, 3, pR 20 4)] 56 _ (by decide +kernel) ?_
    refine (And.intro rfl (And.intro rfl ?_))
    show zG w f 4 60 ([some (pR 20 0), none, some (pI (y0 + y1)), none], [pI (m.1 20 0 4), pI (y0 + y1)], (m, n))
    refine zgoto (tgt := 64) (pc := 60) hF (by decide +kernel) ?_
    refine zcut [true, true, false, true] ?_
    exact m_X0_waitsOf_L64 hl hF hR  _ _ _  h

set_option maxHeartbeats 4000000 in
set_option maxRecDepth 100000 in
theorem m_X0_waitsOf {w : zWd} {lc : Launch} {n : zMem} {a1 : Int32} {m : zMem} {x : Int32} {m0 : zMem}  (h : s_X0_waitsOf a1 m = some (x, m0)) : zMet w lc 4 yX0_waitsOf cX0_waitsOf 4 (some .int) [pR 20 0, pI a1] (m, n) (zQI w x (m0, n)) := by
  refine zmet (o := 0) (by decide +kernel) rfl (Nat.le_of_ble_eq_true rfl) rfl (fun f hl hF hR => ?_)
  unfold s_X0_waitsOf at h
  show zG w f 4 0 ([some (pR 20 0), some (pI a1), none, none], [], (m, n))
  refine zrun hF [(.aload_n 0, 1, pI 0), (.bipush 6, 2, pI 6), (.bipush 71, 2, pI 71)] 0 _ (by decide +kernel) ?_
  show zG w f 4 5 ([some (pR 20 0), some (pI a1), none, none], [pI 71, pI 6, pR 20 0], (m, n))
  obtain ⟨m3, q1, h⟩ := zr_k h
  refine zcallVV (pc := 5) (As := [pI 6, pI 71]) (st := []) (c := 20) (j := 0) hF (m_X0_beginIf  q1) w_X0_beginIf k_0_52 (by decide +kernel) rfl rfl rfl rfl rfl rfl rfl ?_
  refine zrun hF [(.aload_n 0, 1, pI 0), (.iconst 3, 1, pI 3), (.bipush 40, 2, pI 40)] 8 _ (by decide +kernel) ?_
  show zG w f 4 12 ([some (pR 20 0), some (pI a1), none, none], [pI 40, pI 3, pR 20 0], (m3, n))
  obtain ⟨m6, q4, h⟩ := zr_k h
  refine zcallVV (pc := 12) (As := [pI 3, pI 40]) (st := []) (c := 20) (j := 0) hF (m_X0_beginIf  q4) w_X0_beginIf k_0_52 (by decide +kernel) rfl rfl rfl rfl rfl rfl rfl ?_
  refine zrun hF [(.aload_n 0, 1, pI 0), (.iconst 2, 1, pI 2), (.bipush 30, 2, pI 30)] 15 _ (by decide +kernel) ?_
  show zG w f 4 19 ([some (pR 20 0), some (pI a1), none, none], [pI 30, pI 2, pR 20 0], (m6, n))
  obtain ⟨m9, q7, h⟩ := zr_k h
  refine zcallVV (pc := 19) (As := [pI 2, pI 30]) (st := []) (c := 20) (j := 0) hF (m_X0_beginIf  q7) w_X0_beginIf k_0_52 (by decide +kernel) rfl rfl rfl rfl rfl rfl rfl ?_
  refine zrun hF [(.aload_n 0, 1, pI 0), (.bipush 11, 2, pI 11)] 22 _ (by decide +kernel) ?_
  show zG w f 4 25 ([some (pR 20 0), some (pI a1), none, none], [pI 11, pR 20 0], (m9, n))
  obtain ⟨m12, q10, h⟩ := zr_k h
  refine zcallVV (pc := 25) (As := [pI 11]) (st := []) (c := 20) (j := 0) hF (m_X0_begin  q10) w_X0_begin k_0_48 (by decide +kernel) rfl rfl rfl rfl rfl rfl rfl ?_
  refine zrun hF [(.iload_n 1, 1, pI 0), (.istore_n 2, 1, pI 0), (.iload_n 2, 1, pI 0), (.aload_n 0, 1, pI 0), (.iconst 3, 1, pI 3)] 28 _ (by decide +kernel) ?_
  refine (And.intro rfl ?_)
  show zG w f 4 33 ([some (pR 20 0), some (pI a1), some (pI a1), none], [pI 3, pR 20 0, pI a1], (m12, n))
  obtain ⟨r14, q13, h⟩ := zr_k h
  refine zcallVI (pc := 33) (As := [pI 3]) (st := [pI a1]) (c := 20) (j := 0) hF (m_X0_is  q13) w_X0_is k_0_45 (by decide +kernel) rfl rfl rfl rfl rfl rfl rfl ?_
  refine zif_eq (tgt := 43) (pc := 36) hF (by decide +kernel) (fun b15 => ?_) (fun b15 => ?_)
  · replace h := zit b15 h
    refine zrun hF [(.iconst 0, 1, pI 0)] 43 _ (by decide +kernel) ?_
    show zG w f 4 44 ([some (pR 20 0), some (pI a1), some (pI a1), none], [pI 0, pI a1], (m12, n))
    refine zcut [true, false, false, true] ?_
    exact m_X0_waitsOf_L44 hl hF hR  _ _ _  h
  · replace h := zif b15 h
    refine zrun hF [(.iconst 1, 1, pI 1)] 39 _ (by decide +kernel) ?_
    show zG w f 4 40 ([some (pR 20 0), some (pI a1), some (pI a1), none], [pI 1, pI a1], (m12, n))
    refine zgoto (tgt := 44) (pc := 40) hF (by decide +kernel) ?_
    refine zcut [true, false, false, true] ?_
    exact m_X0_waitsOf_L44 hl hF hR  _ _ _  h

set_option maxHeartbeats 4000000 in
set_option maxRecDepth 100000 in
theorem m_X0_looksOf_L53 {w : zWd} {f : zFr} {n : zMem} {x : Int32} {m0 : zMem} {lc : Launch} (hl : f.2.1 = lc) (hF : zFOK w f 0 cX0_looksOf 4 5) (hR : zFin w f (some .int) (zQI w x (m0, n))) : ∀ (y0 : Int32) (m : zMem), s_X0_looksOf_L53 y0 m = some (x, m0) → zG w f 4 53 ([some (pR 20 0), none, none, none], [pI y0], (m, n)) := by
  intro y0 m h
  unfold s_X0_looksOf_L53 at h
  refine zrun hF [(.istore_n 3, 1, pI 0), (.aload_n 0, 1, pI 0), (.iconst 5, 1, pI 5)] 53 _ (by decide +kernel) ?_
  refine (And.intro rfl ?_)
  show zG w f 4 56 ([some (pR 20 0), none, none, some (pI y0)], [pI 5, pR 20 0], (m, n))
  obtain ⟨r20, q19, h⟩ := zr_k h
  refine zcallVI (pc := 56) (As := [pI 5]) (st := []) (c := 20) (j := 0) hF (m_X0_is  q19) w_X0_is k_0_45 (by decide +kernel) rfl rfl rfl rfl rfl rfl rfl ?_
  refine zif_eq (tgt := 68) (pc := 59) hF (by decide +kernel) (fun b21 => ?_) (fun b21 => ?_)
  · replace h := zit b21 h
    refine zrun hF [(.iload_n 3, 1, pI 0)] 68 _ (by decide +kernel) ?_
    show zG w f 4 69 ([some (pR 20 0), none, none, some (pI y0)], [pI y0], (m, n))
    exact zretI (pc := 69) hF hR (by decide +kernel) rfl (congrArg Prod.fst (Option.some.inj h)) (congrArg (fun (q : Int32 × zMem) => (q.2, n)) (Option.some.inj h))
  · replace h := zif b21 h
    refine zrun hF [(.iload_n 3, 1, pI 0), (.iconst 5, 1, pI 5), (.ixor, 1, pI 0)] 62 _ (by decide +kernel) ?_
    show zG w f 4 65 ([some (pR 20 0), none, none, some (pI y0)], [pI (y0 ^^^ 5)], (m, n))
    refine zgoto (tgt := 69) (pc := 65) hF (by decide +kernel) ?_
    exact zretI (pc := 69) hF hR (by decide +kernel) rfl (congrArg Prod.fst (Option.some.inj h)) (congrArg (fun (q : Int32 × zMem) => (q.2, n)) (Option.some.inj h))

set_option maxHeartbeats 4000000 in
set_option maxRecDepth 100000 in
theorem m_X0_looksOf {w : zWd} {lc : Launch} {n : zMem} {a1 : Int32} {m : zMem} {x : Int32} {m0 : zMem}  (h : s_X0_looksOf a1 m = some (x, m0)) : zMet w lc 5 yX0_looksOf cX0_looksOf 4 (some .int) [pR 20 0, pI a1] (m, n) (zQI w x (m0, n)) := by
  refine zmet (o := 0) (by decide +kernel) rfl (Nat.le_of_ble_eq_true rfl) rfl (fun f hl hF hR => ?_)
  unfold s_X0_looksOf at h
  show zG w f 4 0 ([some (pR 20 0), some (pI a1), none, none], [], (m, n))
  refine zrun hF [(.aload_n 0, 1, pI 0), (.iconst 5, 1, pI 5), (.bipush 60, 2, pI 60)] 0 _ (by decide +kernel) ?_
  show zG w f 4 4 ([some (pR 20 0), some (pI a1), none, none], [pI 60, pI 5, pR 20 0], (m, n))
  obtain ⟨m3, q1, h⟩ := zr_k h
  refine zcallVV (pc := 4) (As := [pI 5, pI 60]) (st := []) (c := 20) (j := 0) hF (m_X0_beginIf  q1) w_X0_beginIf k_0_52 (by decide +kernel) rfl rfl rfl rfl rfl rfl rfl ?_
  refine zrun hF [(.aload_n 0, 1, pI 0), (.iconst 4, 1, pI 4), (.bipush 50, 2, pI 50)] 7 _ (by decide +kernel) ?_
  show zG w f 4 11 ([some (pR 20 0), some (pI a1), none, none], [pI 50, pI 4, pR 20 0], (m3, n))
  obtain ⟨m6, q4, h⟩ := zr_k h
  refine zcallVV (pc := 11) (As := [pI 4, pI 50]) (st := []) (c := 20) (j := 0) hF (m_X0_beginIf  q4) w_X0_beginIf k_0_52 (by decide +kernel) rfl rfl rfl rfl rfl rfl rfl ?_
  refine zrun hF [(.aload_n 0, 1, pI 0), (.bipush 12, 2, pI 12)] 14 _ (by decide +kernel) ?_
  show zG w f 4 17 ([some (pR 20 0), some (pI a1), none, none], [pI 12, pR 20 0], (m6, n))
  obtain ⟨m9, q7, h⟩ := zr_k h
  refine zcallVV (pc := 17) (As := [pI 12]) (st := []) (c := 20) (j := 0) hF (m_X0_begin  q7) w_X0_begin k_0_48 (by decide +kernel) rfl rfl rfl rfl rfl rfl rfl ?_
  refine zrun hF [(.aload_n 0, 1, pI 0), (.iload_n 1, 1, pI 0)] 20 _ (by decide +kernel) ?_
  show zG w f 4 22 ([some (pR 20 0), some (pI a1), none, none], [pI a1, pR 20 0], (m9, n))
  obtain ⟨r11, m12, q10, h⟩ := zb_k h
  refine zcallVI (pc := 22) (As := [pI a1]) (st := []) (c := 20) (j := 0) hF (m_X0_waitsOf  q10) w_X0_waitsOf k_0_39 (by decide +kernel) rfl rfl rfl rfl rfl rfl rfl ?_
  refine zrun hF [(.istore_n 2, 1, pI 0), (.iload_n 2, 1, pI 0), (.aload_n 0, 1, pI 0), (.iload_n 1, 1, pI 0), (.aload_n 0, 1, pI 0), (.getfield 25, 3, pR 20 4), (.isub, 1, pI 0)] 25 _ (by decide +kernel) ?_
  refine (And.intro rfl (And.intro rfl (And.intro rfl ?_)))
  show zG w f 4 34 ([some (pR 20 0), some (pI a1), some (pI r11), none], [pI (a1 - (m12.1 20 0 4)), pR 20 0, pI r11], (m12, n))
  obtain ⟨r14, m15, q13, h⟩ := zb_k h
  refine zcallVI (pc := 34) (As := [pI (a1 - (m12.1 20 0 4))]) (st := [pI r11]) (c := 20) (j := 0) hF (m_X0_clinksOf  q13) w_X0_clinksOf k_0_35 (by decide +kernel) rfl rfl rfl rfl rfl rfl rfl ?_
  refine zrun hF [(.ixor, 1, pI 0), (.istore_n 3, 1, pI 0), (.aload_n 0, 1, pI 0), (.iconst 4, 1, pI 4)] 37 _ (by decide +kernel) ?_
  refine (And.intro rfl ?_)
  show zG w f 4 41 ([some (pR 20 0), some (pI a1), some (pI r11), some (pI (r11 ^^^ r14))], [pI 4, pR 20 0], (m15, n))
  obtain ⟨r17, q16, h⟩ := zr_k h
  refine zcallVI (pc := 41) (As := [pI 4]) (st := []) (c := 20) (j := 0) hF (m_X0_is  q16) w_X0_is k_0_45 (by decide +kernel) rfl rfl rfl rfl rfl rfl rfl ?_
  refine zif_eq (tgt := 52) (pc := 44) hF (by decide +kernel) (fun b18 => ?_) (fun b18 => ?_)
  · replace h := zit b18 h
    refine zrun hF [(.iload_n 3, 1, pI 0)] 52 _ (by decide +kernel) ?_
    show zG w f 4 53 ([some (pR 20 0), some (pI a1), some (pI r11), some (pI (r11 ^^^ r14))], [pI (r11 ^^^ r14)], (m15, n))
    refine zcut [true, false, false, false] ?_
    exact m_X0_looksOf_L53 hl hF hR  _ _  h
  · replace h := zif b18 h
    refine zrun hF [(.iload_n 3, 1, pI 0), (.ineg, 1, pI 0)] 47 _ (by decide +kernel) ?_
    show zG w f 4 49 ([some (pR 20 0), some (pI a1), some (pI r11), some (pI (r11 ^^^ r14))], [pI (-(r11 ^^^ r14))], (m15, n))
    refine zgoto (tgt := 53) (pc := 49) hF (by decide +kernel) ?_
    refine zcut [true, false, false, false] ?_
    exact m_X0_looksOf_L53 hl hF hR  _ _  h

set_option maxHeartbeats 4000000 in
set_option maxRecDepth 100000 in
theorem m_X0_run_L17 {w : zWd} {f : zFr} {n : zMem} {x : Int32} {m0 : zMem} {lc : Launch} (hl : f.2.1 = lc) (hF : zFOK w f 0 cX0_run 6 6) (hR : zFin w f (some .int) (zQI w x (m0, n))) : ∀ (x2 : Int32) (x3 : Int32) (x4 : Int32) (x5 : Int32) (y1 : Int32) (m : zMem), s_X0_run_L17 x2 x3 x4 x5 y1 m = some (x, m0) → zG w f 6 17 ([some (pR 20 0), none, some (pI x2), some (pI x3), some (pI x4), some (pI x5)], [pI y1, pR 20 0], (m, n)) := by
  intro x2 x3 x4 x5 y1 m h
  unfold s_X0_run_L17 at h
  refine zrun hF [(.putfield 19, 3, pR 20 2)] 17 _ (by decide +kernel) ?_
  refine (And.intro rfl (And.intro rfl (And.intro trivial ?_)))
  refine zlet_k (P := fun (m5 : zMem) => zG w f 6 20 ([some (pR 20 0), none, some (pI x2), some (pI x3), some (pI x4), some (pI x5)], [], (m5, n))) h (fun m5 h => ?_)
  refine zrun hF [(.aload_n 0, 1, pI 0), (.iload_n 3, 1, pI 0), (.putfield 22, 3, pR 20 3)] 20 _ (by decide +kernel) ?_
  refine (And.intro rfl (And.intro rfl (And.intro trivial ?_)))
  refine zlet_k (P := fun (m6 : zMem) => zG w f 6 25 ([some (pR 20 0), none, some (pI x2), some (pI x3), some (pI x4), some (pI x5)], [], (m6, n))) h (fun m6 h => ?_)
  refine zrun hF [(.aload_n 0, 1, pI 0), (.iload 4, 2, pI 0), (.putfield 25, 3, pR 20 4)] 25 _ (by decide +kernel) ?_
  refine (And.intro rfl (And.intro rfl (And.intro trivial ?_)))
  refine zlet_k (P := fun (m7 : zMem) => zG w f 6 31 ([some (pR 20 0), none, some (pI x2), some (pI x3), some (pI x4), some (pI x5)], [], (m7, n))) h (fun m7 h => ?_)
  refine zrun hF [(.iload_n 2, 1, pI 0)] 31 _ (by decide +kernel) ?_
  show zG w f 6 32 ([some (pR 20 0), none, some (pI x2), some (pI x3), some (pI x4), some (pI x5)], [pI x2], (m7, n))
  refine zswitch (pc := 32) [(0, 60), (1, 67), (2, 74)] 81 hF (by decide +kernel) ?_
  refine And.intro (fun b8 => ?_) (fun b8 => ?_)
  · replace h := zit b8 h
    refine zrun hF [(.aload_n 0, 1, pI 0), (.iload 5, 2, pI 0)] 60 _ (by decide +kernel) ?_
    show zG w f 6 63 ([some (pR 20 0), none, some (pI x2), some (pI x3), some (pI x4), some (pI x5)], [pI x5, pR 20 0], (m7, n))
    obtain ⟨r10, m11, q9, h⟩ := zb_k h
    refine zcallVI (pc := 63) (As := [pI x5]) (st := []) (c := 20) (j := 0) hF (m_X0_clinksOf  q9) w_X0_clinksOf k_0_35 (by decide +kernel) rfl rfl rfl rfl rfl rfl rfl ?_
    exact zretI (pc := 66) hF hR (by decide +kernel) rfl (congrArg Prod.fst (Option.some.inj h)) (congrArg (fun (q : Int32 × zMem) => (q.2, n)) (Option.some.inj h))
  · replace h := zif b8 h
    refine And.intro (fun b12 => ?_) (fun b12 => ?_)
    · replace h := zit b12 h
      refine zrun hF [(.aload_n 0, 1, pI 0), (.iload 5, 2, pI 0)] 67 _ (by decide +kernel) ?_
      show zG w f 6 70 ([some (pR 20 0), none, some (pI x2), some (pI x3), some (pI x4), some (pI x5)], [pI x5, pR 20 0], (m7, n))
      obtain ⟨r14, m15, q13, h⟩ := zb_k h
      refine zcallVI (pc := 70) (As := [pI x5]) (st := []) (c := 20) (j := 0) hF (m_X0_waitsOf  q13) w_X0_waitsOf k_0_39 (by decide +kernel) rfl rfl rfl rfl rfl rfl rfl ?_
      exact zretI (pc := 73) hF hR (by decide +kernel) rfl (congrArg Prod.fst (Option.some.inj h)) (congrArg (fun (q : Int32 × zMem) => (q.2, n)) (Option.some.inj h))
    · replace h := zif b12 h
      refine And.intro (fun b16 => ?_) (fun b16 => ?_)
      · replace h := zit b16 h
        refine zrun hF [(.aload_n 0, 1, pI 0), (.iload 5, 2, pI 0)] 74 _ (by decide +kernel) ?_
        show zG w f 6 77 ([some (pR 20 0), none, some (pI x2), some (pI x3), some (pI x4), some (pI x5)], [pI x5, pR 20 0], (m7, n))
        obtain ⟨r18, m19, q17, h⟩ := zb_k h
        refine zcallVI (pc := 77) (As := [pI x5]) (st := []) (c := 20) (j := 0) hF (m_X0_looksOf  q17) w_X0_looksOf k_0_42 (by decide +kernel) rfl rfl rfl rfl rfl rfl rfl ?_
        exact zretI (pc := 80) hF hR (by decide +kernel) rfl (congrArg Prod.fst (Option.some.inj h)) (congrArg (fun (q : Int32 × zMem) => (q.2, n)) (Option.some.inj h))
      · replace h := zif b16 h
        refine zrun hF [(.iconst 0, 1, pI 0)] 81 _ (by decide +kernel) ?_
        show zG w f 6 82 ([some (pR 20 0), none, some (pI x2), some (pI x3), some (pI x4), some (pI x5)], [pI 0], (m7, n))
        exact zretI (pc := 82) hF hR (by decide +kernel) rfl (congrArg Prod.fst (Option.some.inj h)) (congrArg (fun (q : Int32 × zMem) => (q.2, n)) (Option.some.inj h))

set_option maxHeartbeats 4000000 in
set_option maxRecDepth 100000 in
theorem m_X0_run {w : zWd} {lc : Launch} {n : zMem} {a1 : Int32} {a2 : Int32} {a3 : Int32} {a4 : Int32} {a5 : Int32} {m : zMem} {x : Int32} {m0 : zMem}  (h : s_X0_run a1 a2 a3 a4 a5 m = some (x, m0)) : zMet w lc 6 yX0_run cX0_run 6 (some .int) [pR 20 0, pI a1, pI a2, pI a3, pI a4, pI a5] (m, n) (zQI w x (m0, n)) := by
  refine zmet (o := 0) (by decide +kernel) rfl (Nat.le_of_ble_eq_true rfl) rfl (fun f hl hF hR => ?_)
  unfold s_X0_run at h
  show zG w f 6 0 ([some (pR 20 0), some (pI a1), some (pI a2), some (pI a3), some (pI a4), some (pI a5)], [], (m, n))
  refine zrun hF [(.aload_n 0, 1, pI 0), (.iload_n 1, 1, pI 0)] 0 _ (by decide +kernel) ?_
  show zG w f 6 2 ([some (pR 20 0), some (pI a1), some (pI a2), some (pI a3), some (pI a4), some (pI a5)], [pI a1, pR 20 0], (m, n))
  obtain ⟨r2, q1, h⟩ := zr_k h
  refine zcallNI (pc := 2) (As := [pI a1]) (st := [pR 20 0]) hF (m_X6_isKind  q1) w_X6_isKind k_0_28 (by decide +kernel) rfl rfl rfl rfl ?_
  refine zif_eq (tgt := 16) (pc := 5) hF (by decide +kernel) (fun b3 => ?_) (fun b3 => ?_)
  · replace h := zit b3 h
    refine zrun hF [(.iconst 0, 1, pI 0)] 16 _ (by decide +kernel) ?_
    show zG w f 6 17 ([some (pR 20 0), some (pI a1), some (pI a2), some (pI a3), some (pI a4), some (pI a5)], [pI 0, pR 20 0], (m, n))
    refine zcut [true, false, true, true, true, true] ?_
    exact m_X0_run_L17 hl hF hR  _ _ _ _ _ _  h
  · replace h := zif b3 h
    obtain ⟨c4, h⟩ := zchk h
    refine zrun hF [(.getstatic 32, 3, pI 0), (.iload_n 1, 1, pI 0), (.iaload, 1, pI 0)] 8 _ (by decide +kernel) ?_
    refine (And.intro rfl (And.intro c4 ?_))
    show zG w f 6 13 ([some (pR 20 0), some (pI a1), some (pI a2), some (pI a3), some (pI a4), some (pI a5)], [pI (zLN.getD (ix a1) 0), pR 20 0], (m, n))
    refine zgoto (tgt := 17) (pc := 13) hF (by decide +kernel) ?_
    refine zcut [true, false, true, true, true, true] ?_
    exact m_X0_run_L17 hl hF hR  _ _ _ _ _ _  h

set_option maxHeartbeats 4000000 in
set_option maxRecDepth 100000 in
theorem m_X6_act {w : zWd} {lc : Launch} {n : zMem} {a1 : Int32} {a2 : Int32} {a3 : Int32} {m : zMem} {x : Int32} {m0 : zMem}  (h : s_X6_act a1 a2 a3 m = some (x, m0)) : zMet w lc 7 yX6_act cX6_act 4 (some .int) [pR 0 0, pI a1, pI a2, pI a3] (m, n) (zQI w x (m0, n)) := by
  refine zmet (o := 6) (by decide +kernel) rfl (Nat.le_of_ble_eq_true rfl) rfl (fun f hl hF hR => ?_)
  unfold s_X6_act at h
  show zG w f 4 0 ([some (pR 0 0), some (pI a1), some (pI a2), some (pI a3)], [], (m, n))
  refine zrun hF [(.aload_n 0, 1, pI 0), (.getfield 56, 3, pR 0 8)] 0 _ (by decide +kernel) ?_
  refine (And.intro rfl (And.intro rfl ?_))
  show zG w f 4 4 ([some (pR 0 0), some (pI a1), some (pI a2), some (pI a3)], [pR 20 0], (m, n))
  obtain ⟨m3, q1, h⟩ := zr_k h
  refine zcallVV (pc := 4) (As := []) (st := []) (c := 20) (j := 0) hF (m_X0_forget  q1) w_X0_forget k_6_341 (by decide +kernel) rfl rfl rfl rfl rfl rfl rfl ?_
  refine zrun hF [(.aload_n 0, 1, pI 0), (.getfield 10, 3, pR 0 0), (.iload_n 1, 1, pI 0)] 7 _ (by decide +kernel) ?_
  refine (And.intro rfl (And.intro rfl ?_))
  show zG w f 4 12 ([some (pR 0 0), some (pI a1), some (pI a2), some (pI a3)], [pI a1, pR 1 0], (m3, n))
  obtain ⟨r5, q4, h⟩ := zr_k h
  refine zcallVI (pc := 12) (As := [pI a1]) (st := []) (c := 1) (j := 0) hF (m_X5_exists rfl q4) w_X5_exists k_6_119 (by decide +kernel) rfl rfl rfl rfl rfl rfl rfl ?_
  refine zif_ne (tgt := 20) (pc := 15) hF (by decide +kernel) (fun b6 => ?_) (fun b6 => ?_)
  · replace h := zit b6 h
    refine zrun hF [(.iconst 0, 1, pI 0)] 18 _ (by decide +kernel) ?_
    show zG w f 4 19 ([some (pR 0 0), some (pI a1), some (pI a2), some (pI a3)], [pI 0], (m3, n))
    exact zretI (pc := 19) hF hR (by decide +kernel) rfl (congrArg Prod.fst (Option.some.inj h)) (congrArg (fun (q : Int32 × zMem) => (q.2, n)) (Option.some.inj h))
  · replace h := zif b6 h
    obtain ⟨c7, h⟩ := zchk h
    refine zrun hF [(.aload_n 0, 1, pI 0), (.getfield 56, 3, pR 0 8), (.aload_n 0, 1, pI 0), (.getfield 10, 3, pR 0 0), (.getfield 151, 3, pR 1 0), (.iload_n 1, 1, pI 0), (.iaload, 1, pI 0), (.iload_n 2, 1, pI 0), (.iload_n 1, 1, pI 0), (.aload_n 0, 1, pI 0), (.getfield 10, 3, pR 0 0), (.getfield 157, 3, pR 1 2), (.iload_n 1, 1, pI 0), (.iaload, 1, pI 0), (.iload_n 3, 1, pI 0)] 20 _ (by decide +kernel) ?_
    refine (And.intro rfl (And.intro rfl (And.intro rfl (And.intro rfl (And.intro rfl (And.intro rfl (And.intro rfl (And.intro rfl (And.intro c7 (And.intro rfl (And.intro rfl (And.intro rfl (And.intro rfl (And.intro rfl (And.intro rfl (And.intro c7 ?_))))))))))))))))
    show zG w f 4 45 ([some (pR 0 0), some (pI a1), some (pI a2), some (pI a3)], [pI a3, pI (m3.1 4 0 (ix a1)), pI a1, pI a2, pI (m3.1 2 0 (ix a1)), pR 20 0], (m3, n))
    obtain ⟨r9, m10, q8, h⟩ := zb_k h
    refine zcallVI (pc := 45) (As := [pI (m3.1 2 0 (ix a1)), pI a2, pI a1, pI (m3.1 4 0 (ix a1)), pI a3]) (st := []) (c := 20) (j := 0) hF (m_X0_run  q8) w_X0_run k_6_344 (by decide +kernel) rfl rfl rfl rfl rfl rfl rfl ?_
    exact zretI (pc := 48) hF hR (by decide +kernel) rfl (congrArg Prod.fst (Option.some.inj h)) (congrArg (fun (q : Int32 × zMem) => (q.2, n)) (Option.some.inj h))

set_option maxHeartbeats 4000000 in
set_option maxRecDepth 100000 in
theorem m_X7_body_L19 {w : zWd} {f : zFr} {n : zMem} {m0 : zMem} {lc : Launch} (hl : f.2.1 = lc) (hF : zFOK w f 7 cX7_body 2 1) (hR : zFin w f none (zQV w (n, m0))) : ∀ (m : zMem), s_X7_body_L19 m = some m0 → zG w f 2 19 ([some (pR 64 0), none], [], (n, m)) := by
  intro m h
  unfold s_X7_body_L19 at h
  refine zrun hF [(.aload_n 0, 1, pI 0), (.dup, 1, pI 0), (.getfield 296, 3, pR 64 40), (.iconst 1, 1, pI 1), (.iadd, 1, pI 0), (.putfield 296, 3, pR 64 40)] 19 _ (by decide +kernel) ?_
  refine (And.intro rfl (And.intro rfl (And.intro rfl (And.intro rfl (And.intro rfl (And.intro trivial ?_))))))
  refine zlet_k (P := fun (m4 : zMem) => zG w f 2 29 ([some (pR 64 0), none], [], (n, m4))) h (fun m4 h => ?_)
  exact zretV (pc := 29) hF hR (by decide +kernel) (congrArg (fun q => (n, q)) (Option.some.inj h))

set_option maxHeartbeats 4000000 in
set_option maxRecDepth 100000 in
theorem m_X7_body {w : zWd} {lc : Launch} {n : zMem} {a1 : Int32} {m : zMem} {m0 : zMem}  (h : s_X7_body a1 m = some m0) : zMet w lc 1 yX7_body cX7_body 2 none [pR 64 0, pI a1] (n, m) (zQV w (n, m0)) := by
  refine zmet (o := 7) (by decide +kernel) rfl (Nat.le_of_ble_eq_true rfl) rfl (fun f hl hF hR => ?_)
  unfold s_X7_body at h
  show zG w f 2 0 ([some (pR 64 0), some (pI a1)], [], (n, m))
  refine zrun hF [(.aload_n 0, 1, pI 0), (.getfield 296, 3, pR 64 40), (.bipush 20, 2, pI 20)] 0 _ (by decide +kernel) ?_
  refine (And.intro rfl (And.intro rfl ?_))
  show zG w f 2 6 ([some (pR 64 0), some (pI a1)], [pI 20, pI (m.1 64 0 40)], (n, m))
  refine zicmp_ge (tgt := 19) (pc := 6) hF (by decide +kernel) (fun b1 => ?_) (fun b1 => ?_)
  · replace h := zit b1 h
    refine zcut [true, false] ?_
    exact m_X7_body_L19 hl hF hR  _  h
  · replace h := zif b1 h
    obtain ⟨c2, h⟩ := zchk h
    refine zrun hF [(.aload_n 0, 1, pI 0), (.getfield 90, 3, pR 64 39), (.aload_n 0, 1, pI 0), (.getfield 296, 3, pR 64 40), (.iload_n 1, 1, pI 0), (.iastore, 1, pI 0)] 9 _ (by decide +kernel) ?_
    refine (And.intro rfl (And.intro rfl (And.intro rfl (And.intro rfl (And.intro rfl (And.intro rfl (And.intro c2 ?_)))))))
    refine zlet_k (P := fun (m3 : zMem) => zG w f 2 19 ([some (pR 64 0), some (pI a1)], [], (n, m3))) h (fun m3 h => ?_)
    refine zcut [true, false] ?_
    exact m_X7_body_L19 hl hF hR  _  h

set_option maxHeartbeats 4000000 in
set_option maxRecDepth 100000 in
theorem m_X7_clinking_L101 {w : zWd} {f : zFr} {n : zMem} {x : Int32} {m0 : zMem} {lc : Launch} (hl : f.2.1 = lc) (hF : zFOK w f 7 cX7_clinking 5 2) (hR : zFin w f (some .int) (zQI w x (n, m0))) : ∀ (x3 : Int32) (x4 : Int32) (m : zMem), s_X7_clinking_L101 x3 x4 m = some (x, m0) → zG w f 5 101 ([none, none, none, some (pI x3), some (pI x4)], [], (n, m)) := by
  intro x3 x4 m h
  unfold s_X7_clinking_L101 at h
  refine zrun hF [(.iload_n 3, 1, pI 0), (.bipush 6, 2, pI 6)] 101 _ (by decide +kernel) ?_
  show zG w f 5 104 ([none, none, none, some (pI x3), some (pI x4)], [pI 6, pI x3], (n, m))
  refine zicmp_ne (tgt := 114) (pc := 104) hF (by decide +kernel) (fun b26 => ?_) (fun b26 => ?_)
  · replace h := zit b26 h
    refine zrun hF [(.iload 4, 2, pI 0), (.iconst 2, 1, pI 2), (.imul, 1, pI 0)] 107 _ (by decide +kernel) ?_
    show zG w f 5 111 ([none, none, none, some (pI x3), some (pI x4)], [pI (x4 * 2)], (n, m))
    refine zgoto (tgt := 116) (pc := 111) hF (by decide +kernel) ?_
    exact zretI (pc := 116) hF hR (by decide +kernel) rfl (congrArg Prod.fst (Option.some.inj h)) (congrArg (fun (q : Int32 × zMem) => (n, q.2)) (Option.some.inj h))
  · replace h := zif b26 h
    refine zrun hF [(.iload 4, 2, pI 0)] 114 _ (by decide +kernel) ?_
    show zG w f 5 116 ([none, none, none, some (pI x3), some (pI x4)], [pI x4], (n, m))
    exact zretI (pc := 116) hF hR (by decide +kernel) rfl (congrArg Prod.fst (Option.some.inj h)) (congrArg (fun (q : Int32 × zMem) => (n, q.2)) (Option.some.inj h))

set_option maxHeartbeats 4000000 in
set_option maxRecDepth 100000 in
theorem m_X7_clinking_L95 {w : zWd} {f : zFr} {n : zMem} {x : Int32} {m0 : zMem} {lc : Launch} (hl : f.2.1 = lc) (hF : zFOK w f 7 cX7_clinking 5 2) (hR : zFin w f (some .int) (zQI w x (n, m0))) : ∀ (x1 : Int32) (x3 : Int32) (x4 : Int32) (m : zMem), s_X7_clinking_L95 x1 x3 x4 m = some (x, m0) → zG w f 5 95 ([none, some (pI x1), none, some (pI x3), some (pI x4)], [], (n, m)) := by
  intro x1 x3 x4 m h
  unfold s_X7_clinking_L95 at h
  refine zrun hF [(.iload 4, 2, pI 0), (.iload_n 1, 1, pI 0), (.isub, 1, pI 0), (.istore 4, 2, pI 0)] 95 _ (by decide +kernel) ?_
  refine (And.intro rfl ?_)
  show zG w f 5 101 ([none, some (pI x1), none, some (pI x3), some (pI (x4 - x1))], [], (n, m))
  refine zcut [true, false, true, true, true] ?_
  exact m_X7_clinking_L101 hl hF hR  _ _ _  h

set_option maxHeartbeats 4000000 in
set_option maxRecDepth 100000 in
theorem m_X7_clinking_L84 {w : zWd} {f : zFr} {n : zMem} {x : Int32} {m0 : zMem} {lc : Launch} (hl : f.2.1 = lc) (hF : zFOK w f 7 cX7_clinking 5 2) (hR : zFin w f (some .int) (zQI w x (n, m0))) : ∀ (x1 : Int32) (x3 : Int32) (x4 : Int32) (m : zMem), s_X7_clinking_L84 x1 x3 x4 m = some (x, m0) → zG w f 5 84 ([none, some (pI x1), none, some (pI x3), some (pI x4)], [], (n, m)) := by
  intro x1 x3 x4 m h
  unfold s_X7_clinking_L84 at h
  refine zrun hF [(.iload_n 3, 1, pI 0), (.iconst 4, 1, pI 4)] 84 _ (by decide +kernel) ?_
  show zG w f 5 86 ([none, some (pI x1), none, some (pI x3), some (pI x4)], [pI 4, pI x3], (n, m))
  refine zicmp_eq (tgt := 95) (pc := 86) hF (by decide +kernel) (fun b24 => ?_) (fun b24 => ?_)
  · replace h := zit b24 h
    exact m_X7_clinking_L95 hl hF hR  _ _ _ _  h
  · replace h := zif b24 h
    refine zrun hF [(.iload_n 3, 1, pI 0), (.bipush 6, 2, pI 6)] 89 _ (by decide +kernel) ?_
    show zG w f 5 92 ([none, some (pI x1), none, some (pI x3), some (pI x4)], [pI 6, pI x3], (n, m))
    refine zicmp_ne (tgt := 101) (pc := 92) hF (by decide +kernel) (fun b25 => ?_) (fun b25 => ?_)
    · replace h := zit b25 h
      exact m_X7_clinking_L95 hl hF hR  _ _ _ _  h
    · replace h := zif b25 h
      refine zcut [true, false, true, true, true] ?_
      exact m_X7_clinking_L101 hl hF hR  _ _ _  h

set_option maxHeartbeats 4000000 in
set_option maxRecDepth 100000 in
theorem m_X7_clinking_L73 {w : zWd} {f : zFr} {n : zMem} {x : Int32} {m0 : zMem} {lc : Launch} (hl : f.2.1 = lc) (hF : zFOK w f 7 cX7_clinking 5 2) (hR : zFin w f (some .int) (zQI w x (n, m0))) : ∀ (x1 : Int32) (x3 : Int32) (x4 : Int32) (m : zMem), s_X7_clinking_L73 x1 x3 x4 m = some (x, m0) → zG w f 5 73 ([some (pR 64 0), some (pI x1), none, some (pI x3), some (pI x4)], [], (n, m)) := by
  intro x1 x3 x4 m h
  unfold s_X7_clinking_L73 at h
  obtain ⟨c22, h⟩ := zchk h
  refine zrun hF [(.iload 4, 2, pI 0), (.aload_n 0, 1, pI 0), (.getfield 26, 3, pR 64 9), (.iload_n 1, 1, pI 0), (.iaload, 1, pI 0), (.iadd, 1, pI 0), (.istore 4, 2, pI 0)] 73 _ (by decide +kernel) ?_
  refine (And.intro rfl (And.intro rfl (And.intro rfl (And.intro rfl (And.intro c22 (And.intro rfl ?_))))))
  refine zlet_k (P := fun (v23 : Int32) => zG w f 5 84 ([some (pR 64 0), some (pI x1), none, some (pI x3), some (pI v23)], [], (n, m))) h (fun v23 h => ?_)
  refine zcut [false, true, true, true, true] ?_
  exact m_X7_clinking_L84 hl hF hR  _ _ _ _  h

set_option maxHeartbeats 4000000 in
set_option maxRecDepth 100000 in
theorem m_X7_clinking_L52 {w : zWd} {f : zFr} {n : zMem} {x : Int32} {m0 : zMem} {lc : Launch} (hl : f.2.1 = lc) (hF : zFOK w f 7 cX7_clinking 5 2) (hR : zFin w f (some .int) (zQI w x (n, m0))) : ∀ (x1 : Int32) (x2 : Int32) (x3 : Int32) (m : zMem), s_X7_clinking_L52 x1 x2 x3 m = some (x, m0) → zG w f 5 52 ([some (pR 64 0), some (pI x1), some (pI x2), some (pI x3), none], [], (n, m)) := by
  intro x1 x2 x3 m h
  unfold s_X7_clinking_L52 at h
  refine zrun hF [(.aload_n 0, 1, pI 0), (.bipush 10, 2, pI 10)] 52 _ (by decide +kernel) ?_
  show zG w f 5 55 ([some (pR 64 0), some (pI x1), some (pI x2), some (pI x3), none], [pI 10, pR 64 0], (n, m))
  obtain ⟨m19, q17, h⟩ := zr_k h
  refine zcallVV (pc := 55) (As := [pI 10]) (st := []) (c := 64) (j := 0) hF (m_X7_body  q17) w_X7_body k_7_299 (by decide +kernel) rfl rfl rfl rfl rfl rfl rfl ?_
  refine zrun hF [(.iload_n 2, 1, pI 0), (.iload_n 1, 1, pI 0), (.iadd, 1, pI 0), (.istore 4, 2, pI 0), (.iload_n 3, 1, pI 0), (.iconst 1, 1, pI 1)] 58 _ (by decide +kernel) ?_
  refine (And.intro rfl ?_)
  show zG w f 5 65 ([some (pR 64 0), some (pI x1), some (pI x2), some (pI x3), some (pI (x2 + x1))], [pI 1, pI x3], (n, m19))
  refine zicmp_eq (tgt := 73) (pc := 65) hF (by decide +kernel) (fun b20 => ?_) (fun b20 => ?_)
  · replace h := zit b20 h
    refine zcut [true, true, false, true, true] ?_
    exact m_X7_clinking_L73 hl hF hR  _ _ _ _  h
  · replace h := zif b20 h
    refine zrun hF [(.iload_n 3, 1, pI 0), (.iconst 3, 1, pI 3)] 68 _ (by decide +kernel) ?_
    show zG w f 5 70 ([some (pR 64 0), some (pI x1), some (pI x2), some (pI x3), some (pI (x2 + x1))], [pI 3, pI x3], (n, m19))
    refine zicmp_ne (tgt := 84) (pc := 70) hF (by decide +kernel) (fun b21 => ?_) (fun b21 => ?_)
    · replace h := zit b21 h
      refine zcut [true, true, false, true, true] ?_
      exact m_X7_clinking_L73 hl hF hR  _ _ _ _  h
    · replace h := zif b21 h
      refine zcut [false, true, false, true, true] ?_
      exact m_X7_clinking_L84 hl hF hR  _ _ _ _  h

set_option maxHeartbeats 4000000 in
set_option maxRecDepth 100000 in
theorem m_X7_clinking_L46 {w : zWd} {f : zFr} {n : zMem} {x : Int32} {m0 : zMem} {lc : Launch} (hl : f.2.1 = lc) (hF : zFOK w f 7 cX7_clinking 5 2) (hR : zFin w f (some .int) (zQI w x (n, m0))) : ∀ (x1 : Int32) (x2 : Int32) (x3 : Int32) (m : zMem), s_X7_clinking_L46 x1 x2 x3 m = some (x, m0) → zG w f 5 46 ([some (pR 64 0), some (pI x1), some (pI x2), some (pI x3), none], [], (n, m)) := by
  intro x1 x2 x3 m h
  unfold s_X7_clinking_L46 at h
  refine zrun hF [(.aload_n 0, 1, pI 0), (.bipush 20, 2, pI 20)] 46 _ (by decide +kernel) ?_
  show zG w f 5 49 ([some (pR 64 0), some (pI x1), some (pI x2), some (pI x3), none], [pI 20, pR 64 0], (n, m))
  obtain ⟨m16, q14, h⟩ := zr_k h
  refine zcallVV (pc := 49) (As := [pI 20]) (st := []) (c := 64) (j := 0) hF (m_X7_body  q14) w_X7_body k_7_299 (by decide +kernel) rfl rfl rfl rfl rfl rfl rfl ?_
  exact m_X7_clinking_L52 hl hF hR  _ _ _ _  h

set_option maxHeartbeats 4000000 in
set_option maxRecDepth 100000 in
theorem m_X7_clinking_L36 {w : zWd} {f : zFr} {n : zMem} {x : Int32} {m0 : zMem} {lc : Launch} (hl : f.2.1 = lc) (hF : zFOK w f 7 cX7_clinking 5 2) (hR : zFin w f (some .int) (zQI w x (n, m0))) : ∀ (x1 : Int32) (x2 : Int32) (x3 : Int32) (m : zMem), s_X7_clinking_L36 x1 x2 x3 m = some (x, m0) → zG w f 5 36 ([some (pR 64 0), some (pI x1), some (pI x2), some (pI x3), none], [], (n, m)) := by
  intro x1 x2 x3 m h
  unfold s_X7_clinking_L36 at h
  refine zrun hF [(.iload_n 3, 1, pI 0), (.iconst 1, 1, pI 1)] 36 _ (by decide +kernel) ?_
  show zG w f 5 38 ([some (pR 64 0), some (pI x1), some (pI x2), some (pI x3), none], [pI 1, pI x3], (n, m))
  refine zicmp_eq (tgt := 46) (pc := 38) hF (by decide +kernel) (fun b12 => ?_) (fun b12 => ?_)
  · replace h := zit b12 h
    exact m_X7_clinking_L46 hl hF hR  _ _ _ _  h
  · replace h := zif b12 h
    refine zrun hF [(.iload_n 3, 1, pI 0), (.iconst 3, 1, pI 3)] 41 _ (by decide +kernel) ?_
    show zG w f 5 43 ([some (pR 64 0), some (pI x1), some (pI x2), some (pI x3), none], [pI 3, pI x3], (n, m))
    refine zicmp_ne (tgt := 52) (pc := 43) hF (by decide +kernel) (fun b13 => ?_) (fun b13 => ?_)
    · replace h := zit b13 h
      exact m_X7_clinking_L46 hl hF hR  _ _ _ _  h
    · replace h := zif b13 h
      exact m_X7_clinking_L52 hl hF hR  _ _ _ _  h

set_option maxHeartbeats 4000000 in
set_option maxRecDepth 100000 in
theorem m_X7_clinking_L30 {w : zWd} {f : zFr} {n : zMem} {x : Int32} {m0 : zMem} {lc : Launch} (hl : f.2.1 = lc) (hF : zFOK w f 7 cX7_clinking 5 2) (hR : zFin w f (some .int) (zQI w x (n, m0))) : ∀ (x1 : Int32) (x2 : Int32) (x3 : Int32) (m : zMem), s_X7_clinking_L30 x1 x2 x3 m = some (x, m0) → zG w f 5 30 ([some (pR 64 0), some (pI x1), some (pI x2), some (pI x3), none], [], (n, m)) := by
  intro x1 x2 x3 m h
  unfold s_X7_clinking_L30 at h
  refine zrun hF [(.aload_n 0, 1, pI 0), (.bipush 51, 2, pI 51)] 30 _ (by decide +kernel) ?_
  show zG w f 5 33 ([some (pR 64 0), some (pI x1), some (pI x2), some (pI x3), none], [pI 51, pR 64 0], (n, m))
  obtain ⟨m11, q9, h⟩ := zr_k h
  refine zcallVV (pc := 33) (As := [pI 51]) (st := []) (c := 64) (j := 0) hF (m_X7_body  q9) w_X7_body k_7_299 (by decide +kernel) rfl rfl rfl rfl rfl rfl rfl ?_
  exact m_X7_clinking_L36 hl hF hR  _ _ _ _  h

set_option maxHeartbeats 4000000 in
set_option maxRecDepth 100000 in
theorem m_X7_clinking_L19 {w : zWd} {f : zFr} {n : zMem} {x : Int32} {m0 : zMem} {lc : Launch} (hl : f.2.1 = lc) (hF : zFOK w f 7 cX7_clinking 5 2) (hR : zFin w f (some .int) (zQI w x (n, m0))) : ∀ (x1 : Int32) (x2 : Int32) (x3 : Int32) (m : zMem), s_X7_clinking_L19 x1 x2 x3 m = some (x, m0) → zG w f 5 19 ([some (pR 64 0), some (pI x1), some (pI x2), some (pI x3), none], [], (n, m)) := by
  intro x1 x2 x3 m h
  unfold s_X7_clinking_L19 at h
  refine zrun hF [(.iload_n 3, 1, pI 0), (.iconst 4, 1, pI 4)] 19 _ (by decide +kernel) ?_
  show zG w f 5 21 ([some (pR 64 0), some (pI x1), some (pI x2), some (pI x3), none], [pI 4, pI x3], (n, m))
  refine zicmp_eq (tgt := 30) (pc := 21) hF (by decide +kernel) (fun b7 => ?_) (fun b7 => ?_)
  · replace h := zit b7 h
    exact m_X7_clinking_L30 hl hF hR  _ _ _ _  h
  · replace h := zif b7 h
    refine zrun hF [(.iload_n 3, 1, pI 0), (.bipush 6, 2, pI 6)] 24 _ (by decide +kernel) ?_
    show zG w f 5 27 ([some (pR 64 0), some (pI x1), some (pI x2), some (pI x3), none], [pI 6, pI x3], (n, m))
    refine zicmp_ne (tgt := 36) (pc := 27) hF (by decide +kernel) (fun b8 => ?_) (fun b8 => ?_)
    · replace h := zit b8 h
      exact m_X7_clinking_L30 hl hF hR  _ _ _ _  h
    · replace h := zif b8 h
      exact m_X7_clinking_L36 hl hF hR  _ _ _ _  h

set_option maxHeartbeats 4000000 in
set_option maxRecDepth 100000 in
theorem m_X7_clinking {w : zWd} {lc : Launch} {n : zMem} {a1 : Int32} {a2 : Int32} {m : zMem} {x : Int32} {m0 : zMem}  (h : s_X7_clinking a1 a2 m = some (x, m0)) : zMet w lc 2 yX7_clinking cX7_clinking 5 (some .int) [pR 64 0, pI a1, pI a2] (n, m) (zQI w x (n, m0)) := by
  refine zmet (o := 7) (by decide +kernel) rfl (Nat.le_of_ble_eq_true rfl) rfl (fun f hl hF hR => ?_)
  unfold s_X7_clinking at h
  show zG w f 5 0 ([some (pR 64 0), some (pI a1), some (pI a2), none, none], [], (n, m))
  obtain ⟨c1, h⟩ := zchk h
  refine zrun hF [(.aload_n 0, 1, pI 0), (.getfield 23, 3, pR 64 8), (.iload_n 1, 1, pI 0), (.iaload, 1, pI 0), (.istore_n 3, 1, pI 0)] 0 _ (by decide +kernel) ?_
  refine (And.intro rfl (And.intro rfl (And.intro rfl (And.intro rfl (And.intro c1 (And.intro rfl ?_))))))
  refine zlet_k (P := fun (v2 : Int32) => zG w f 5 7 ([some (pR 64 0), some (pI a1), some (pI a2), some (pI v2), none], [], (n, m))) h (fun v2 h => ?_)
  refine zrun hF [(.iload_n 3, 1, pI 0), (.bipush 6, 2, pI 6)] 7 _ (by decide +kernel) ?_
  show zG w f 5 10 ([some (pR 64 0), some (pI a1), some (pI a2), some (pI v2), none], [pI 6, pI v2], (n, m))
  refine zicmp_ne (tgt := 19) (pc := 10) hF (by decide +kernel) (fun b3 => ?_) (fun b3 => ?_)
  · replace h := zit b3 h
    refine zrun hF [(.aload_n 0, 1, pI 0), (.bipush 70, 2, pI 70)] 13 _ (by decide +kernel) ?_
    show zG w f 5 16 ([some (pR 64 0), some (pI a1), some (pI a2), some (pI v2), none], [pI 70, pR 64 0], (n, m))
    obtain ⟨m6, q4, h⟩ := zr_k h
    refine zcallVV (pc := 16) (As := [pI 70]) (st := []) (c := 64) (j := 0) hF (m_X7_body  q4) w_X7_body k_7_299 (by decide +kernel) rfl rfl rfl rfl rfl rfl rfl ?_
    exact m_X7_clinking_L19 hl hF hR  _ _ _ _  h
  · replace h := zif b3 h
    exact m_X7_clinking_L19 hl hF hR  _ _ _ _  h

set_option maxHeartbeats 4000000 in
set_option maxRecDepth 100000 in
theorem m_X7_waiting_L76 {w : zWd} {f : zFr} {n : zMem} {x : Int32} {m0 : zMem} {lc : Launch} (hl : f.2.1 = lc) (hF : zFOK w f 7 cX7_waiting 7 3) (hR : zFin w f (some .int) (zQI w x (n, m0))) : ∀ (x1 : Int32) (x4 : Int32) (x5 : Int32) (m : zMem), s_X7_waiting_L76 x1 x4 x5 m = some (x, m0) → zG w f 7 76 ([some (pR 64 0), some (pI x1), none, none, some (pI x4), some (pI x5), none], [], (n, m)) := by
  intro x1 x4 x5 m h
  unfold s_X7_waiting_L76 at h
  refine zrun hF [(.aload_n 0, 1, pI 0), (.bipush 11, 2, pI 11)] 76 _ (by decide +kernel) ?_
  show zG w f 7 79 ([some (pR 64 0), some (pI x1), none, none, some (pI x4), some (pI x5), none], [pI 11, pR 64 0], (n, m))
  obtain ⟨m20, q18, h⟩ := zr_k h
  refine zcallVV (pc := 79) (As := [pI 11]) (st := []) (c := 64) (j := 0) hF (m_X7_body  q18) w_X7_body k_7_299 (by decide +kernel) rfl rfl rfl rfl rfl rfl rfl ?_
  refine zrun hF [(.aload_n 0, 1, pI 0), (.iload_n 1, 1, pI 0), (.iload 4, 2, pI 0)] 82 _ (by decide +kernel) ?_
  show zG w f 7 86 ([some (pR 64 0), some (pI x1), none, none, some (pI x4), some (pI x5), none], [pI x4, pI x1, pR 64 0], (n, m20))
  obtain ⟨r22, m23, q21, h⟩ := zb_k h
  refine zcallVI (pc := 86) (As := [pI x1, pI x4]) (st := []) (c := 64) (j := 0) hF (m_X7_clinking  q21) w_X7_clinking k_7_303 (by decide +kernel) rfl rfl rfl rfl rfl rfl rfl ?_
  refine zrun hF [(.iconst 2, 1, pI 2), (.imul, 1, pI 0), (.istore 6, 2, pI 0), (.iload 5, 2, pI 0)] 89 _ (by decide +kernel) ?_
  refine (And.intro rfl ?_)
  show zG w f 7 95 ([some (pR 64 0), some (pI x1), none, none, some (pI x4), some (pI x5), some (pI (r22 * 2))], [pI x5], (n, m23))
  refine zif_eq (tgt := 105) (pc := 95) hF (by decide +kernel) (fun b24 => ?_) (fun b24 => ?_)
  · replace h := zit b24 h
    refine zrun hF [(.iload 6, 2, pI 0)] 105 _ (by decide +kernel) ?_
    show zG w f 7 107 ([some (pR 64 0), some (pI x1), none, none, some (pI x4), some (pI x5), some (pI (r22 * 2))], [pI (r22 * 2)], (n, m23))
    exact zretI (pc := 107) hF hR (by decide +kernel) rfl (congrArg Prod.fst (Option.some.inj h)) (congrArg (fun (q : Int32 × zMem) => (n, q.2)) (Option.some.inj h))
  · replace h := zif b24 h
    refine zrun hF [(.iload 6, 2, pI 0), (.iconst 3, 1, pI 3), (.imul, 1, pI 0)] 98 _ (by decide +kernel) ?_
    show zG w f 7 102 ([some (pR 64 0), some (pI x1), none, none, some (pI x4), some (pI x5), some (pI (r22 * 2))], [pI ((r22 * 2) * 3)], (n, m23))
    refine zgoto (tgt := 107) (pc := 102) hF (by decide +kernel) ?_
    exact zretI (pc := 107) hF hR (by decide +kernel) rfl (congrArg Prod.fst (Option.some.inj h)) (congrArg (fun (q : Int32 × zMem) => (n, q.2)) (Option.some.inj h))

set_option maxHeartbeats 4000000 in
set_option maxRecDepth 100000 in
theorem m_X7_waiting_L63 {w : zWd} {f : zFr} {n : zMem} {x : Int32} {m0 : zMem} {lc : Launch} (hl : f.2.1 = lc) (hF : zFOK w f 7 cX7_waiting 7 3) (hR : zFin w f (some .int) (zQI w x (n, m0))) : ∀ (x1 : Int32) (x4 : Int32) (y0 : Int32) (m : zMem), s_X7_waiting_L63 x1 x4 y0 m = some (x, m0) → zG w f 7 63 ([some (pR 64 0), some (pI x1), none, none, some (pI x4), none, none], [pI y0], (n, m)) := by
  intro x1 x4 y0 m h
  unfold s_X7_waiting_L63 at h
  refine zrun hF [(.istore 5, 2, pI 0), (.iload 5, 2, pI 0)] 63 _ (by decide +kernel) ?_
  refine (And.intro rfl ?_)
  show zG w f 7 67 ([some (pR 64 0), some (pI x1), none, none, some (pI x4), some (pI y0), none], [pI y0], (n, m))
  refine zif_eq (tgt := 76) (pc := 67) hF (by decide +kernel) (fun b14 => ?_) (fun b14 => ?_)
  · replace h := zit b14 h
    exact m_X7_waiting_L76 hl hF hR  _ _ _ _  h
  · replace h := zif b14 h
    refine zrun hF [(.aload_n 0, 1, pI 0), (.bipush 30, 2, pI 30)] 70 _ (by decide +kernel) ?_
    show zG w f 7 73 ([some (pR 64 0), some (pI x1), none, none, some (pI x4), some (pI y0), none], [pI 30, pR 64 0], (n, m))
    obtain ⟨m17, q15, h⟩ := zr_k h
    refine zcallVV (pc := 73) (As := [pI 30]) (st := []) (c := 64) (j := 0) hF (m_X7_body  q15) w_X7_body k_7_299 (by decide +kernel) rfl rfl rfl rfl rfl rfl rfl ?_
    exact m_X7_waiting_L76 hl hF hR  _ _ _ _  h

set_option maxHeartbeats 4000000 in
set_option maxRecDepth 100000 in
theorem m_X7_waiting_L58 {w : zWd} {f : zFr} {n : zMem} {x : Int32} {m0 : zMem} {lc : Launch} (hl : f.2.1 = lc) (hF : zFOK w f 7 cX7_waiting 7 3) (hR : zFin w f (some .int) (zQI w x (n, m0))) : ∀ (x1 : Int32) (x4 : Int32) (m : zMem), s_X7_waiting_L58 x1 x4 m = some (x, m0) → zG w f 7 58 ([some (pR 64 0), some (pI x1), none, none, some (pI x4), none, none], [], (n, m)) := by
  intro x1 x4 m h
  unfold s_X7_waiting_L58 at h
  refine zrun hF [(.iconst 1, 1, pI 1)] 58 _ (by decide +kernel) ?_
  show zG w f 7 59 ([some (pR 64 0), some (pI x1), none, none, some (pI x4), none, none], [pI 1], (n, m))
  refine zgoto (tgt := 63) (pc := 59) hF (by decide +kernel) ?_
  exact m_X7_waiting_L63 hl hF hR  _ _ _ _  h

set_option maxHeartbeats 4000000 in
set_option maxRecDepth 100000 in
theorem m_X7_waiting_L48 {w : zWd} {f : zFr} {n : zMem} {x : Int32} {m0 : zMem} {lc : Launch} (hl : f.2.1 = lc) (hF : zFOK w f 7 cX7_waiting 7 3) (hR : zFin w f (some .int) (zQI w x (n, m0))) : ∀ (x1 : Int32) (x3 : Int32) (x4 : Int32) (m : zMem), s_X7_waiting_L48 x1 x3 x4 m = some (x, m0) → zG w f 7 48 ([some (pR 64 0), some (pI x1), none, some (pI x3), some (pI x4), none, none], [], (n, m)) := by
  intro x1 x3 x4 m h
  unfold s_X7_waiting_L48 at h
  refine zrun hF [(.iload_n 3, 1, pI 0), (.iconst 2, 1, pI 2)] 48 _ (by decide +kernel) ?_
  show zG w f 7 50 ([some (pR 64 0), some (pI x1), none, some (pI x3), some (pI x4), none, none], [pI 2, pI x3], (n, m))
  refine zicmp_eq (tgt := 58) (pc := 50) hF (by decide +kernel) (fun b12 => ?_) (fun b12 => ?_)
  · replace h := zit b12 h
    refine zcut [true, true, true, false, true, true, true] ?_
    exact m_X7_waiting_L58 hl hF hR  _ _ _  h
  · replace h := zif b12 h
    refine zrun hF [(.iload_n 3, 1, pI 0), (.iconst 5, 1, pI 5)] 53 _ (by decide +kernel) ?_
    show zG w f 7 55 ([some (pR 64 0), some (pI x1), none, some (pI x3), some (pI x4), none, none], [pI 5, pI x3], (n, m))
    refine zicmp_ne (tgt := 62) (pc := 55) hF (by decide +kernel) (fun b13 => ?_) (fun b13 => ?_)
    · replace h := zit b13 h
      refine zcut [true, true, true, false, true, true, true] ?_
      exact m_X7_waiting_L58 hl hF hR  _ _ _  h
    · replace h := zif b13 h
      refine zrun hF [(.iconst 0, 1, pI 0)] 62 _ (by decide +kernel) ?_
      show zG w f 7 63 ([some (pR 64 0), some (pI x1), none, some (pI x3), some (pI x4), none, none], [pI 0], (n, m))
      refine zcut [true, true, true, false, true, true, true] ?_
      exact m_X7_waiting_L63 hl hF hR  _ _ _ _  h

set_option maxHeartbeats 4000000 in
set_option maxRecDepth 100000 in
theorem m_X7_waiting_L32 {w : zWd} {f : zFr} {n : zMem} {x : Int32} {m0 : zMem} {lc : Launch} (hl : f.2.1 = lc) (hF : zFOK w f 7 cX7_waiting 7 3) (hR : zFin w f (some .int) (zQI w x (n, m0))) : ∀ (x1 : Int32) (x2 : Int32) (x3 : Int32) (x4 : Int32) (m : zMem), s_X7_waiting_L32 x1 x2 x3 x4 m = some (x, m0) → zG w f 7 32 ([some (pR 64 0), some (pI x1), some (pI x2), some (pI x3), some (pI x4), none, none], [], (n, m)) := by
  intro x1 x2 x3 x4 m h
  unfold s_X7_waiting_L32 at h
  refine zrun hF [(.iload_n 3, 1, pI 0), (.iconst 3, 1, pI 3)] 32 _ (by decide +kernel) ?_
  show zG w f 7 34 ([some (pR 64 0), some (pI x1), some (pI x2), some (pI x3), some (pI x4), none, none], [pI 3, pI x3], (n, m))
  refine zicmp_ne (tgt := 48) (pc := 34) hF (by decide +kernel) (fun b8 => ?_) (fun b8 => ?_)
  · replace h := zit b8 h
    refine zrun hF [(.aload_n 0, 1, pI 0), (.bipush 40, 2, pI 40)] 37 _ (by decide +kernel) ?_
    show zG w f 7 40 ([some (pR 64 0), some (pI x1), some (pI x2), some (pI x3), some (pI x4), none, none], [pI 40, pR 64 0], (n, m))
    obtain ⟨m11, q9, h⟩ := zr_k h
    refine zcallVV (pc := 40) (As := [pI 40]) (st := []) (c := 64) (j := 0) hF (m_X7_body  q9) w_X7_body k_7_299 (by decide +kernel) rfl rfl rfl rfl rfl rfl rfl ?_
    refine zrun hF [(.iload_n 2, 1, pI 0), (.iconst 1, 1, pI 1), (.iadd, 1, pI 0), (.istore 4, 2, pI 0)] 43 _ (by decide +kernel) ?_
    refine (And.intro rfl ?_)
    show zG w f 7 48 ([some (pR 64 0), some (pI x1), some (pI x2), some (pI x3), some (pI (x2 + 1)), none, none], [], (n, m11))
    refine zcut [true, true, false, true, true, true, true] ?_
    exact m_X7_waiting_L48 hl hF hR  _ _ _ _  h
  · replace h := zif b8 h
    refine zcut [true, true, false, true, true, true, true] ?_
    exact m_X7_waiting_L48 hl hF hR  _ _ _ _  h

set_option maxHeartbeats 4000000 in
set_option maxRecDepth 100000 in
theorem m_X7_waiting {w : zWd} {lc : Launch} {n : zMem} {a1 : Int32} {a2 : Int32} {m : zMem} {x : Int32} {m0 : zMem}  (h : s_X7_waiting a1 a2 m = some (x, m0)) : zMet w lc 3 yX7_waiting cX7_waiting 7 (some .int) [pR 64 0, pI a1, pI a2] (n, m) (zQI w x (n, m0)) := by
  refine zmet (o := 7) (by decide +kernel) rfl (Nat.le_of_ble_eq_true rfl) rfl (fun f hl hF hR => ?_)
  unfold s_X7_waiting at h
  show zG w f 7 0 ([some (pR 64 0), some (pI a1), some (pI a2), none, none, none, none], [], (n, m))
  obtain ⟨c1, h⟩ := zchk h
  refine zrun hF [(.aload_n 0, 1, pI 0), (.getfield 23, 3, pR 64 8), (.iload_n 1, 1, pI 0), (.iaload, 1, pI 0), (.istore_n 3, 1, pI 0)] 0 _ (by decide +kernel) ?_
  refine (And.intro rfl (And.intro rfl (And.intro rfl (And.intro rfl (And.intro c1 (And.intro rfl ?_))))))
  refine zlet_k (P := fun (v2 : Int32) => zG w f 7 7 ([some (pR 64 0), some (pI a1), some (pI a2), some (pI v2), none, none, none], [], (n, m))) h (fun v2 h => ?_)
  refine zrun hF [(.iload_n 2, 1, pI 0), (.istore 4, 2, pI 0), (.iload_n 3, 1, pI 0), (.bipush 6, 2, pI 6)] 7 _ (by decide +kernel) ?_
  refine (And.intro rfl ?_)
  show zG w f 7 13 ([some (pR 64 0), some (pI a1), some (pI a2), some (pI v2), some (pI a2), none, none], [pI 6, pI v2], (n, m))
  refine zicmp_ne (tgt := 32) (pc := 13) hF (by decide +kernel) (fun b3 => ?_) (fun b3 => ?_)
  · replace h := zit b3 h
    refine zrun hF [(.aload_n 0, 1, pI 0), (.bipush 71, 2, pI 71)] 16 _ (by decide +kernel) ?_
    show zG w f 7 19 ([some (pR 64 0), some (pI a1), some (pI a2), some (pI v2), some (pI a2), none, none], [pI 71, pR 64 0], (n, m))
    obtain ⟨m6, q4, h⟩ := zr_k h
    refine zcallVV (pc := 19) (As := [pI 71]) (st := []) (c := 64) (j := 0) hF (m_X7_body  q4) w_X7_body k_7_299 (by decide +kernel) rfl rfl rfl rfl rfl rfl rfl ?_
    refine zrun hF [(.iload_n 2, 1, pI 0), (.aload_n 0, 1, pI 0), (.getfield 26, 3, pR 64 9), (.iload_n 1, 1, pI 0), (.iaload, 1, pI 0), (.isub, 1, pI 0), (.istore 4, 2, pI 0)] 22 _ (by decide +kernel) ?_
    refine (And.intro rfl (And.intro rfl (And.intro rfl (And.intro rfl (And.intro c1 (And.intro rfl ?_))))))
    refine zlet_k (P := fun (v7 : Int32) => zG w f 7 32 ([some (pR 64 0), some (pI a1), some (pI a2), some (pI v2), some (pI v7), none, none], [], (n, m6))) h (fun v7 h => ?_)
    exact m_X7_waiting_L32 hl hF hR  _ _ _ _ _  h
  · replace h := zif b3 h
    exact m_X7_waiting_L32 hl hF hR  _ _ _ _ _  h

