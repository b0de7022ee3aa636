set_option maxHeartbeats 4000000 in
set_option maxRecDepth 100000 in
theorem m_X7_rounds_L6 {w : zWd} {f : zFr} {n : zMem} {x : Int32} {m0 : zMem} {lc : Launch} (hl : f.2.1 = lc) (hF : zFOK w f 7 cX7_rounds 2 27) (hR : zFin w f (some .int) (zQI w x (n, m0))) : ∀ (k : Nat) (x1 : Int32) (m : zMem), s_X7_rounds_L6 k x1 m = some (x, m0) → zG w f 2 6 ([some (pR 64 0), some (pI x1)], [], (n, m)) := by
  intro k
  induction k with
  | zero => intro x1 m h; exact zno h
  | succ k ih =>
    intro x1 m h
    unfold s_X7_rounds_L6 at h
    refine zrun hF [(.aload_n 0, 1, pI 0)] 6 _ (by decide +kernel) ?_
    show zG w f 2 7 ([some (pR 64 0), some (pI x1)], [pR 64 0], (n, m))
    obtain ⟨r5, m6, q4, h⟩ := zb_k h
    refine zcallVI (pc := 7) (As := []) (st := []) (c := 64) (j := 0) hF (m_X7_round  q4) w_X7_round k_7_250 (by decide +kernel) rfl rfl rfl rfl rfl rfl rfl ?_
    refine zif_le (tgt := 19) (pc := 10) hF (by decide +kernel) (fun b7 => ?_) (fun b7 => ?_)
    · replace h := zit b7 h
      refine zrun hF [(.aload_n 0, 1, pI 0)] 19 _ (by decide +kernel) ?_
      show zG w f 2 20 ([some (pR 64 0), some (pI x1)], [pR 64 0], (n, m6))
      obtain ⟨m10, q8, h⟩ := zr_k h
      refine zcallVV (pc := 20) (As := []) (st := []) (c := 64) (j := 0) hF (m_X7_bringsHad  q8) w_X7_bringsHad k_7_253 (by decide +kernel) rfl rfl rfl rfl rfl rfl rfl ?_
      refine zrun hF [(.iload_n 1, 1, pI 0)] 23 _ (by decide +kernel) ?_
      show zG w f 2 24 ([some (pR 64 0), some (pI x1)], [pI x1], (n, m10))
      exact zretI (pc := 24) hF hR (by decide +kernel) rfl (congrArg Prod.fst (Option.some.inj h)) (congrArg (fun (q : Int32 × zMem) => (n, q.2)) (Option.some.inj h))
    · replace h := zif b7 h
      refine zrun hF [(.iinc 1 1, 3, pI 1)] 13 _ (by decide +kernel) ?_
      refine (And.intro rfl ?_)
      show zG w f 2 16 ([some (pR 64 0), some (pI (x1 + 1))], [], (n, m6))
      refine zgoto (tgt := 6) (pc := 16) hF (by decide +kernel) ?_
      exact ih _ _  h

set_option maxHeartbeats 4000000 in
set_option maxRecDepth 100000 in
theorem m_X7_rounds {w : zWd} {lc : Launch} {n : zMem}  {m : zMem} {x : Int32} {m0 : zMem}  (h : s_X7_rounds m = some (x, m0)) : zMet w lc 27 yX7_rounds cX7_rounds 2 (some .int) [pR 64 0] (n, m) (zQI w x (n, m0)) := by
  refine zmet (o := 7) (by decide +kernel) rfl (Nat.le_of_ble_eq_true rfl) rfl (fun f hl hF hR => ?_)
  unfold s_X7_rounds at h
  show zG w f 2 0 ([some (pR 64 0), none], [], (n, m))
  refine zrun hF [(.aload_n 0, 1, pI 0)] 0 _ (by decide +kernel) ?_
  show zG w f 2 1 ([some (pR 64 0), none], [pR 64 0], (n, m))
  obtain ⟨m3, q1, h⟩ := zr_k h
  refine zcallVV (pc := 1) (As := []) (st := []) (c := 64) (j := 0) hF (m_X7_keepsHad  q1) w_X7_keepsHad k_7_247 (by decide +kernel) rfl rfl rfl rfl rfl rfl rfl ?_
  refine zrun hF [(.iconst 0, 1, pI 0), (.istore_n 1, 1, pI 0)] 4 _ (by decide +kernel) ?_
  refine (And.intro rfl ?_)
  show zG w f 2 6 ([some (pR 64 0), some (pI 0)], [], (n, m3))
  exact m_X7_rounds_L6 hl hF hR  zF _ _  h

set_option maxHeartbeats 4000000 in
set_option maxRecDepth 100000 in
theorem m_X6_roundOf_L10 {w : zWd} {f : zFr} {n : zMem} {x : Int32} {m0 : zMem} {lc : Launch} (hl : f.2.1 = lc) (hF : zFOK w f 6 cX6_roundOf 3 26) (hR : zFin w f (some .int) (zQI w x (m0, n))) : ∀ (m : zMem), s_X6_roundOf_L10 m = some (x, m0) → zG w f 3 10 ([some (pR 0 0), none, none], [], (m, n)) := by
  intro m h
  unfold s_X6_roundOf_L10 at h
  refine zrun hF [(.aload_n 0, 1, pI 0), (.bipush (-5), 2, pI (-5))] 10 _ (by decide +kernel) ?_
  show zG w f 3 13 ([some (pR 0 0), none, none], [pI (-5), pR 0 0], (m, n))
  obtain ⟨r18, m19, q17, h⟩ := zb_k h
  refine zcallVI (pc := 13) (As := [pI (-5)]) (st := []) (c := 0) (j := 0) hF (m_X6_refuse  q17) w_X6_refuse k_6_73 (by decide +kernel) rfl rfl rfl rfl rfl rfl rfl ?_
  exact zretI (pc := 16) hF hR (by decide +kernel) rfl (congrArg Prod.fst (Option.some.inj h)) (congrArg (fun (q : Int32 × zMem) => (q.2, n)) (Option.some.inj h))

set_option maxHeartbeats 4000000 in
set_option maxRecDepth 100000 in
theorem m_X6_roundOf {w : zWd} {lc : Launch} {n : zMem} {a1 : Int32} {a2 : Int32} {m : zMem} {x : Int32} {m0 : zMem}  (h : s_X6_roundOf a1 a2 m = some (x, m0)) : zMet w lc 26 yX6_roundOf cX6_roundOf 3 (some .int) [pR 0 0, pI a1, pI a2] (m, n) (zQI w x (m0, n)) := by
  refine zmet (o := 6) (by decide +kernel) rfl (Nat.le_of_ble_eq_true rfl) rfl (fun f hl hF hR => ?_)
  unfold s_X6_roundOf at h
  show zG w f 3 0 ([some (pR 0 0), some (pI a1), some (pI a2)], [], (m, n))
  refine zrun hF [(.iload_n 1, 1, pI 0)] 0 _ (by decide +kernel) ?_
  show zG w f 3 1 ([some (pR 0 0), some (pI a1), some (pI a2)], [pI a1], (m, n))
  refine zif_lt (tgt := 10) (pc := 1) hF (by decide +kernel) (fun b1 => ?_) (fun b1 => ?_)
  · replace h := zit b1 h
    refine zcut [true, false, false] ?_
    exact m_X6_roundOf_L10 hl hF hR  _  h
  · replace h := zif b1 h
    refine zrun hF [(.iload_n 1, 1, pI 0), (.bipush 45, 2, pI 45)] 4 _ (by decide +kernel) ?_
    show zG w f 3 7 ([some (pR 0 0), some (pI a1), some (pI a2)], [pI 45, pI a1], (m, n))
    refine zicmp_lt (tgt := 17) (pc := 7) hF (by decide +kernel) (fun b2 => ?_) (fun b2 => ?_)
    · replace h := zit b2 h
      refine zrun hF [(.aload_n 0, 1, pI 0), (.getfield 35, 3, pR 0 5), (.aload_n 0, 1, pI 0), (.getfield 10, 3, pR 0 0)] 17 _ (by decide +kernel) ?_
      refine (And.intro rfl (And.intro rfl (And.intro rfl (And.intro rfl ?_))))
      show zG w f 3 25 ([some (pR 0 0), some (pI a1), some (pI a2)], [pR 1 0, pR 10 0], (m, n))
      obtain ⟨m5, q3, h⟩ := zr_k h
      refine zcallVV (pc := 25) (As := [pR 1 0]) (st := []) (c := 10) (j := 0) hF (m_X2_draw rfl q3) w_X2_draw k_6_211 (by decide +kernel) rfl rfl rfl rfl rfl rfl rfl ?_
      refine zrun hF [(.aload_n 0, 1, pI 0), (.getfield 35, 3, pR 0 5), (.iload_n 1, 1, pI 0), (.iconst 1, 1, pI 1), (.iadd, 1, pI 0)] 28 _ (by decide +kernel) ?_
      refine (And.intro rfl (And.intro rfl ?_))
      show zG w f 3 35 ([some (pR 0 0), some (pI a1), some (pI a2)], [pI (a1 + 1), pR 10 0], (m5, n))
      obtain ⟨r7, m8, q6, h⟩ := zb_k h
      refine zcallVI (pc := 35) (As := [pI (a1 + 1)]) (st := []) (c := 10) (j := 0) hF (m_X2_makeRounds  q6) w_X2_makeRounds k_6_234 (by decide +kernel) rfl rfl rfl rfl rfl rfl rfl ?_
      refine zrun hF [(.iload_n 1, 1, pI 0)] 38 _ (by decide +kernel) ?_
      show zG w f 3 39 ([some (pR 0 0), some (pI a1), some (pI a2)], [pI a1, pI r7], (m8, n))
      refine zicmp_gt (tgt := 49) (pc := 39) hF (by decide +kernel) (fun b9 => ?_) (fun b9 => ?_)
      · replace h := zit b9 h
        obtain ⟨c10, h⟩ := zchk h
        refine zrun hF [(.aload_n 0, 1, pI 0), (.aload_n 0, 1, pI 0), (.getfield 35, 3, pR 0 5), (.getfield 237, 3, pR 10 5), (.iload_n 1, 1, pI 0), (.laload, 1, pI 0), (.iload_n 2, 1, pI 0)] 49 _ (by decide +kernel) ?_
        refine (And.intro rfl (And.intro rfl (And.intro rfl (And.intro rfl (And.intro rfl (And.intro rfl (And.intro c10 ?_)))))))
        show zG w f 3 60 ([some (pR 0 0), some (pI a1), some (pI a2)], [pI a2, pL (m8.2 16 0 (ix a1)), pR 0 0], (m8, n))
        obtain ⟨r12, m13, q11, h⟩ := zb_k h
        refine zcallVI (pc := 60) (As := [pL (m8.2 16 0 (ix a1)), pI a2]) (st := []) (c := 0) (j := 0) hF (m_X6_pairOrCount  q11) w_X6_pairOrCount k_6_226 (by decide +kernel) rfl rfl rfl rfl rfl rfl rfl ?_
        exact zretI (pc := 63) hF hR (by decide +kernel) rfl (congrArg Prod.fst (Option.some.inj h)) (congrArg (fun (q : Int32 × zMem) => (q.2, n)) (Option.some.inj h))
      · replace h := zif b9 h
        refine zrun hF [(.aload_n 0, 1, pI 0), (.bipush (-5), 2, pI (-5))] 42 _ (by decide +kernel) ?_
        show zG w f 3 45 ([some (pR 0 0), some (pI a1), some (pI a2)], [pI (-5), pR 0 0], (m8, n))
        obtain ⟨r15, m16, q14, h⟩ := zb_k h
        refine zcallVI (pc := 45) (As := [pI (-5)]) (st := []) (c := 0) (j := 0) hF (m_X6_refuse  q14) w_X6_refuse k_6_73 (by decide +kernel) rfl rfl rfl rfl rfl rfl rfl ?_
        exact zretI (pc := 48) hF hR (by decide +kernel) rfl (congrArg Prod.fst (Option.some.inj h)) (congrArg (fun (q : Int32 × zMem) => (q.2, n)) (Option.some.inj h))
    · replace h := zif b2 h
      refine zcut [true, false, false] ?_
      exact m_X6_roundOf_L10 hl hF hR  _  h

set_option maxHeartbeats 4000000 in
set_option maxRecDepth 100000 in
theorem m_X7_roundOf_L9 {w : zWd} {f : zFr} {n : zMem} {x : Int32} {m0 : zMem} {lc : Launch} (hl : f.2.1 = lc) (hF : zFOK w f 7 cX7_roundOf 6 27) (hR : zFin w f (some .int) (zQI w x (n, m0))) : ∀ (m : zMem), s_X7_roundOf_L9 m = some (x, m0) → zG w f 6 9 ([some (pR 64 0), none, none, none, none, none], [], (n, m)) := by
  intro m h
  unfold s_X7_roundOf_L9 at h
  refine zrun hF [(.aload_n 0, 1, pI 0), (.bipush (-5), 2, pI (-5))] 9 _ (by decide +kernel) ?_
  show zG w f 6 12 ([some (pR 64 0), none, none, none, none, none], [pI (-5), pR 64 0], (n, m))
  obtain ⟨r7, m8, q6, h⟩ := zb_k h
  refine zcallVI (pc := 12) (As := [pI (-5)]) (st := []) (c := 64) (j := 0) hF (m_X7_no  q6) w_X7_no k_7_100 (by decide +kernel) rfl rfl rfl rfl rfl rfl rfl ?_
  exact zretI (pc := 15) hF hR (by decide +kernel) rfl (congrArg Prod.fst (Option.some.inj h)) (congrArg (fun (q : Int32 × zMem) => (n, q.2)) (Option.some.inj h))

set_option maxHeartbeats 4000000 in
set_option maxRecDepth 100000 in
theorem m_X7_roundOf_L115 {w : zWd} {f : zFr} {n : zMem} {x : Int32} {m0 : zMem} {lc : Launch} (hl : f.2.1 = lc) (hF : zFOK w f 7 cX7_roundOf 6 27) (hR : zFin w f (some .int) (zQI w x (n, m0))) : ∀ (m : zMem), s_X7_roundOf_L115 m = some (x, m0) → zG w f 6 115 ([some (pR 64 0), none, none, none, none, none], [], (n, m)) := by
  intro m h
  unfold s_X7_roundOf_L115 at h
  refine zrun hF [(.aload_n 0, 1, pI 0), (.bipush (-5), 2, pI (-5))] 115 _ (by decide +kernel) ?_
  show zG w f 6 118 ([some (pR 64 0), none, none, none, none, none], [pI (-5), pR 64 0], (n, m))
  obtain ⟨r30, m31, q29, h⟩ := zb_k h
  refine zcallVI (pc := 118) (As := [pI (-5)]) (st := []) (c := 64) (j := 0) hF (m_X7_no  q29) w_X7_no k_7_100 (by decide +kernel) rfl rfl rfl rfl rfl rfl rfl ?_
  refine zgoto (tgt := 126) (pc := 121) hF (by decide +kernel) ?_
  exact zretI (pc := 126) hF hR (by decide +kernel) rfl (congrArg Prod.fst (Option.some.inj h)) (congrArg (fun (q : Int32 × zMem) => (n, q.2)) (Option.some.inj h))

set_option maxHeartbeats 4000000 in
set_option maxRecDepth 100000 in
theorem m_X7_roundOf_L98 {w : zWd} {f : zFr} {n : zMem} {x : Int32} {m0 : zMem} {lc : Launch} (hl : f.2.1 = lc) (hF : zFOK w f 7 cX7_roundOf 6 27) (hR : zFin w f (some .int) (zQI w x (n, m0))) : ∀ (x4 : Int32) (y0 : Int32) (m : zMem), s_X7_roundOf_L98 x4 y0 m = some (x, m0) → zG w f 6 98 ([some (pR 64 0), none, none, none, some (pI x4), none], [pI y0], (n, m)) := by
  intro x4 y0 m h
  unfold s_X7_roundOf_L98 at h
  refine zrun hF [(.istore 5, 2, pI 0), (.aload_n 0, 1, pI 0)] 98 _ (by decide +kernel) ?_
  refine (And.intro rfl ?_)
  show zG w f 6 101 ([some (pR 64 0), none, none, none, some (pI x4), some (pI y0)], [pR 64 0], (n, m))
  obtain ⟨m26, q24, h⟩ := zr_k h
  refine zcallVV (pc := 101) (As := []) (st := []) (c := 64) (j := 0) hF (m_X7_bringsHad  q24) w_X7_bringsHad k_7_253 (by decide +kernel) rfl rfl rfl rfl rfl rfl rfl ?_
  refine zrun hF [(.iload 4, 2, pI 0)] 104 _ (by decide +kernel) ?_
  show zG w f 6 106 ([some (pR 64 0), none, none, none, some (pI x4), some (pI y0)], [pI x4], (n, m26))
  refine zif_eq (tgt := 115) (pc := 106) hF (by decide +kernel) (fun b27 => ?_) (fun b27 => ?_)
  · replace h := zit b27 h
    refine zcut [true, true, true, true, false, false] ?_
    exact m_X7_roundOf_L115 hl hF hR  _  h
  · replace h := zif b27 h
    refine zrun hF [(.iload 5, 2, pI 0), (.iconst (-1), 1, pI (-1))] 109 _ (by decide +kernel) ?_
    show zG w f 6 112 ([some (pR 64 0), none, none, none, some (pI x4), some (pI y0)], [pI (-1), pI y0], (n, m26))
    refine zicmp_ne (tgt := 124) (pc := 112) hF (by decide +kernel) (fun b28 => ?_) (fun b28 => ?_)
    · replace h := zit b28 h
      refine zcut [true, true, true, true, false, false] ?_
      exact m_X7_roundOf_L115 hl hF hR  _  h
    · replace h := zif b28 h
      refine zrun hF [(.iload 5, 2, pI 0)] 124 _ (by decide +kernel) ?_
      show zG w f 6 126 ([some (pR 64 0), none, none, none, some (pI x4), some (pI y0)], [pI y0], (n, m26))
      exact zretI (pc := 126) hF hR (by decide +kernel) rfl (congrArg Prod.fst (Option.some.inj h)) (congrArg (fun (q : Int32 × zMem) => (n, q.2)) (Option.some.inj h))

set_option maxHeartbeats 4000000 in
set_option maxRecDepth 100000 in
theorem m_X7_roundOf_L66 {w : zWd} {f : zFr} {n : zMem} {x : Int32} {m0 : zMem} {lc : Launch} (hl : f.2.1 = lc) (hF : zFOK w f 7 cX7_roundOf 6 27) (hR : zFin w f (some .int) (zQI w x (n, m0))) : ∀ (x2 : Int32) (y0 : Int32) (m : zMem), s_X7_roundOf_L66 x2 y0 m = some (x, m0) → zG w f 6 66 ([some (pR 64 0), none, some (pI x2), none, none, none], [pI y0], (n, m)) := by
  intro x2 y0 m h
  unfold s_X7_roundOf_L66 at h
  refine zrun hF [(.istore 4, 2, pI 0), (.iload_n 2, 1, pI 0), (.iconst (-1), 1, pI (-1))] 66 _ (by decide +kernel) ?_
  refine (And.intro rfl ?_)
  show zG w f 6 70 ([some (pR 64 0), none, some (pI x2), none, some (pI y0), none], [pI (-1), pI x2], (n, m))
  refine zicmp_ne (tgt := 78) (pc := 70) hF (by decide +kernel) (fun b19 => ?_) (fun b19 => ?_)
  · replace h := zit b19 h
    refine zrun hF [(.iload 4, 2, pI 0)] 73 _ (by decide +kernel) ?_
    show zG w f 6 75 ([some (pR 64 0), none, some (pI x2), none, some (pI y0), none], [pI y0], (n, m))
    refine zgoto (tgt := 98) (pc := 75) hF (by decide +kernel) ?_
    refine zcut [true, true, false, true, true, true] ?_
    exact m_X7_roundOf_L98 hl hF hR  _ _ _  h
  · replace h := zif b19 h
    refine zrun hF [(.iload_n 2, 1, pI 0), (.iload 4, 2, pI 0)] 78 _ (by decide +kernel) ?_
    show zG w f 6 81 ([some (pR 64 0), none, some (pI x2), none, some (pI y0), none], [pI y0, pI x2], (n, m))
    refine zicmp_ge (tgt := 97) (pc := 81) hF (by decide +kernel) (fun b20 => ?_) (fun b20 => ?_)
    · replace h := zit b20 h
      refine zrun hF [(.iconst (-1), 1, pI (-1))] 97 _ (by decide +kernel) ?_
      show zG w f 6 98 ([some (pR 64 0), none, some (pI x2), none, some (pI y0), none], [pI (-1)], (n, m))
      refine zcut [true, true, false, true, true, true] ?_
      exact m_X7_roundOf_L98 hl hF hR  _ _ _  h
    · replace h := zif b20 h
      obtain ⟨c21, h⟩ := zchk h
      refine zrun hF [(.aload_n 0, 1, pI 0), (.aload_n 0, 1, pI 0), (.getfield 78, 3, pR 64 32), (.iload_n 2, 1, pI 0), (.iaload, 1, pI 0)] 84 _ (by decide +kernel) ?_
      refine (And.intro rfl (And.intro rfl (And.intro rfl (And.intro rfl (And.intro c21 ?_)))))
      show zG w f 6 91 ([some (pR 64 0), none, some (pI x2), none, some (pI y0), none], [pI (m.1 84 0 (ix x2)), pR 64 0], (n, m))
      obtain ⟨r23, q22, h⟩ := zr_k h
      refine zcallVI (pc := 91) (As := [pI (m.1 84 0 (ix x2))]) (st := []) (c := 64) (j := 0) hF (m_X7_codeOf  q22) w_X7_codeOf k_7_228 (by decide +kernel) rfl rfl rfl rfl rfl rfl rfl ?_
      refine zgoto (tgt := 98) (pc := 94) hF (by decide +kernel) ?_
      refine zcut [true, true, false, true, true, true] ?_
      exact m_X7_roundOf_L98 hl hF hR  _ _ _  h

set_option maxHeartbeats 4000000 in
set_option maxRecDepth 100000 in
theorem m_X7_roundOf_L54 {w : zWd} {f : zFr} {n : zMem} {x : Int32} {m0 : zMem} {lc : Launch} (hl : f.2.1 = lc) (hF : zFOK w f 7 cX7_roundOf 6 27) (hR : zFin w f (some .int) (zQI w x (n, m0))) : ∀ (x2 : Int32) (x3 : Int32) (m : zMem), s_X7_roundOf_L54 x2 x3 m = some (x, m0) → zG w f 6 54 ([some (pR 64 0), none, some (pI x2), some (pI x3), none, none], [], (n, m)) := by
  intro x2 x3 m h
  unfold s_X7_roundOf_L54 at h
  refine zrun hF [(.iload_n 3, 1, pI 0)] 54 _ (by decide +kernel) ?_
  show zG w f 6 55 ([some (pR 64 0), none, some (pI x2), some (pI x3), none, none], [pI x3], (n, m))
  refine zif_eq (tgt := 65) (pc := 55) hF (by decide +kernel) (fun b15 => ?_) (fun b15 => ?_)
  · replace h := zit b15 h
    refine zrun hF [(.iconst 0, 1, pI 0)] 65 _ (by decide +kernel) ?_
    show zG w f 6 66 ([some (pR 64 0), none, some (pI x2), some (pI x3), none, none], [pI 0], (n, m))
    refine zcut [true, true, true, false, true, true] ?_
    exact m_X7_roundOf_L66 hl hF hR  _ _ _  h
  · replace h := zif b15 h
    refine zrun hF [(.aload_n 0, 1, pI 0)] 58 _ (by decide +kernel) ?_
    show zG w f 6 59 ([some (pR 64 0), none, some (pI x2), some (pI x3), none, none], [pR 64 0], (n, m))
    obtain ⟨r17, m18, q16, h⟩ := zb_k h
    refine zcallVI (pc := 59) (As := []) (st := []) (c := 64) (j := 0) hF (m_X7_mostOf  q16) w_X7_mostOf k_7_244 (by decide +kernel) rfl rfl rfl rfl rfl rfl rfl ?_
    refine zgoto (tgt := 66) (pc := 62) hF (by decide +kernel) ?_
    refine zcut [true, true, true, false, true, true] ?_
    exact m_X7_roundOf_L66 hl hF hR  _ _ _  h

set_option maxHeartbeats 4000000 in
set_option maxRecDepth 100000 in
theorem m_X7_roundOf_L47 {w : zWd} {f : zFr} {n : zMem} {x : Int32} {m0 : zMem} {lc : Launch} (hl : f.2.1 = lc) (hF : zFOK w f 7 cX7_roundOf 6 27) (hR : zFin w f (some .int) (zQI w x (n, m0))) {k25 : Int32 → Int32 → Int32 → Int32 → zMem → Option (Int32 × zMem)} (hk25 : ∀ (x1 : Int32) (x2 : Int32) (x3 : Int32) (x4 : Int32) (m : zMem), k25 x1 x2 x3 x4 m = some (x, m0) → zG w f 6 25 ([some (pR 64 0), some (pI x1), some (pI x2), some (pI x3), some (pI x4), none], [], (n, m))) : ∀ (x1 : Int32) (x2 : Int32) (x4 : Int32) (y0 : Int32) (m : zMem), s_X7_roundOf_L47 k25 x1 x2 x4 y0 m = some (x, m0) → zG w f 6 47 ([some (pR 64 0), some (pI x1), some (pI x2), none, some (pI x4), none], [pI y0], (n, m)) := by
  intro x1 x2 x4 y0 m h
  unfold s_X7_roundOf_L47 at h
  refine zrun hF [(.istore_n 3, 1, pI 0), (.iinc 4 1, 3, pI 1)] 47 _ (by decide +kernel) ?_
  refine (And.intro rfl (And.intro rfl ?_))
  show zG w f 6 51 ([some (pR 64 0), some (pI x1), some (pI x2), some (pI y0), some (pI (x4 + 1)), none], [], (n, m))
  refine zgoto (tgt := 25) (pc := 51) hF (by decide +kernel) ?_
  exact hk25 _ _ _ _ _  h

set_option maxHeartbeats 4000000 in
set_option maxRecDepth 100000 in
theorem m_X7_roundOf_L25 {w : zWd} {f : zFr} {n : zMem} {x : Int32} {m0 : zMem} {lc : Launch} (hl : f.2.1 = lc) (hF : zFOK w f 7 cX7_roundOf 6 27) (hR : zFin w f (some .int) (zQI w x (n, m0))) : ∀ (k : Nat) (x1 : Int32) (x2 : Int32) (x3 : Int32) (x4 : Int32) (m : zMem), s_X7_roundOf_L25 k x1 x2 x3 x4 m = some (x, m0) → zG w f 6 25 ([some (pR 64 0), some (pI x1), some (pI x2), some (pI x3), some (pI x4), none], [], (n, m)) := by
  intro k
  induction k with
  | zero => intro x1 x2 x3 x4 m h; exact zno h
  | succ k ih =>
    intro x1 x2 x3 x4 m h
    unfold s_X7_roundOf_L25 at h
    refine zrun hF [(.iload 4, 2, pI 0), (.iload_n 1, 1, pI 0)] 25 _ (by decide +kernel) ?_
    show zG w f 6 28 ([some (pR 64 0), some (pI x1), some (pI x2), some (pI x3), some (pI x4), none], [pI x1, pI x4], (n, m))
    refine zicmp_ge (tgt := 54) (pc := 28) hF (by decide +kernel) (fun b9 => ?_) (fun b9 => ?_)
    · replace h := zit b9 h
      refine zcut [true, false, true, true, false, true] ?_
      exact m_X7_roundOf_L54 hl hF hR  _ _ _  h
    · replace h := zif b9 h
      refine zrun hF [(.iload_n 3, 1, pI 0)] 31 _ (by decide +kernel) ?_
      show zG w f 6 32 ([some (pR 64 0), some (pI x1), some (pI x2), some (pI x3), some (pI x4), none], [pI x3], (n, m))
      refine zif_eq (tgt := 54) (pc := 32) hF (by decide +kernel) (fun b10 => ?_) (fun b10 => ?_)
      · replace h := zit b10 h
        refine zcut [true, false, true, true, false, true] ?_
        exact m_X7_roundOf_L54 hl hF hR  _ _ _  h
      · replace h := zif b10 h
        refine zrun hF [(.aload_n 0, 1, pI 0)] 35 _ (by decide +kernel) ?_
        show zG w f 6 36 ([some (pR 64 0), some (pI x1), some (pI x2), some (pI x3), some (pI x4), none], [pR 64 0], (n, m))
        obtain ⟨r12, m13, q11, h⟩ := zb_k h
        refine zcallVI (pc := 36) (As := []) (st := []) (c := 64) (j := 0) hF (m_X7_round  q11) w_X7_round k_7_250 (by decide +kernel) rfl rfl rfl rfl rfl rfl rfl ?_
        refine zif_le (tgt := 46) (pc := 39) hF (by decide +kernel) (fun b14 => ?_) (fun b14 => ?_)
        · replace h := zit b14 h
          refine zrun hF [(.iconst 0, 1, pI 0)] 46 _ (by decide +kernel) ?_
          show zG w f 6 47 ([some (pR 64 0), some (pI x1), some (pI x2), some (pI x3), some (pI x4), none], [pI 0], (n, m13))
          refine zcut [true, true, true, false, true, true] ?_
          exact m_X7_roundOf_L47 hl hF hR ih _ _ _ _ _  h
        · replace h := zif b14 h
          refine zrun hF [(.iconst 1, 1, pI 1)] 42 _ (by decide +kernel) ?_
          show zG w f 6 43 ([some (pR 64 0), some (pI x1), some (pI x2), some (pI x3), some (pI x4), none], [pI 1], (n, m13))
          refine zgoto (tgt := 47) (pc := 43) hF (by decide +kernel) ?_
          refine zcut [true, true, true, false, true, true] ?_
          exact m_X7_roundOf_L47 hl hF hR ih _ _ _ _ _  h

set_option maxHeartbeats 4000000 in
set_option maxRecDepth 100000 in
theorem m_X7_roundOf {w : zWd} {lc : Launch} {n : zMem} {a1 : Int32} {a2 : Int32} {m : zMem} {x : Int32} {m0 : zMem}  (h : s_X7_roundOf a1 a2 m = some (x, m0)) : zMet w lc 27 yX7_roundOf cX7_roundOf 6 (some .int) [pR 64 0, pI a1, pI a2] (n, m) (zQI w x (n, m0)) := by
  refine zmet (o := 7) (by decide +kernel) rfl (Nat.le_of_ble_eq_true rfl) rfl (fun f hl hF hR => ?_)
  unfold s_X7_roundOf at h
  show zG w f 6 0 ([some (pR 64 0), some (pI a1), some (pI a2), none, none, none], [], (n, m))
  refine zrun hF [(.iload_n 1, 1, pI 0)] 0 _ (by decide +kernel) ?_
  show zG w f 6 1 ([some (pR 64 0), some (pI a1), some (pI a2), none, none, none], [pI a1], (n, m))
  refine zif_lt (tgt := 9) (pc := 1) hF (by decide +kernel) (fun b1 => ?_) (fun b1 => ?_)
  · replace h := zit b1 h
    refine zcut [true, false, false, true, true, true] ?_
    exact m_X7_roundOf_L9 hl hF hR  _  h
  · replace h := zif b1 h
    refine zrun hF [(.iload_n 2, 1, pI 0), (.iconst (-1), 1, pI (-1))] 4 _ (by decide +kernel) ?_
    show zG w f 6 6 ([some (pR 64 0), some (pI a1), some (pI a2), none, none, none], [pI (-1), pI a2], (n, m))
    refine zicmp_ge (tgt := 16) (pc := 6) hF (by decide +kernel) (fun b2 => ?_) (fun b2 => ?_)
    · replace h := zit b2 h
      refine zrun hF [(.aload_n 0, 1, pI 0)] 16 _ (by decide +kernel) ?_
      show zG w f 6 17 ([some (pR 64 0), some (pI a1), some (pI a2), none, none, none], [pR 64 0], (n, m))
      obtain ⟨m5, q3, h⟩ := zr_k h
      refine zcallVV (pc := 17) (As := []) (st := []) (c := 64) (j := 0) hF (m_X7_keepsHad  q3) w_X7_keepsHad k_7_247 (by decide +kernel) rfl rfl rfl rfl rfl rfl rfl ?_
      refine zrun hF [(.iconst 1, 1, pI 1), (.istore_n 3, 1, pI 0), (.iconst 0, 1, pI 0), (.istore 4, 2, pI 0)] 20 _ (by decide +kernel) ?_
      refine (And.intro rfl (And.intro rfl ?_))
      show zG w f 6 25 ([some (pR 64 0), some (pI a1), some (pI a2), some (pI 1), some (pI 0), none], [], (n, m5))
      exact m_X7_roundOf_L25 hl hF hR  zF _ _ _ _ _  h
    · replace h := zif b2 h
      refine zcut [true, false, false, true, true, true] ?_
      exact m_X7_roundOf_L9 hl hF hR  _  h

set_option maxHeartbeats 4000000 in
set_option maxRecDepth 100000 in
theorem m_X2_partsWith_L87 {w : zWd} {f : zFr} {n : zMem} {x : Int32} {lc : Launch} {mr : zMem} (hl : f.2.1 = lc) (hF : zFOK w f 2 cX2_partsWith 5 2) (hR : zFin w f (some .int) (zQI w x (mr, n))) {k38 : Int32 → Int32 → Int32 → Int32 → zMem → Option Int32} (hk38 : ∀ (x1 : Int32) (x2 : Int32) (x3 : Int32) (x4 : Int32) (m : zMem), m = mr → k38 x1 x2 x3 x4 m = some x → zG w f 5 38 ([some (pR 10 0), some (pI x1), some (pI x2), some (pI x3), some (pI x4)], [], (m, n))) : ∀ (x1 : Int32) (x2 : Int32) (x3 : Int32) (x4 : Int32) (m : zMem), m = mr → s_X2_partsWith_L87 k38 x1 x2 x3 x4 m = some x → zG w f 5 87 ([some (pR 10 0), some (pI x1), some (pI x2), some (pI x3), some (pI x4)], [], (m, n)) := by
  intro x1 x2 x3 x4 m hm h
  unfold s_X2_partsWith_L87 at h
  refine zrun hF [(.iinc 4 1, 3, pI 1)] 87 _ (by decide +kernel) ?_
  refine (And.intro rfl ?_)
  show zG w f 5 90 ([some (pR 10 0), some (pI x1), some (pI x2), some (pI x3), some (pI (x4 + 1))], [], (m, n))
  refine zgoto (tgt := 38) (pc := 90) hF (by decide +kernel) ?_
  exact hk38 _ _ _ _ _  hm h

set_option maxHeartbeats 4000000 in
set_option maxRecDepth 100000 in
theorem m_X2_partsWith_L38 {w : zWd} {f : zFr} {n : zMem} {x : Int32} {lc : Launch} {mr : zMem} (hl : f.2.1 = lc) (hF : zFOK w f 2 cX2_partsWith 5 2) (hR : zFin w f (some .int) (zQI w x (mr, n))) : ∀ (k : Nat) (x1 : Int32) (x2 : Int32) (x3 : Int32) (x4 : Int32) (m : zMem), m = mr → s_X2_partsWith_L38 k x1 x2 x3 x4 m = some x → zG w f 5 38 ([some (pR 10 0), some (pI x1), some (pI x2), some (pI x3), some (pI x4)], [], (m, n)) := by
  intro k
  induction k with
  | zero => intro x1 x2 x3 x4 m hm h; exact zno h
  | succ k ih =>
    intro x1 x2 x3 x4 m hm h
    unfold s_X2_partsWith_L38 at h
    refine zrun hF [(.iload 4, 2, pI 0), (.iload_n 2, 1, pI 0)] 38 _ (by decide +kernel) ?_
    show zG w f 5 41 ([some (pR 10 0), some (pI x1), some (pI x2), some (pI x3), some (pI x4)], [pI x2, pI x4], (m, n))
    refine zicmp_ge (tgt := 93) (pc := 41) hF (by decide +kernel) (fun b7 => ?_) (fun b7 => ?_)
    · replace h := zit b7 h
      refine zrun hF [(.iload_n 3, 1, pI 0)] 93 _ (by decide +kernel) ?_
      show zG w f 5 94 ([some (pR 10 0), some (pI x1), some (pI x2), some (pI x3), some (pI x4)], [pI x3], (m, n))
      exact zretI (pc := 94) hF hR (by decide +kernel) rfl (Option.some.inj h) (congrArg (fun q => (q, n)) hm)
    · replace h := zif b7 h
      refine zrun hF [(.iload 4, 2, pI 0), (.iload_n 2, 1, pI 0), (.iconst (-1), 1, pI (-1)), (.ixor, 1, pI 0), (.iand, 1, pI 0)] 44 _ (by decide +kernel) ?_
      show zG w f 5 50 ([some (pR 10 0), some (pI x1), some (pI x2), some (pI x3), some (pI x4)], [pI (x4 &&& (x2 ^^^ (-1)))], (m, n))
      refine zif_ne (tgt := 87) (pc := 50) hF (by decide +kernel) (fun b8 => ?_) (fun b8 => ?_)
      · replace h := zit b8 h
        refine zrun hF [(.aload_n 0, 1, pI 0), (.getfield 31, 3, pR 10 6), (.iload_n 1, 1, pI 0)] 53 _ (by decide +kernel) ?_
        refine (And.intro rfl (And.intro rfl ?_))
        show zG w f 5 58 ([some (pR 10 0), some (pI x1), some (pI x2), some (pI x3), some (pI x4)], [pI x1, pR 17 0], (m, n))
        obtain ⟨r10, q9, h⟩ := zr_k h
        refine zcallNI (pc := 58) (As := [pI x1]) (st := [pR 17 0]) hF (m_X6_bit  q9) w_X6_bit k_2_75 (by decide +kernel) rfl rfl rfl rfl ?_
        obtain ⟨c11, h⟩ := zchk h
        refine zrun hF [(.iload 4, 2, pI 0), (.ior, 1, pI 0), (.iaload, 1, pI 0), (.iconst 1, 1, pI 1)] 61 _ (by decide +kernel) ?_
        refine (And.intro rfl (And.intro rfl (And.intro c11 ?_)))
        show zG w f 5 66 ([some (pR 10 0), some (pI x1), some (pI x2), some (pI x3), some (pI x4)], [pI 1, pI (m.1 17 0 (ix (r10 ||| x4)))], (m, n))
        refine zicmp_ne (tgt := 87) (pc := 66) hF (by decide +kernel) (fun b12 => ?_) (fun b12 => ?_)
        · replace h := zit b12 h
          obtain ⟨c13, h⟩ := zchk h
          refine zrun hF [(.iload_n 3, 1, pI 0), (.iconst 1, 1, pI 1), (.aload_n 0, 1, pI 0), (.getfield 31, 3, pR 10 6), (.iload_n 2, 1, pI 0), (.iload 4, 2, pI 0), (.iconst (-1), 1, pI (-1)), (.ixor, 1, pI 0), (.iand, 1, pI 0), (.iaload, 1, pI 0), (.iadd, 1, pI 0), (.invokestatic 126, 3, pR 200 1), (.istore_n 3, 1, pI 0)] 69 _ (by decide +kernel) ?_
          refine (And.intro rfl (And.intro rfl (And.intro rfl (And.intro rfl (And.intro c13 (And.intro rfl (And.intro rfl ?_)))))))
          refine zlet_k (P := fun (v14 : Int32) => zG w f 5 87 ([some (pR 10 0), some (pI x1), some (pI x2), some (pI v14), some (pI x4)], [], (m, n))) h (fun v14 h => ?_)
          exact m_X2_partsWith_L87 hl hF hR ih _ _ _ _ _  hm h
        · replace h := zif b12 h
          exact m_X2_partsWith_L87 hl hF hR ih _ _ _ _ _  hm h
      · replace h := zif b8 h
        exact m_X2_partsWith_L87 hl hF hR ih _ _ _ _ _  hm h

set_option maxHeartbeats 4000000 in
set_option maxRecDepth 100000 in
theorem m_X2_partsWith_L26 {w : zWd} {f : zFr} {n : zMem} {x : Int32} {lc : Launch} {mr : zMem} (hl : f.2.1 = lc) (hF : zFOK w f 2 cX2_partsWith 5 2) (hR : zFin w f (some .int) (zQI w x (mr, n))) : ∀ (x1 : Int32) (x2 : Int32) (m : zMem), m = mr → s_X2_partsWith_L26 x1 x2 m = some x → zG w f 5 26 ([some (pR 10 0), some (pI x1), some (pI x2), none, none], [], (m, n)) := by
  intro x1 x2 m hm h
  unfold s_X2_partsWith_L26 at h
  obtain ⟨c5, h⟩ := zchk h
  refine zrun hF [(.iconst 1, 1, pI 1), (.aload_n 0, 1, pI 0), (.getfield 31, 3, pR 10 6), (.iload_n 2, 1, pI 0), (.iaload, 1, pI 0), (.iadd, 1, pI 0), (.istore_n 3, 1, pI 0)] 26 _ (by decide +kernel) ?_
  refine (And.intro rfl (And.intro rfl (And.intro rfl (And.intro rfl (And.intro c5 (And.intro rfl ?_))))))
  refine zlet_k (P := fun (v6 : Int32) => zG w f 5 35 ([some (pR 10 0), some (pI x1), some (pI x2), some (pI v6), none], [], (m, n))) h (fun v6 h => ?_)
  refine zrun hF [(.iconst 1, 1, pI 1), (.istore 4, 2, pI 0)] 35 _ (by decide +kernel) ?_
  refine (And.intro rfl ?_)
  show zG w f 5 38 ([some (pR 10 0), some (pI x1), some (pI x2), some (pI v6), some (pI 1)], [], (m, n))
  exact m_X2_partsWith_L38 hl hF hR  zF _ _ _ _ _  hm h

set_option maxHeartbeats 4000000 in
set_option maxRecDepth 100000 in
theorem m_X2_partsWith {w : zWd} {lc : Launch} {n : zMem} {a1 : Int32} {a2 : Int32} {m : zMem} {x : Int32}  (h : s_X2_partsWith a1 a2 m = some x) : zMet w lc 2 yX2_partsWith cX2_partsWith 5 (some .int) [pR 10 0, pI a1, pI a2] (m, n) (zQI w x (m, n)) := by
  refine zmet (o := 2) (by decide +kernel) rfl (Nat.le_of_ble_eq_true rfl) rfl (fun f hl hF hR => ?_)
  unfold s_X2_partsWith at h
  show zG w f 5 0 ([some (pR 10 0), some (pI a1), some (pI a2), none, none], [], (m, n))
  obtain ⟨c1, h⟩ := zchk h
  refine zrun hF [(.aload_n 0, 1, pI 0), (.getfield 31, 3, pR 10 6), (.iload_n 2, 1, pI 0), (.iaload, 1, pI 0), (.iconst 1, 1, pI 1)] 0 _ (by decide +kernel) ?_
  refine (And.intro rfl (And.intro rfl (And.intro rfl (And.intro rfl (And.intro c1 ?_)))))
  show zG w f 5 7 ([some (pR 10 0), some (pI a1), some (pI a2), none, none], [pI 1, pI (m.1 17 0 (ix a2))], (m, n))
  refine zicmp_gt (tgt := 26) (pc := 7) hF (by decide +kernel) (fun b2 => ?_) (fun b2 => ?_)
  · replace h := zit b2 h
    exact m_X2_partsWith_L26 hl hF hR  _ _ _  rfl h
  · replace h := zif b2 h
    obtain ⟨c3, h⟩ := zchk h
    refine zrun hF [(.aload_n 0, 1, pI 0), (.getfield 25, 3, pR 10 4), (.iload_n 1, 1, pI 0), (.laload, 1, pI 0), (.iload_n 2, 1, pI 0), (.i2l, 1, pI 0), (.land, 1, pI 0), (.lconst 0, 1, pL 0), (.lcmp, 1, pI 0)] 10 _ (by decide +kernel) ?_
    refine (And.intro rfl (And.intro rfl (And.intro rfl (And.intro rfl (And.intro c3 ?_)))))
    show zG w f 5 21 ([some (pR 10 0), some (pI a1), some (pI a2), none, none], [pI (lg_cmp ((m.2 15 0 (ix a1)) &&& (Int32.toInt64 a2)) 0)], (m, n))
    refine zif_ne (tgt := 26) (pc := 21) hF (by decide +kernel) (fun b4 => ?_) (fun b4 => ?_)
    · replace h := zit b4 h
      refine zrun hF [(.iconst 1, 1, pI 1)] 24 _ (by decide +kernel) ?_
      show zG w f 5 25 ([some (pR 10 0), some (pI a1), some (pI a2), none, none], [pI 1], (m, n))
      exact zretI (pc := 25) hF hR (by decide +kernel) rfl (Option.some.inj h) rfl
    · replace h := zif b4 h
      exact m_X2_partsWith_L26 hl hF hR  _ _ _  rfl h

set_option maxHeartbeats 4000000 in
set_option maxRecDepth 100000 in
theorem m_X2_fewestSets_L26 {w : zWd} {f : zFr} {n : zMem} {x : Int32} {m0 : zMem} {lc : Launch} (hl : f.2.1 = lc) (hF : zFOK w f 2 cX2_fewestSets 4 3) (hR : zFin w f (some .int) (zQI w x (m0, n))) {k19 : Int32 → Int32 → zMem → Option (Int32 × zMem)} (hk19 : ∀ (x1 : Int32) (x2 : Int32) (m : zMem), k19 x1 x2 m = some (x, m0) → zG w f 4 19 ([some (pR 10 0), some (pI x1), some (pI x2), none], [], (m, n))) : ∀ (k : Nat) (x1 : Int32) (x2 : Int32) (x3 : Int32) (m : zMem), s_X2_fewestSets_L26 k19 k x1 x2 x3 m = some (x, m0) → zG w f 4 26 ([some (pR 10 0), some (pI x1), some (pI x2), some (pI x3)], [], (m, n)) := by
  intro k
  induction k with
  | zero => intro x1 x2 x3 m h; exact zno h
  | succ k ih =>
    intro x1 x2 x3 m h
    unfold s_X2_fewestSets_L26 at h
    refine zrun hF [(.iload_n 3, 1, pI 0), (.iload_n 2, 1, pI 0)] 26 _ (by decide +kernel) ?_
    show zG w f 4 28 ([some (pR 10 0), some (pI x1), some (pI x2), some (pI x3)], [pI x2, pI x3], (m, n))
    obtain ⟨r8, q7, h⟩ := zr_k h
    refine zcallNI (pc := 28) (As := [pI x2]) (st := [pI x3]) hF (m_X6_bit  q7) w_X6_bit k_2_75 (by decide +kernel) rfl rfl rfl rfl ?_
    refine zicmp_ge (tgt := 57) (pc := 31) hF (by decide +kernel) (fun b9 => ?_) (fun b9 => ?_)
    · replace h := zit b9 h
      refine zrun hF [(.iinc 2 1, 3, pI 1)] 57 _ (by decide +kernel) ?_
      refine (And.intro rfl ?_)
      show zG w f 4 60 ([some (pR 10 0), some (pI x1), some (pI (x2 + 1)), some (pI x3)], [], (m, n))
      refine zgoto (tgt := 19) (pc := 60) hF (by decide +kernel) ?_
      refine zcut [true, true, true, false] ?_
      exact hk19 _ _ _  h
    · replace h := zif b9 h
      refine zrun hF [(.aload_n 0, 1, pI 0), (.getfield 31, 3, pR 10 6), (.iload_n 2, 1, pI 0)] 34 _ (by decide +kernel) ?_
      refine (And.intro rfl (And.intro rfl ?_))
      show zG w f 4 39 ([some (pR 10 0), some (pI x1), some (pI x2), some (pI x3)], [pI x2, pR 17 0], (m, n))
      obtain ⟨r11, q10, h⟩ := zr_k h
      refine zcallNI (pc := 39) (As := [pI x2]) (st := [pR 17 0]) hF (m_X6_bit  q10) w_X6_bit k_2_75 (by decide +kernel) rfl rfl rfl rfl ?_
      refine zrun hF [(.iload_n 3, 1, pI 0), (.ior, 1, pI 0), (.aload_n 0, 1, pI 0), (.iload_n 2, 1, pI 0), (.iload_n 3, 1, pI 0)] 42 _ (by decide +kernel) ?_
      show zG w f 4 47 ([some (pR 10 0), some (pI x1), some (pI x2), some (pI x3)], [pI x3, pI x2, pR 10 0, pI (r11 ||| x3), pR 17 0], (m, n))
      obtain ⟨r13, q12, h⟩ := zr_k h
      refine zcallVI (pc := 47) (As := [pI x2, pI x3]) (st := [pI (r11 ||| x3), pR 17 0]) (c := 10) (j := 0) hF (m_X2_partsWith  q12) w_X2_partsWith k_2_129 (by decide +kernel) rfl rfl rfl rfl rfl rfl rfl ?_
      obtain ⟨c14, h⟩ := zchk h
      refine zrun hF [(.iastore, 1, pI 0)] 50 _ (by decide +kernel) ?_
      refine (And.intro rfl (And.intro rfl (And.intro c14 ?_)))
      refine zlet_k (P := fun (m15 : zMem) => zG w f 4 51 ([some (pR 10 0), some (pI x1), some (pI x2), some (pI x3)], [], (m15, n))) h (fun m15 h => ?_)
      refine zrun hF [(.iinc 3 1, 3, pI 1)] 51 _ (by decide +kernel) ?_
      refine (And.intro rfl ?_)
      show zG w f 4 54 ([some (pR 10 0), some (pI x1), some (pI x2), some (pI (x3 + 1))], [], (m15, n))
      refine zgoto (tgt := 26) (pc := 54) hF (by decide +kernel) ?_
      exact ih _ _ _ _  h

set_option maxHeartbeats 4000000 in
set_option maxRecDepth 100000 in
theorem m_X2_fewestSets_L19 {w : zWd} {f : zFr} {n : zMem} {x : Int32} {m0 : zMem} {lc : Launch} (hl : f.2.1 = lc) (hF : zFOK w f 2 cX2_fewestSets 4 3) (hR : zFin w f (some .int) (zQI w x (m0, n))) : ∀ (k : Nat) (x1 : Int32) (x2 : Int32) (m : zMem), s_X2_fewestSets_L19 k x1 x2 m = some (x, m0) → zG w f 4 19 ([some (pR 10 0), some (pI x1), some (pI x2), none], [], (m, n)) := by
  intro k
  induction k with
  | zero => intro x1 x2 m h; exact zno h
  | succ k ih =>
    intro x1 x2 m h
    unfold s_X2_fewestSets_L19 at h
    refine zrun hF [(.iload_n 2, 1, pI 0), (.iload_n 1, 1, pI 0)] 19 _ (by decide +kernel) ?_
    show zG w f 4 21 ([some (pR 10 0), some (pI x1), some (pI x2), none], [pI x1, pI x2], (m, n))
    refine zicmp_ge (tgt := 63) (pc := 21) hF (by decide +kernel) (fun b3 => ?_) (fun b3 => ?_)
    · replace h := zit b3 h
      refine zrun hF [(.aload_n 0, 1, pI 0), (.getfield 31, 3, pR 10 6), (.iload_n 1, 1, pI 0)] 63 _ (by decide +kernel) ?_
      refine (And.intro rfl (And.intro rfl ?_))
      show zG w f 4 68 ([some (pR 10 0), some (pI x1), some (pI x2), none], [pI x1, pR 17 0], (m, n))
      obtain ⟨r5, q4, h⟩ := zr_k h
      refine zcallNI (pc := 68) (As := [pI x1]) (st := [pR 17 0]) hF (m_X6_bit  q4) w_X6_bit k_2_75 (by decide +kernel) rfl rfl rfl rfl ?_
      obtain ⟨c6, h⟩ := zchk h
      refine zrun hF [(.iconst 1, 1, pI 1), (.isub, 1, pI 0), (.iaload, 1, pI 0)] 71 _ (by decide +kernel) ?_
      refine (And.intro rfl (And.intro rfl (And.intro c6 ?_)))
      show zG w f 4 74 ([some (pR 10 0), some (pI x1), some (pI x2), none], [pI (m.1 17 0 (ix (r5 - 1)))], (m, n))
      exact zretI (pc := 74) hF hR (by decide +kernel) rfl (congrArg Prod.fst (Option.some.inj h)) (congrArg (fun (q : Int32 × zMem) => (q.2, n)) (Option.some.inj h))
    · replace h := zif b3 h
      refine zrun hF [(.iconst 0, 1, pI 0), (.istore_n 3, 1, pI 0)] 24 _ (by decide +kernel) ?_
      refine (And.intro rfl ?_)
      show zG w f 4 26 ([some (pR 10 0), some (pI x1), some (pI x2), some (pI 0)], [], (m, n))
      exact m_X2_fewestSets_L26 hl hF hR ih zF _ _ _ _  h

set_option maxHeartbeats 4000000 in
set_option maxRecDepth 100000 in
theorem m_X2_fewestSets {w : zWd} {lc : Launch} {n : zMem}  {m : zMem} {x : Int32} {m0 : zMem}  (h : s_X2_fewestSets m = some (x, m0)) : zMet w lc 3 yX2_fewestSets cX2_fewestSets 4 (some .int) [pR 10 0] (m, n) (zQI w x (m0, n)) := by
  refine zmet (o := 2) (by decide +kernel) rfl (Nat.le_of_ble_eq_true rfl) rfl (fun f hl hF hR => ?_)
  unfold s_X2_fewestSets at h
  show zG w f 4 0 ([some (pR 10 0), none, none, none], [], (m, n))
  refine zrun hF [(.aload_n 0, 1, pI 0), (.getfield 34, 3, pR 10 7), (.bipush 10, 2, pI 10), (.invokestatic 126, 3, pR 200 1), (.istore_n 1, 1, pI 0)] 0 _ (by decide +kernel) ?_
  refine (And.intro rfl (And.intro rfl (And.intro rfl (And.intro rfl ?_))))
  refine zlet_k (P := fun (v1 : Int32) => zG w f 4 10 ([some (pR 10 0), some (pI v1), none, none], [], (m, n))) h (fun v1 h => ?_)
  refine zrun hF [(.aload_n 0, 1, pI 0), (.getfield 31, 3, pR 10 6), (.iconst 0, 1, pI 0), (.iconst 0, 1, pI 0), (.iastore, 1, pI 0)] 10 _ (by decide +kernel) ?_
  refine (And.intro rfl (And.intro rfl (And.intro rfl (And.intro rfl (And.intro rfl ?_)))))
  refine zlet_k (P := fun (m2 : zMem) => zG w f 4 17 ([some (pR 10 0), some (pI v1), none, none], [], (m2, n))) h (fun m2 h => ?_)
  refine zrun hF [(.iconst 0, 1, pI 0), (.istore_n 2, 1, pI 0)] 17 _ (by decide +kernel) ?_
  refine (And.intro rfl ?_)
  show zG w f 4 19 ([some (pR 10 0), some (pI v1), some (pI 0), none], [], (m2, n))
  exact m_X2_fewestSets_L19 hl hF hR  zF _ _ _  h

set_option maxHeartbeats 4000000 in
set_option maxRecDepth 100000 in
theorem m_X6_fewest {w : zWd} {lc : Launch} {n : zMem}  {m : zMem} {x : Int32} {m0 : zMem}  (h : s_X6_fewest m = some (x, m0)) : zMet w lc 6 yX6_fewest cX6_fewest 1 (some .int) [pR 0 0] (m, n) (zQI w x (m0, n)) := by
  refine zmet (o := 6) (by decide +kernel) rfl (Nat.le_of_ble_eq_true rfl) rfl (fun f hl hF hR => ?_)
  unfold s_X6_fewest at h
  show zG w f 1 0 ([some (pR 0 0)], [], (m, n))
  refine zrun hF [(.aload_n 0, 1, pI 0), (.getfield 35, 3, pR 0 5), (.aload_n 0, 1, pI 0), (.getfield 10, 3, pR 0 0)] 0 _ (by decide +kernel) ?_
  refine (And.intro rfl (And.intro rfl (And.intro rfl (And.intro rfl ?_))))
  show zG w f 1 8 ([some (pR 0 0)], [pR 1 0, pR 10 0], (m, n))
  obtain ⟨m3, q1, h⟩ := zr_k h
  refine zcallVV (pc := 8) (As := [pR 1 0]) (st := []) (c := 10) (j := 0) hF (m_X2_draw rfl q1) w_X2_draw k_6_211 (by decide +kernel) rfl rfl rfl rfl rfl rfl rfl ?_
  refine zrun hF [(.aload_n 0, 1, pI 0), (.getfield 35, 3, pR 0 5), (.getfield 214, 3, pR 10 7), (.bipush 10, 2, pI 10)] 11 _ (by decide +kernel) ?_
  refine (And.intro rfl (And.intro rfl (And.intro rfl (And.intro rfl ?_))))
  show zG w f 1 20 ([some (pR 0 0)], [pI 10, pI (m3.1 10 0 7)], (m3, n))
  refine zicmp_le (tgt := 32) (pc := 20) hF (by decide +kernel) (fun b4 => ?_) (fun b4 => ?_)
  · replace h := zit b4 h
    refine zrun hF [(.aload_n 0, 1, pI 0), (.getfield 35, 3, pR 0 5)] 32 _ (by decide +kernel) ?_
    refine (And.intro rfl (And.intro rfl ?_))
    show zG w f 1 36 ([some (pR 0 0)], [pR 10 0], (m3, n))
    obtain ⟨r6, m7, q5, h⟩ := zb_k h
    refine zcallVI (pc := 36) (As := []) (st := []) (c := 10) (j := 0) hF (m_X2_fewestSets  q5) w_X2_fewestSets k_6_240 (by decide +kernel) rfl rfl rfl rfl rfl rfl rfl ?_
    exact zretI (pc := 39) hF hR (by decide +kernel) rfl (congrArg Prod.fst (Option.some.inj h)) (congrArg (fun (q : Int32 × zMem) => (q.2, n)) (Option.some.inj h))
  · replace h := zif b4 h
    refine zrun hF [(.aload_n 0, 1, pI 0), (.bipush (-7), 2, pI (-7))] 23 _ (by decide +kernel) ?_
    show zG w f 1 26 ([some (pR 0 0)], [pI (-7), pR 0 0], (m3, n))
    obtain ⟨r9, m10, q8, h⟩ := zb_k h
    refine zcallVI (pc := 26) (As := [pI (-7)]) (st := []) (c := 0) (j := 0) hF (m_X6_refuse  q8) w_X6_refuse k_6_73 (by decide +kernel) rfl rfl rfl rfl rfl rfl rfl ?_
    refine zgoto (tgt := 39) (pc := 29) hF (by decide +kernel) ?_
    exact zretI (pc := 39) hF hR (by decide +kernel) rfl (congrArg Prod.fst (Option.some.inj h)) (congrArg (fun (q : Int32 × zMem) => (q.2, n)) (Option.some.inj h))

