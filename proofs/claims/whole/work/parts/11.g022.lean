set_option maxHeartbeats 4000000 in
set_option maxRecDepth 100000 in
theorem m_X7_noTen {w : zWd} {lc : Launch} {n : zMem} {a1 : Int32} {m : zMem} {x : Int32} {m0 : zMem}  (h : s_X7_noTen a1 m = some (x, m0)) : zMet w lc 1 yX7_noTen cX7_noTen 2 (some .int) [pR 64 0, pI a1] (n, m) (zQI w x (n, m0)) := by
  refine zmet (o := 7) (by decide +kernel) rfl (Nat.le_of_ble_eq_true rfl) rfl (fun f hl hF hR => ?_)
  unfold s_X7_noTen at h
  show zG w f 2 0 ([some (pR 64 0), some (pI a1)], [], (n, m))
  obtain ⟨c1, h⟩ := zchk h
  refine zrun hF [(.aload_n 0, 1, pI 0), (.getfield 19, 3, pR 64 7), (.iload_n 1, 1, pI 0), (.ineg, 1, pI 0), (.dup2, 1, pI 0), (.iaload, 1, pI 0), (.iconst 1, 1, pI 1), (.iadd, 1, pI 0), (.iastore, 1, pI 0)] 0 _ (by decide +kernel) ?_
  refine (And.intro rfl (And.intro rfl (And.intro rfl (And.intro rfl (And.intro rfl (And.intro c1 (And.intro rfl (And.intro rfl (And.intro c1 ?_)))))))))
  refine zlet_k (P := fun (m2 : zMem) => zG w f 2 11 ([some (pR 64 0), some (pI a1)], [], (n, m2))) h (fun m2 h => ?_)
  refine zrun hF [(.iload_n 1, 1, pI 0), (.bipush 10, 2, pI 10), (.isub, 1, pI 0)] 11 _ (by decide +kernel) ?_
  show zG w f 2 15 ([some (pR 64 0), some (pI a1)], [pI (a1 - 10)], (n, m2))
  exact zretI (pc := 15) hF hR (by decide +kernel) rfl (congrArg Prod.fst (Option.some.inj h)) (congrArg (fun (q : Int32 × zMem) => (n, q.2)) (Option.some.inj h))

set_option maxHeartbeats 4000000 in
set_option maxRecDepth 100000 in
theorem m_X7_judge {w : zWd} {lc : Launch} {n : zMem} {a1 : Int32} {a2 : Int32} {m : zMem} {x : Int32} {m0 : zMem}  (h : s_X7_judge a1 a2 m = some (x, m0)) : zMet w lc 5 yX7_judge cX7_judge 5 (some .int) [pR 64 0, pI a1, pI a2] (n, m) (zQI w x (n, m0)) := by
  refine zmet (o := 7) (by decide +kernel) rfl (Nat.le_of_ble_eq_true rfl) rfl (fun f hl hF hR => ?_)
  unfold s_X7_judge at h
  show zG w f 5 0 ([some (pR 64 0), some (pI a1), some (pI a2), none, none], [], (n, m))
  refine zrun hF [(.aload_n 0, 1, pI 0), (.iload_n 1, 1, pI 0), (.iload_n 2, 1, pI 0)] 0 _ (by decide +kernel) ?_
  show zG w f 5 3 ([some (pR 64 0), some (pI a1), some (pI a2), none, none], [pI a2, pI a1, pR 64 0], (n, m))
  obtain ⟨r2, q1, h⟩ := zr_k h
  refine zcallVI (pc := 3) (As := [pI a1, pI a2]) (st := []) (c := 64) (j := 0) hF (m_X7_barsOf  q1) w_X7_barsOf k_7_271 (by decide +kernel) rfl rfl rfl rfl rfl rfl rfl ?_
  refine zrun hF [(.istore_n 3, 1, pI 0), (.iload_n 3, 1, pI 0)] 6 _ (by decide +kernel) ?_
  refine (And.intro rfl ?_)
  show zG w f 5 8 ([some (pR 64 0), some (pI a1), some (pI a2), some (pI r2), none], [pI r2], (n, m))
  refine zif_eq (tgt := 17) (pc := 8) hF (by decide +kernel) (fun b3 => ?_) (fun b3 => ?_)
  · replace h := zit b3 h
    refine zrun hF [(.aload_n 0, 1, pI 0)] 17 _ (by decide +kernel) ?_
    show zG w f 5 18 ([some (pR 64 0), some (pI a1), some (pI a2), some (pI r2), none], [pR 64 0], (n, m))
    obtain ⟨m6, q4, h⟩ := zr_k h
    refine zcallVV (pc := 18) (As := []) (st := []) (c := 64) (j := 0) hF (m_X7_keepsHad  q4) w_X7_keepsHad k_7_247 (by decide +kernel) rfl rfl rfl rfl rfl rfl rfl ?_
    refine zrun hF [(.aload_n 0, 1, pI 0), (.iload_n 1, 1, pI 0), (.iload_n 2, 1, pI 0)] 21 _ (by decide +kernel) ?_
    show zG w f 5 24 ([some (pR 64 0), some (pI a1), some (pI a2), some (pI r2), none], [pI a2, pI a1, pR 64 0], (n, m6))
    obtain ⟨r8, m9, q7, h⟩ := zb_k h
    refine zcallVI (pc := 24) (As := [pI a1, pI a2]) (st := []) (c := 64) (j := 0) hF (m_X7_wrongIn  q7) w_X7_wrongIn k_7_277 (by decide +kernel) rfl rfl rfl rfl rfl rfl rfl ?_
    refine zrun hF [(.istore 4, 2, pI 0), (.aload_n 0, 1, pI 0)] 27 _ (by decide +kernel) ?_
    refine (And.intro rfl ?_)
    show zG w f 5 30 ([some (pR 64 0), some (pI a1), some (pI a2), some (pI r2), some (pI r8)], [pR 64 0], (n, m9))
    obtain ⟨m12, q10, h⟩ := zr_k h
    refine zcallVV (pc := 30) (As := []) (st := []) (c := 64) (j := 0) hF (m_X7_bringsHad  q10) w_X7_bringsHad k_7_253 (by decide +kernel) rfl rfl rfl rfl rfl rfl rfl ?_
    refine zrun hF [(.iload 4, 2, pI 0)] 33 _ (by decide +kernel) ?_
    show zG w f 5 35 ([some (pR 64 0), some (pI a1), some (pI a2), some (pI r2), some (pI r8)], [pI r8], (n, m12))
    exact zretI (pc := 35) hF hR (by decide +kernel) rfl (congrArg Prod.fst (Option.some.inj h)) (congrArg (fun (q : Int32 × zMem) => (n, q.2)) (Option.some.inj h))
  · replace h := zif b3 h
    refine zrun hF [(.aload_n 0, 1, pI 0), (.iload_n 3, 1, pI 0)] 11 _ (by decide +kernel) ?_
    show zG w f 5 13 ([some (pR 64 0), some (pI a1), some (pI a2), some (pI r2), none], [pI r2, pR 64 0], (n, m))
    obtain ⟨r14, m15, q13, h⟩ := zb_k h
    refine zcallVI (pc := 13) (As := [pI r2]) (st := []) (c := 64) (j := 0) hF (m_X7_noTen  q13) w_X7_noTen k_7_274 (by decide +kernel) rfl rfl rfl rfl rfl rfl rfl ?_
    exact zretI (pc := 16) hF hR (by decide +kernel) rfl (congrArg Prod.fst (Option.some.inj h)) (congrArg (fun (q : Int32 × zMem) => (n, q.2)) (Option.some.inj h))

set_option maxHeartbeats 4000000 in
set_option maxRecDepth 100000 in
theorem m_X6_behind_L33 {w : zWd} {f : zFr} {n : zMem} {x : Int32} {m0 : zMem} {lc : Launch} (hl : f.2.1 = lc) (hF : zFOK w f 6 cX6_behind 5 6) (hR : zFin w f (some .int) (zQI w x (m0, n))) : ∀ (x1 : Int32) (x2 : Int32) (x3 : Int32) (x4 : Int32) (m : zMem), s_X6_behind_L33 x1 x2 x3 x4 m = some (x, m0) → zG w f 5 33 ([some (pR 0 0), some (pI x1), some (pI x2), some (pI x3), some (pI x4)], [], (m, n)) := by
  intro x1 x2 x3 x4 m h
  unfold s_X6_behind_L33 at h
  refine zrun hF [(.iload 4, 2, pI 0)] 33 _ (by decide +kernel) ?_
  show zG w f 5 35 ([some (pR 0 0), some (pI x1), some (pI x2), some (pI x3), some (pI x4)], [pI x4], (m, n))
  refine zif_eq (tgt := 45) (pc := 35) hF (by decide +kernel) (fun b7 => ?_) (fun b7 => ?_)
  · replace h := zit b7 h
    refine zrun hF [(.aload_n 0, 1, pI 0), (.getfield 35, 3, pR 0 5), (.aload_n 0, 1, pI 0), (.getfield 10, 3, pR 0 0)] 45 _ (by decide +kernel) ?_
    refine (And.intro rfl (And.intro rfl (And.intro rfl (And.intro rfl ?_))))
    show zG w f 5 53 ([some (pR 0 0), some (pI x1), some (pI x2), some (pI x3), some (pI x4)], [pR 1 0, pR 10 0], (m, n))
    obtain ⟨m10, q8, h⟩ := zr_k h
    refine zcallVV (pc := 53) (As := [pR 1 0]) (st := []) (c := 10) (j := 0) hF (m_X2_draw rfl q8) w_X2_draw k_6_211 (by decide +kernel) rfl rfl rfl rfl rfl rfl rfl ?_
    obtain ⟨c11, h⟩ := zchk h
    refine zrun hF [(.aload_n 0, 1, pI 0), (.getfield 42, 3, pR 0 6), (.aload_n 0, 1, pI 0), (.getfield 28, 3, pR 0 4), (.iload_n 1, 1, pI 0), (.aaload, 1, pI 0), (.iload_n 2, 1, pI 0), (.aload_n 0, 1, pI 0), (.getfield 35, 3, pR 0 5)] 56 _ (by decide +kernel) ?_
    refine (And.intro rfl (And.intro rfl (And.intro rfl (And.intro rfl (And.intro rfl (And.intro c11 (And.intro rfl (And.intro rfl ?_))))))))
    show zG w f 5 71 ([some (pR 0 0), some (pI x1), some (pI x2), some (pI x3), some (pI x4)], [pR 10 0, pI x2, pR 8 (ix x1), pR 18 0], (m10, n))
    obtain ⟨r13, m14, q12, h⟩ := zb_k h
    refine zcallVI (pc := 71) (As := [pR 8 (ix x1), pI x2, pR 10 0]) (st := []) (c := 18) (j := 0) hF (m_X1_firstWrong (zinb_blt c11) q12) w_X1_firstWrong k_6_278 (by decide +kernel) rfl rfl rfl rfl rfl rfl rfl ?_
    refine zrun hF [(.iconst (-1), 1, pI (-1))] 74 _ (by decide +kernel) ?_
    show zG w f 5 75 ([some (pR 0 0), some (pI x1), some (pI x2), some (pI x3), some (pI x4)], [pI (-1), pI r13], (m14, n))
    refine zicmp_eq (tgt := 85) (pc := 75) hF (by decide +kernel) (fun b15 => ?_) (fun b15 => ?_)
    · replace h := zit b15 h
      refine zrun hF [(.iload_n 3, 1, pI 0)] 85 _ (by decide +kernel) ?_
      show zG w f 5 86 ([some (pR 0 0), some (pI x1), some (pI x2), some (pI x3), some (pI x4)], [pI x3], (m14, n))
      refine zif_ne (tgt := 102) (pc := 86) hF (by decide +kernel) (fun b16 => ?_) (fun b16 => ?_)
      · replace h := zit b16 h
        refine zrun hF [(.aload_n 0, 1, pI 0), (.getfield 42, 3, pR 0 6), (.getfield 282, 3, pR 18 0)] 89 _ (by decide +kernel) ?_
        refine (And.intro rfl (And.intro rfl (And.intro rfl (And.intro rfl ?_))))
        show zG w f 5 96 ([some (pR 0 0), some (pI x1), some (pI x2), some (pI x3), some (pI x4)], [pL (m14.2 18 0 0)], (m14, n))
        obtain ⟨r18, q17, h⟩ := zr_k h
        refine zcallSI (pc := 96) (As := [pL (m14.2 18 0 0)]) (st := []) hF (m_J13_bitCount_95d88  q17) w_J13_bitCount_95d88 k_6_286 (by decide +kernel) rfl rfl rfl rfl ?_
        refine zgoto (tgt := 109) (pc := 99) hF (by decide +kernel) ?_
        exact zretI (pc := 109) hF hR (by decide +kernel) rfl (congrArg Prod.fst (Option.some.inj h)) (congrArg (fun (q : Int32 × zMem) => (q.2, n)) (Option.some.inj h))
      · replace h := zif b16 h
        refine zrun hF [(.aload_n 0, 1, pI 0), (.getfield 42, 3, pR 0 6), (.getfield 291, 3, pR 18 1)] 102 _ (by decide +kernel) ?_
        refine (And.intro rfl (And.intro rfl (And.intro rfl (And.intro rfl ?_))))
        show zG w f 5 109 ([some (pR 0 0), some (pI x1), some (pI x2), some (pI x3), some (pI x4)], [pI (m14.1 18 0 1)], (m14, n))
        exact zretI (pc := 109) hF hR (by decide +kernel) rfl (congrArg Prod.fst (Option.some.inj h)) (congrArg (fun (q : Int32 × zMem) => (q.2, n)) (Option.some.inj h))
    · replace h := zif b15 h
      refine zrun hF [(.aload_n 0, 1, pI 0), (.bipush (-6), 2, pI (-6))] 78 _ (by decide +kernel) ?_
      show zG w f 5 81 ([some (pR 0 0), some (pI x1), some (pI x2), some (pI x3), some (pI x4)], [pI (-6), pR 0 0], (m14, n))
      obtain ⟨r20, m21, q19, h⟩ := zb_k h
      refine zcallVI (pc := 81) (As := [pI (-6)]) (st := []) (c := 0) (j := 0) hF (m_X6_refuse  q19) w_X6_refuse k_6_73 (by decide +kernel) rfl rfl rfl rfl rfl rfl rfl ?_
      exact zretI (pc := 84) hF hR (by decide +kernel) rfl (congrArg Prod.fst (Option.some.inj h)) (congrArg (fun (q : Int32 × zMem) => (q.2, n)) (Option.some.inj h))
  · replace h := zif b7 h
    refine zrun hF [(.aload_n 0, 1, pI 0), (.iload 4, 2, pI 0)] 38 _ (by decide +kernel) ?_
    show zG w f 5 41 ([some (pR 0 0), some (pI x1), some (pI x2), some (pI x3), some (pI x4)], [pI x4, pR 0 0], (m, n))
    obtain ⟨r23, m24, q22, h⟩ := zb_k h
    refine zcallVI (pc := 41) (As := [pI x4]) (st := []) (c := 0) (j := 0) hF (m_X6_refuse  q22) w_X6_refuse k_6_73 (by decide +kernel) rfl rfl rfl rfl rfl rfl rfl ?_
    exact zretI (pc := 44) hF hR (by decide +kernel) rfl (congrArg Prod.fst (Option.some.inj h)) (congrArg (fun (q : Int32 × zMem) => (q.2, n)) (Option.some.inj h))

set_option maxHeartbeats 4000000 in
set_option maxRecDepth 100000 in
theorem m_X6_behind_L20 {w : zWd} {f : zFr} {n : zMem} {x : Int32} {m0 : zMem} {lc : Launch} (hl : f.2.1 = lc) (hF : zFOK w f 6 cX6_behind 5 6) (hR : zFin w f (some .int) (zQI w x (m0, n))) : ∀ (x1 : Int32) (x2 : Int32) (x3 : Int32) (x4 : Int32) (m : zMem), s_X6_behind_L20 x1 x2 x3 x4 m = some (x, m0) → zG w f 5 20 ([some (pR 0 0), some (pI x1), some (pI x2), some (pI x3), some (pI x4)], [], (m, n)) := by
  intro x1 x2 x3 x4 m h
  unfold s_X6_behind_L20 at h
  refine zrun hF [(.iload_n 3, 1, pI 0)] 20 _ (by decide +kernel) ?_
  show zG w f 5 21 ([some (pR 0 0), some (pI x1), some (pI x2), some (pI x3), some (pI x4)], [pI x3], (m, n))
  refine zif_eq (tgt := 33) (pc := 21) hF (by decide +kernel) (fun b5 => ?_) (fun b5 => ?_)
  · replace h := zit b5 h
    exact m_X6_behind_L33 hl hF hR  _ _ _ _ _  h
  · replace h := zif b5 h
    refine zrun hF [(.iload_n 3, 1, pI 0), (.iconst 1, 1, pI 1)] 24 _ (by decide +kernel) ?_
    show zG w f 5 26 ([some (pR 0 0), some (pI x1), some (pI x2), some (pI x3), some (pI x4)], [pI 1, pI x3], (m, n))
    refine zicmp_eq (tgt := 33) (pc := 26) hF (by decide +kernel) (fun b6 => ?_) (fun b6 => ?_)
    · replace h := zit b6 h
      exact m_X6_behind_L33 hl hF hR  _ _ _ _ _  h
    · replace h := zif b6 h
      refine zrun hF [(.bipush (-5), 2, pI (-5)), (.istore 4, 2, pI 0)] 29 _ (by decide +kernel) ?_
      refine (And.intro rfl ?_)
      show zG w f 5 33 ([some (pR 0 0), some (pI x1), some (pI x2), some (pI x3), some (pI (-5))], [], (m, n))
      exact m_X6_behind_L33 hl hF hR  _ _ _ _ _  h

set_option maxHeartbeats 4000000 in
set_option maxRecDepth 100000 in
theorem m_X6_behind {w : zWd} {lc : Launch} {n : zMem} {a1 : Int32} {a2 : Int32} {a3 : Int32} {m : zMem} {x : Int32} {m0 : zMem}  (h : s_X6_behind a1 a2 a3 m = some (x, m0)) : zMet w lc 6 yX6_behind cX6_behind 5 (some .int) [pR 0 0, pI a1, pI a2, pI a3] (m, n) (zQI w x (m0, n)) := by
  refine zmet (o := 6) (by decide +kernel) rfl (Nat.le_of_ble_eq_true rfl) rfl (fun f hl hF hR => ?_)
  unfold s_X6_behind at h
  show zG w f 5 0 ([some (pR 0 0), some (pI a1), some (pI a2), some (pI a3), none], [], (m, n))
  refine zrun hF [(.aload_n 0, 1, pI 0), (.iload_n 1, 1, pI 0), (.iload_n 2, 1, pI 0)] 0 _ (by decide +kernel) ?_
  show zG w f 5 3 ([some (pR 0 0), some (pI a1), some (pI a2), some (pI a3), none], [pI a2, pI a1, pR 0 0], (m, n))
  obtain ⟨r2, q1, h⟩ := zr_k h
  refine zcallVI (pc := 3) (As := [pI a1, pI a2]) (st := []) (c := 0) (j := 0) hF (m_X6_refusalOfEvening  q1) w_X6_refusalOfEvening k_6_272 (by decide +kernel) rfl rfl rfl rfl rfl rfl rfl ?_
  refine zrun hF [(.istore 4, 2, pI 0), (.iload 4, 2, pI 0)] 6 _ (by decide +kernel) ?_
  refine (And.intro rfl ?_)
  show zG w f 5 10 ([some (pR 0 0), some (pI a1), some (pI a2), some (pI a3), some (pI r2)], [pI r2], (m, n))
  refine zif_eq (tgt := 20) (pc := 10) hF (by decide +kernel) (fun b3 => ?_) (fun b3 => ?_)
  · replace h := zit b3 h
    exact m_X6_behind_L20 hl hF hR  _ _ _ _ _  h
  · replace h := zif b3 h
    refine zrun hF [(.iload 4, 2, pI 0), (.bipush (-6), 2, pI (-6))] 13 _ (by decide +kernel) ?_
    show zG w f 5 17 ([some (pR 0 0), some (pI a1), some (pI a2), some (pI a3), some (pI r2)], [pI (-6), pI r2], (m, n))
    refine zicmp_ne (tgt := 33) (pc := 17) hF (by decide +kernel) (fun b4 => ?_) (fun b4 => ?_)
    · replace h := zit b4 h
      exact m_X6_behind_L20 hl hF hR  _ _ _ _ _  h
    · replace h := zif b4 h
      exact m_X6_behind_L33 hl hF hR  _ _ _ _ _  h

set_option maxHeartbeats 4000000 in
set_option maxRecDepth 100000 in
theorem m_X7_behind_L39 {w : zWd} {f : zFr} {n : zMem} {x : Int32} {m0 : zMem} {lc : Launch} (hl : f.2.1 = lc) (hF : zFOK w f 7 cX7_behind 7 5) (hR : zFin w f (some .int) (zQI w x (n, m0))) : ∀ (x1 : Int32) (x2 : Int32) (x3 : Int32) (x4 : Int32) (m : zMem), s_X7_behind_L39 x1 x2 x3 x4 m = some (x, m0) → zG w f 7 39 ([some (pR 64 0), some (pI x1), some (pI x2), some (pI x3), some (pI x4), none, none], [], (n, m)) := by
  intro x1 x2 x3 x4 m h
  unfold s_X7_behind_L39 at h
  refine zrun hF [(.iload 4, 2, pI 0)] 39 _ (by decide +kernel) ?_
  show zG w f 7 41 ([some (pR 64 0), some (pI x1), some (pI x2), some (pI x3), some (pI x4), none, none], [pI x4], (n, m))
  refine zif_eq (tgt := 51) (pc := 41) hF (by decide +kernel) (fun b9 => ?_) (fun b9 => ?_)
  · replace h := zit b9 h
    refine zrun hF [(.aload_n 0, 1, pI 0)] 51 _ (by decide +kernel) ?_
    show zG w f 7 52 ([some (pR 64 0), some (pI x1), some (pI x2), some (pI x3), some (pI x4), none, none], [pR 64 0], (n, m))
    obtain ⟨m12, q10, h⟩ := zr_k h
    refine zcallVV (pc := 52) (As := []) (st := []) (c := 64) (j := 0) hF (m_X7_keepsHad  q10) w_X7_keepsHad k_7_247 (by decide +kernel) rfl rfl rfl rfl rfl rfl rfl ?_
    refine zrun hF [(.aload_n 0, 1, pI 0), (.iload_n 1, 1, pI 0), (.iload_n 2, 1, pI 0)] 55 _ (by decide +kernel) ?_
    show zG w f 7 58 ([some (pR 64 0), some (pI x1), some (pI x2), some (pI x3), some (pI x4), none, none], [pI x2, pI x1, pR 64 0], (n, m12))
    obtain ⟨r14, m15, q13, h⟩ := zb_k h
    refine zcallVI (pc := 58) (As := [pI x1, pI x2]) (st := []) (c := 64) (j := 0) hF (m_X7_wrongIn  q13) w_X7_wrongIn k_7_277 (by decide +kernel) rfl rfl rfl rfl rfl rfl rfl ?_
    refine zrun hF [(.istore 5, 2, pI 0), (.aload_n 0, 1, pI 0)] 61 _ (by decide +kernel) ?_
    refine (And.intro rfl ?_)
    show zG w f 7 64 ([some (pR 64 0), some (pI x1), some (pI x2), some (pI x3), some (pI x4), some (pI r14), none], [pR 64 0], (n, m15))
    obtain ⟨r17, m18, q16, h⟩ := zb_k h
    refine zcallVI (pc := 64) (As := []) (st := []) (c := 64) (j := 0) hF (m_X7_lists  q16) w_X7_lists k_7_225 (by decide +kernel) rfl rfl rfl rfl rfl rfl rfl ?_
    refine zrun hF [(.istore 6, 2, pI 0), (.aload_n 0, 1, pI 0)] 67 _ (by decide +kernel) ?_
    refine (And.intro rfl ?_)
    show zG w f 7 70 ([some (pR 64 0), some (pI x1), some (pI x2), some (pI x3), some (pI x4), some (pI r14), some (pI r17)], [pR 64 0], (n, m18))
    obtain ⟨m21, q19, h⟩ := zr_k h
    refine zcallVV (pc := 70) (As := []) (st := []) (c := 64) (j := 0) hF (m_X7_bringsHad  q19) w_X7_bringsHad k_7_253 (by decide +kernel) rfl rfl rfl rfl rfl rfl rfl ?_
    refine zrun hF [(.iload 5, 2, pI 0), (.iconst (-1), 1, pI (-1))] 73 _ (by decide +kernel) ?_
    show zG w f 7 76 ([some (pR 64 0), some (pI x1), some (pI x2), some (pI x3), some (pI x4), some (pI r14), some (pI r17)], [pI (-1), pI r14], (n, m21))
    refine zicmp_eq (tgt := 88) (pc := 76) hF (by decide +kernel) (fun b22 => ?_) (fun b22 => ?_)
    · replace h := zit b22 h
      refine zrun hF [(.iload_n 3, 1, pI 0)] 88 _ (by decide +kernel) ?_
      show zG w f 7 89 ([some (pR 64 0), some (pI x1), some (pI x2), some (pI x3), some (pI x4), some (pI r14), some (pI r17)], [pI x3], (n, m21))
      refine zif_ne (tgt := 97) (pc := 89) hF (by decide +kernel) (fun b23 => ?_) (fun b23 => ?_)
      · replace h := zit b23 h
        refine zrun hF [(.iload 6, 2, pI 0)] 92 _ (by decide +kernel) ?_
        show zG w f 7 94 ([some (pR 64 0), some (pI x1), some (pI x2), some (pI x3), some (pI x4), some (pI r14), some (pI r17)], [pI r17], (n, m21))
        refine zgoto (tgt := 101) (pc := 94) hF (by decide +kernel) ?_
        exact zretI (pc := 101) hF hR (by decide +kernel) rfl (congrArg Prod.fst (Option.some.inj h)) (congrArg (fun (q : Int32 × zMem) => (n, q.2)) (Option.some.inj h))
      · replace h := zif b23 h
        refine zrun hF [(.aload_n 0, 1, pI 0), (.getfield 262, 3, pR 64 37)] 97 _ (by decide +kernel) ?_
        refine (And.intro rfl (And.intro rfl ?_))
        show zG w f 7 101 ([some (pR 64 0), some (pI x1), some (pI x2), some (pI x3), some (pI x4), some (pI r14), some (pI r17)], [pI (m21.1 64 0 37)], (n, m21))
        exact zretI (pc := 101) hF hR (by decide +kernel) rfl (congrArg Prod.fst (Option.some.inj h)) (congrArg (fun (q : Int32 × zMem) => (n, q.2)) (Option.some.inj h))
    · replace h := zif b22 h
      refine zrun hF [(.aload_n 0, 1, pI 0), (.bipush (-6), 2, pI (-6))] 79 _ (by decide +kernel) ?_
      show zG w f 7 82 ([some (pR 64 0), some (pI x1), some (pI x2), some (pI x3), some (pI x4), some (pI r14), some (pI r17)], [pI (-6), pR 64 0], (n, m21))
      obtain ⟨r25, m26, q24, h⟩ := zb_k h
      refine zcallVI (pc := 82) (As := [pI (-6)]) (st := []) (c := 64) (j := 0) hF (m_X7_no  q24) w_X7_no k_7_100 (by decide +kernel) rfl rfl rfl rfl rfl rfl rfl ?_
      refine zgoto (tgt := 101) (pc := 85) hF (by decide +kernel) ?_
      exact zretI (pc := 101) hF hR (by decide +kernel) rfl (congrArg Prod.fst (Option.some.inj h)) (congrArg (fun (q : Int32 × zMem) => (n, q.2)) (Option.some.inj h))
  · replace h := zif b9 h
    refine zrun hF [(.aload_n 0, 1, pI 0), (.iload 4, 2, pI 0)] 44 _ (by decide +kernel) ?_
    show zG w f 7 47 ([some (pR 64 0), some (pI x1), some (pI x2), some (pI x3), some (pI x4), none, none], [pI x4, pR 64 0], (n, m))
    obtain ⟨r28, m29, q27, h⟩ := zb_k h
    refine zcallVI (pc := 47) (As := [pI x4]) (st := []) (c := 64) (j := 0) hF (m_X7_no  q27) w_X7_no k_7_100 (by decide +kernel) rfl rfl rfl rfl rfl rfl rfl ?_
    exact zretI (pc := 50) hF hR (by decide +kernel) rfl (congrArg Prod.fst (Option.some.inj h)) (congrArg (fun (q : Int32 × zMem) => (n, q.2)) (Option.some.inj h))

set_option maxHeartbeats 4000000 in
set_option maxRecDepth 100000 in
theorem m_X7_behind_L26 {w : zWd} {f : zFr} {n : zMem} {x : Int32} {m0 : zMem} {lc : Launch} (hl : f.2.1 = lc) (hF : zFOK w f 7 cX7_behind 7 5) (hR : zFin w f (some .int) (zQI w x (n, m0))) : ∀ (x1 : Int32) (x2 : Int32) (x3 : Int32) (x4 : Int32) (m : zMem), s_X7_behind_L26 x1 x2 x3 x4 m = some (x, m0) → zG w f 7 26 ([some (pR 64 0), some (pI x1), some (pI x2), some (pI x3), some (pI x4), none, none], [], (n, m)) := by
  intro x1 x2 x3 x4 m h
  unfold s_X7_behind_L26 at h
  refine zrun hF [(.iload 4, 2, pI 0)] 26 _ (by decide +kernel) ?_
  show zG w f 7 28 ([some (pR 64 0), some (pI x1), some (pI x2), some (pI x3), some (pI x4), none, none], [pI x4], (n, m))
  refine zif_ne (tgt := 39) (pc := 28) hF (by decide +kernel) (fun b6 => ?_) (fun b6 => ?_)
  · replace h := zit b6 h
    refine zrun hF [(.aload_n 0, 1, pI 0), (.iload_n 1, 1, pI 0), (.iload_n 2, 1, pI 0)] 31 _ (by decide +kernel) ?_
    show zG w f 7 34 ([some (pR 64 0), some (pI x1), some (pI x2), some (pI x3), some (pI x4), none, none], [pI x2, pI x1, pR 64 0], (n, m))
    obtain ⟨r8, q7, h⟩ := zr_k h
    refine zcallVI (pc := 34) (As := [pI x1, pI x2]) (st := []) (c := 64) (j := 0) hF (m_X7_barsOf  q7) w_X7_barsOf k_7_271 (by decide +kernel) rfl rfl rfl rfl rfl rfl rfl ?_
    refine zrun hF [(.istore 4, 2, pI 0)] 37 _ (by decide +kernel) ?_
    refine (And.intro rfl ?_)
    show zG w f 7 39 ([some (pR 64 0), some (pI x1), some (pI x2), some (pI x3), some (pI r8), none, none], [], (n, m))
    exact m_X7_behind_L39 hl hF hR  _ _ _ _ _  h
  · replace h := zif b6 h
    exact m_X7_behind_L39 hl hF hR  _ _ _ _ _  h

set_option maxHeartbeats 4000000 in
set_option maxRecDepth 100000 in
theorem m_X7_behind_L22 {w : zWd} {f : zFr} {n : zMem} {x : Int32} {m0 : zMem} {lc : Launch} (hl : f.2.1 = lc) (hF : zFOK w f 7 cX7_behind 7 5) (hR : zFin w f (some .int) (zQI w x (n, m0))) : ∀ (x1 : Int32) (x2 : Int32) (x3 : Int32) (m : zMem), s_X7_behind_L22 x1 x2 x3 m = some (x, m0) → zG w f 7 22 ([some (pR 64 0), some (pI x1), some (pI x2), some (pI x3), none, none, none], [], (n, m)) := by
  intro x1 x2 x3 m h
  unfold s_X7_behind_L22 at h
  refine zrun hF [(.bipush (-5), 2, pI (-5)), (.istore 4, 2, pI 0)] 22 _ (by decide +kernel) ?_
  refine (And.intro rfl ?_)
  show zG w f 7 26 ([some (pR 64 0), some (pI x1), some (pI x2), some (pI x3), some (pI (-5)), none, none], [], (n, m))
  exact m_X7_behind_L26 hl hF hR  _ _ _ _ _  h

set_option maxHeartbeats 4000000 in
set_option maxRecDepth 100000 in
theorem m_X7_behind {w : zWd} {lc : Launch} {n : zMem} {a1 : Int32} {a2 : Int32} {a3 : Int32} {m : zMem} {x : Int32} {m0 : zMem}  (h : s_X7_behind a1 a2 a3 m = some (x, m0)) : zMet w lc 5 yX7_behind cX7_behind 7 (some .int) [pR 64 0, pI a1, pI a2, pI a3] (n, m) (zQI w x (n, m0)) := by
  refine zmet (o := 7) (by decide +kernel) rfl (Nat.le_of_ble_eq_true rfl) rfl (fun f hl hF hR => ?_)
  unfold s_X7_behind at h
  show zG w f 7 0 ([some (pR 64 0), some (pI a1), some (pI a2), some (pI a3), none, none, none], [], (n, m))
  refine zrun hF [(.aload_n 0, 1, pI 0), (.iload_n 1, 1, pI 0), (.iload_n 2, 1, pI 0)] 0 _ (by decide +kernel) ?_
  show zG w f 7 3 ([some (pR 64 0), some (pI a1), some (pI a2), some (pI a3), none, none, none], [pI a2, pI a1, pR 64 0], (n, m))
  obtain ⟨r2, q1, h⟩ := zr_k h
  refine zcallVI (pc := 3) (As := [pI a1, pI a2]) (st := []) (c := 64) (j := 0) hF (m_X7_bars  q1) w_X7_bars k_7_268 (by decide +kernel) rfl rfl rfl rfl rfl rfl rfl ?_
  refine zrun hF [(.istore 4, 2, pI 0), (.iload 4, 2, pI 0)] 6 _ (by decide +kernel) ?_
  refine (And.intro rfl ?_)
  show zG w f 7 10 ([some (pR 64 0), some (pI a1), some (pI a2), some (pI a3), some (pI r2), none, none], [pI r2], (n, m))
  refine zif_ne (tgt := 26) (pc := 10) hF (by decide +kernel) (fun b3 => ?_) (fun b3 => ?_)
  · replace h := zit b3 h
    refine zrun hF [(.iload_n 3, 1, pI 0)] 13 _ (by decide +kernel) ?_
    show zG w f 7 14 ([some (pR 64 0), some (pI a1), some (pI a2), some (pI a3), some (pI r2), none, none], [pI a3], (n, m))
    refine zif_lt (tgt := 22) (pc := 14) hF (by decide +kernel) (fun b4 => ?_) (fun b4 => ?_)
    · replace h := zit b4 h
      refine zcut [true, true, true, true, false, true, true] ?_
      exact m_X7_behind_L22 hl hF hR  _ _ _ _  h
    · replace h := zif b4 h
      refine zrun hF [(.iload_n 3, 1, pI 0), (.iconst 1, 1, pI 1)] 17 _ (by decide +kernel) ?_
      show zG w f 7 19 ([some (pR 64 0), some (pI a1), some (pI a2), some (pI a3), some (pI r2), none, none], [pI 1, pI a3], (n, m))
      refine zicmp_le (tgt := 26) (pc := 19) hF (by decide +kernel) (fun b5 => ?_) (fun b5 => ?_)
      · replace h := zit b5 h
        exact m_X7_behind_L26 hl hF hR  _ _ _ _ _  h
      · replace h := zif b5 h
        refine zcut [true, true, true, true, false, true, true] ?_
        exact m_X7_behind_L22 hl hF hR  _ _ _ _  h
  · replace h := zif b3 h
    exact m_X7_behind_L26 hl hF hR  _ _ _ _ _  h

set_option maxHeartbeats 4000000 in
set_option maxRecDepth 100000 in
theorem m_X6_disputedBut_L99 {w : zWd} {f : zFr} {n : zMem} {x : Int32} {lc : Launch} {mr : zMem} (hl : f.2.1 = lc) (hF : zFOK w f 6 cX6_disputedBut 8 3) (hR : zFin w f (some .int) (zQI w x (mr, n))) {k5 : Nat → Int32 → Int32 → Int32 → zMem → Option Int32} (hk5 : ∀ (x1 : Nat) (x2 : Int32) (x3 : Int32) (x4 : Int32) (m : zMem), Nat.blt x1 8 = true → m = mr → k5 x1 x2 x3 x4 m = some x → zG w f 8 5 ([some (pR 0 0), some (pR 8 x1), some (pI x2), some (pI x3), some (pI x4), none, none, none], [], (m, n))) {k23 : Nat → Int32 → Int32 → Int32 → Int32 → zMem → Option Int32} (hk23 : ∀ (x1 : Nat) (x2 : Int32) (x3 : Int32) (x4 : Int32) (x5 : Int32) (m : zMem), Nat.blt x1 8 = true → m = mr → k23 x1 x2 x3 x4 x5 m = some x → zG w f 8 23 ([some (pR 0 0), some (pR 8 x1), some (pI x2), some (pI x3), some (pI x4), some (pI x5), none, none], [], (m, n))) : ∀ (x1 : Nat) (x2 : Int32) (x3 : Int32) (x4 : Int32) (x5 : Int32) (m : zMem), Nat.blt x1 8 = true → m = mr → s_X6_disputedBut_L99 k5 k23 x1 x2 x3 x4 x5 m = some x → zG w f 8 99 ([some (pR 0 0), some (pR 8 x1), some (pI x2), some (pI x3), some (pI x4), some (pI x5), none, none], [], (m, n)) := by
  intro x1 x2 x3 x4 x5 m hx1 hm h
  unfold s_X6_disputedBut_L99 at h
  refine zrun hF [(.iinc 5 1, 3, pI 1)] 99 _ (by decide +kernel) ?_
  refine (And.intro rfl ?_)
  show zG w f 8 102 ([some (pR 0 0), some (pR 8 x1), some (pI x2), some (pI x3), some (pI x4), some (pI (x5 + 1)), none, none], [], (m, n))
  refine zgoto (tgt := 23) (pc := 102) hF (by decide +kernel) ?_
  exact hk23 _ _ _ _ _ _ hx1 hm h

set_option maxHeartbeats 4000000 in
set_option maxRecDepth 100000 in
theorem m_X6_disputedBut_L75 {w : zWd} {f : zFr} {n : zMem} {x : Int32} {lc : Launch} {mr : zMem} (hl : f.2.1 = lc) (hF : zFOK w f 6 cX6_disputedBut 8 3) (hR : zFin w f (some .int) (zQI w x (mr, n))) {k5 : Nat → Int32 → Int32 → Int32 → zMem → Option Int32} (hk5 : ∀ (x1 : Nat) (x2 : Int32) (x3 : Int32) (x4 : Int32) (m : zMem), Nat.blt x1 8 = true → m = mr → k5 x1 x2 x3 x4 m = some x → zG w f 8 5 ([some (pR 0 0), some (pR 8 x1), some (pI x2), some (pI x3), some (pI x4), none, none, none], [], (m, n))) {k23 : Nat → Int32 → Int32 → Int32 → Int32 → zMem → Option Int32} (hk23 : ∀ (x1 : Nat) (x2 : Int32) (x3 : Int32) (x4 : Int32) (x5 : Int32) (m : zMem), Nat.blt x1 8 = true → m = mr → k23 x1 x2 x3 x4 x5 m = some x → zG w f 8 23 ([some (pR 0 0), some (pR 8 x1), some (pI x2), some (pI x3), some (pI x4), some (pI x5), none, none], [], (m, n))) : ∀ (x1 : Nat) (x2 : Int32) (x3 : Int32) (x4 : Int32) (x5 : Int32) (x6 : Int32) (y0 : Int32) (m : zMem), Nat.blt x1 8 = true → m = mr → s_X6_disputedBut_L75 k5 k23 x1 x2 x3 x4 x5 x6 y0 m = some x → zG w f 8 75 ([some (pR 0 0), some (pR 8 x1), some (pI x2), some (pI x3), some (pI x4), some (pI x5), some (pI x6), none], [pI y0], (m, n)) := by
  intro x1 x2 x3 x4 x5 x6 y0 m hx1 hm h
  unfold s_X6_disputedBut_L75 at h
  refine zrun hF [(.istore 7, 2, pI 0), (.iload 6, 2, pI 0), (.iload 7, 2, pI 0)] 75 _ (by decide +kernel) ?_
  refine (And.intro rfl ?_)
  show zG w f 8 81 ([some (pR 0 0), some (pR 8 x1), some (pI x2), some (pI x3), some (pI x4), some (pI x5), some (pI x6), some (pI y0)], [pI y0, pI x6], (m, n))
  refine zicmp_eq (tgt := 99) (pc := 81) hF (by decide +kernel) (fun b9 => ?_) (fun b9 => ?_)
  · replace h := zit b9 h
    refine zcut [true, true, true, true, true, true, false, false] ?_
    exact m_X6_disputedBut_L99 hl hF hR hk5 hk23 _ _ _ _ _ _ hx1 hm h
  · replace h := zif b9 h
    refine zrun hF [(.iload 4, 2, pI 0), (.iload_n 2, 1, pI 0)] 84 _ (by decide +kernel) ?_
    show zG w f 8 87 ([some (pR 0 0), some (pR 8 x1), some (pI x2), some (pI x3), some (pI x4), some (pI x5), some (pI x6), some (pI y0)], [pI x2, pI x4], (m, n))
    refine zicmp_eq (tgt := 99) (pc := 87) hF (by decide +kernel) (fun b10 => ?_) (fun b10 => ?_)
    · replace h := zit b10 h
      refine zcut [true, true, true, true, true, true, false, false] ?_
      exact m_X6_disputedBut_L99 hl hF hR hk5 hk23 _ _ _ _ _ _ hx1 hm h
    · replace h := zif b10 h
      refine zrun hF [(.iload 5, 2, pI 0), (.iload_n 2, 1, pI 0)] 90 _ (by decide +kernel) ?_
      show zG w f 8 93 ([some (pR 0 0), some (pR 8 x1), some (pI x2), some (pI x3), some (pI x4), some (pI x5), some (pI x6), some (pI y0)], [pI x2, pI x5], (m, n))
      refine zicmp_eq (tgt := 99) (pc := 93) hF (by decide +kernel) (fun b11 => ?_) (fun b11 => ?_)
      · replace h := zit b11 h
        refine zcut [true, true, true, true, true, true, false, false] ?_
        exact m_X6_disputedBut_L99 hl hF hR hk5 hk23 _ _ _ _ _ _ hx1 hm h
      · replace h := zif b11 h
        refine zrun hF [(.iinc 3 1, 3, pI 1)] 96 _ (by decide +kernel) ?_
        refine (And.intro rfl ?_)
        show zG w f 8 99 ([some (pR 0 0), some (pR 8 x1), some (pI x2), some (pI (x3 + 1)), some (pI x4), some (pI x5), some (pI x6), some (pI y0)], [], (m, n))
        refine zcut [true, true, true, true, true, true, false, false] ?_
        exact m_X6_disputedBut_L99 hl hF hR hk5 hk23 _ _ _ _ _ _ hx1 hm h

set_option maxHeartbeats 4000000 in
set_option maxRecDepth 100000 in
theorem m_X6_disputedBut_L54 {w : zWd} {f : zFr} {n : zMem} {x : Int32} {lc : Launch} {mr : zMem} (hl : f.2.1 = lc) (hF : zFOK w f 6 cX6_disputedBut 8 3) (hR : zFin w f (some .int) (zQI w x (mr, n))) {k5 : Nat → Int32 → Int32 → Int32 → zMem → Option Int32} (hk5 : ∀ (x1 : Nat) (x2 : Int32) (x3 : Int32) (x4 : Int32) (m : zMem), Nat.blt x1 8 = true → m = mr → k5 x1 x2 x3 x4 m = some x → zG w f 8 5 ([some (pR 0 0), some (pR 8 x1), some (pI x2), some (pI x3), some (pI x4), none, none, none], [], (m, n))) {k23 : Nat → Int32 → Int32 → Int32 → Int32 → zMem → Option Int32} (hk23 : ∀ (x1 : Nat) (x2 : Int32) (x3 : Int32) (x4 : Int32) (x5 : Int32) (m : zMem), Nat.blt x1 8 = true → m = mr → k23 x1 x2 x3 x4 x5 m = some x → zG w f 8 23 ([some (pR 0 0), some (pR 8 x1), some (pI x2), some (pI x3), some (pI x4), some (pI x5), none, none], [], (m, n))) : ∀ (x1 : Nat) (x2 : Int32) (x3 : Int32) (x4 : Int32) (x5 : Int32) (y0 : Int32) (m : zMem), Nat.blt x1 8 = true → m = mr → s_X6_disputedBut_L54 k5 k23 x1 x2 x3 x4 x5 y0 m = some x → zG w f 8 54 ([some (pR 0 0), some (pR 8 x1), some (pI x2), some (pI x3), some (pI x4), some (pI x5), none, none], [pI y0], (m, n)) := by
  intro x1 x2 x3 x4 x5 y0 m hx1 hm h
  unfold s_X6_disputedBut_L54 at h
  refine zrun hF [(.istore 6, 2, pI 0), (.aload_n 1, 1, pI 0), (.iload 5, 2, pI 0)] 54 _ (by decide +kernel) ?_
  refine (And.intro rfl ?_)
  show zG w f 8 59 ([some (pR 0 0), some (pR 8 x1), some (pI x2), some (pI x3), some (pI x4), some (pI x5), some (pI y0), none], [pI x5, pR 8 x1], (m, n))
  obtain ⟨r7, q6, h⟩ := zr_k h
  refine zcallVI (pc := 59) (As := [pI x5]) (st := []) (c := 8) (j := x1) hF (m_X4_number hx1 q6) w_X4_number k_6_297 (by decide +kernel) rfl hx1 rfl rfl rfl rfl rfl ?_
  refine zrun hF [(.iload 4, 2, pI 0), (.ishr, 1, pI 0), (.iconst 1, 1, pI 1), (.iand, 1, pI 0)] 62 _ (by decide +kernel) ?_
  show zG w f 8 67 ([some (pR 0 0), some (pR 8 x1), some (pI x2), some (pI x3), some (pI x4), some (pI x5), some (pI y0), none], [pI ((jshr r7 x4) &&& 1)], (m, n))
  refine zif_eq (tgt := 74) (pc := 67) hF (by decide +kernel) (fun b8 => ?_) (fun b8 => ?_)
  · replace h := zit b8 h
    refine zrun hF [(.iconst 0, 1, pI 0)] 74 _ (by decide +kernel) ?_
    show zG w f 8 75 ([some (pR 0 0), some (pR 8 x1), some (pI x2), some (pI x3), some (pI x4), some (pI x5), some (pI y0), none], [pI 0], (m, n))
    exact m_X6_disputedBut_L75 hl hF hR hk5 hk23 _ _ _ _ _ _ _ _ hx1 hm h
  · replace h := zif b8 h
    refine zrun hF [(.iconst 1, 1, pI 1)] 70 _ (by decide +kernel) ?_
    show zG w f 8 71 ([some (pR 0 0), some (pR 8 x1), some (pI x2), some (pI x3), some (pI x4), some (pI x5), some (pI y0), none], [pI 1], (m, n))
    refine zgoto (tgt := 75) (pc := 71) hF (by decide +kernel) ?_
    exact m_X6_disputedBut_L75 hl hF hR hk5 hk23 _ _ _ _ _ _ _ _ hx1 hm h

set_option maxHeartbeats 4000000 in
set_option maxRecDepth 100000 in
theorem m_X6_disputedBut_L23 {w : zWd} {f : zFr} {n : zMem} {x : Int32} {lc : Launch} {mr : zMem} (hl : f.2.1 = lc) (hF : zFOK w f 6 cX6_disputedBut 8 3) (hR : zFin w f (some .int) (zQI w x (mr, n))) {k5 : Nat → Int32 → Int32 → Int32 → zMem → Option Int32} (hk5 : ∀ (x1 : Nat) (x2 : Int32) (x3 : Int32) (x4 : Int32) (m : zMem), Nat.blt x1 8 = true → m = mr → k5 x1 x2 x3 x4 m = some x → zG w f 8 5 ([some (pR 0 0), some (pR 8 x1), some (pI x2), some (pI x3), some (pI x4), none, none, none], [], (m, n))) : ∀ (k : Nat) (x1 : Nat) (x2 : Int32) (x3 : Int32) (x4 : Int32) (x5 : Int32) (m : zMem), Nat.blt x1 8 = true → m = mr → s_X6_disputedBut_L23 k5 k x1 x2 x3 x4 x5 m = some x → zG w f 8 23 ([some (pR 0 0), some (pR 8 x1), some (pI x2), some (pI x3), some (pI x4), some (pI x5), none, none], [], (m, n)) := by
  intro k
  induction k with
  | zero => intro x1 x2 x3 x4 x5 m hx1 hm h; exact zno h
  | succ k ih =>
    intro x1 x2 x3 x4 x5 m hx1 hm h
    unfold s_X6_disputedBut_L23 at h
    refine zrun hF [(.iload 5, 2, pI 0), (.aload_n 0, 1, pI 0), (.getfield 10, 3, pR 0 0), (.getfield 132, 3, pR 1 6)] 23 _ (by decide +kernel) ?_
    refine (And.intro rfl (And.intro rfl (And.intro rfl (And.intro rfl ?_))))
    show zG w f 8 32 ([some (pR 0 0), some (pR 8 x1), some (pI x2), some (pI x3), some (pI x4), some (pI x5), none, none], [pI (m.1 1 0 6), pI x5], (m, n))
    refine zicmp_ge (tgt := 105) (pc := 32) hF (by decide +kernel) (fun b2 => ?_) (fun b2 => ?_)
    · replace h := zit b2 h
      refine zrun hF [(.iinc 4 1, 3, pI 1)] 105 _ (by decide +kernel) ?_
      refine (And.intro rfl ?_)
      show zG w f 8 108 ([some (pR 0 0), some (pR 8 x1), some (pI x2), some (pI x3), some (pI (x4 + 1)), some (pI x5), none, none], [], (m, n))
      refine zgoto (tgt := 5) (pc := 108) hF (by decide +kernel) ?_
      refine zcut [true, true, true, true, true, false, true, true] ?_
      exact hk5 _ _ _ _ _ hx1 hm h
    · replace h := zif b2 h
      refine zrun hF [(.aload_n 1, 1, pI 0), (.iload 4, 2, pI 0)] 35 _ (by decide +kernel) ?_
      show zG w f 8 38 ([some (pR 0 0), some (pR 8 x1), some (pI x2), some (pI x3), some (pI x4), some (pI x5), none, none], [pI x4, pR 8 x1], (m, n))
      obtain ⟨r4, q3, h⟩ := zr_k h
      refine zcallVI (pc := 38) (As := [pI x4]) (st := []) (c := 8) (j := x1) hF (m_X4_number hx1 q3) w_X4_number k_6_297 (by decide +kernel) rfl hx1 rfl rfl rfl rfl rfl ?_
      refine zrun hF [(.iload 5, 2, pI 0), (.ishr, 1, pI 0), (.iconst 1, 1, pI 1), (.iand, 1, pI 0)] 41 _ (by decide +kernel) ?_
      show zG w f 8 46 ([some (pR 0 0), some (pR 8 x1), some (pI x2), some (pI x3), some (pI x4), some (pI x5), none, none], [pI ((jshr r4 x5) &&& 1)], (m, n))
      refine zif_eq (tgt := 53) (pc := 46) hF (by decide +kernel) (fun b5 => ?_) (fun b5 => ?_)
      · replace h := zit b5 h
        refine zrun hF [(.iconst 0, 1, pI 0)] 53 _ (by decide +kernel) ?_
        show zG w f 8 54 ([some (pR 0 0), some (pR 8 x1), some (pI x2), some (pI x3), some (pI x4), some (pI x5), none, none], [pI 0], (m, n))
        exact m_X6_disputedBut_L54 hl hF hR hk5 ih _ _ _ _ _ _ _ hx1 hm h
      · replace h := zif b5 h
        refine zrun hF [(.iconst 1, 1, pI 1)] 49 _ (by decide +kernel) ?_
        show zG w f 8 50 ([some (pR 0 0), some (pR 8 x1), some (pI x2), some (pI x3), some (pI x4), some (pI x5), none, none], [pI 1], (m, n))
        refine zgoto (tgt := 54) (pc := 50) hF (by decide +kernel) ?_
        exact m_X6_disputedBut_L54 hl hF hR hk5 ih _ _ _ _ _ _ _ hx1 hm h

set_option maxHeartbeats 4000000 in
set_option maxRecDepth 100000 in
theorem m_X6_disputedBut_L5 {w : zWd} {f : zFr} {n : zMem} {x : Int32} {lc : Launch} {mr : zMem} (hl : f.2.1 = lc) (hF : zFOK w f 6 cX6_disputedBut 8 3) (hR : zFin w f (some .int) (zQI w x (mr, n))) : ∀ (k : Nat) (x1 : Nat) (x2 : Int32) (x3 : Int32) (x4 : Int32) (m : zMem), Nat.blt x1 8 = true → m = mr → s_X6_disputedBut_L5 k x1 x2 x3 x4 m = some x → zG w f 8 5 ([some (pR 0 0), some (pR 8 x1), some (pI x2), some (pI x3), some (pI x4), none, none, none], [], (m, n)) := by
  intro k
  induction k with
  | zero => intro x1 x2 x3 x4 m hx1 hm h; exact zno h
  | succ k ih =>
    intro x1 x2 x3 x4 m hx1 hm h
    unfold s_X6_disputedBut_L5 at h
    refine zrun hF [(.iload 4, 2, pI 0), (.aload_n 0, 1, pI 0), (.getfield 10, 3, pR 0 0), (.getfield 132, 3, pR 1 6)] 5 _ (by decide +kernel) ?_
    refine (And.intro rfl (And.intro rfl (And.intro rfl (And.intro rfl ?_))))
    show zG w f 8 14 ([some (pR 0 0), some (pR 8 x1), some (pI x2), some (pI x3), some (pI x4), none, none, none], [pI (m.1 1 0 6), pI x4], (m, n))
    refine zicmp_ge (tgt := 111) (pc := 14) hF (by decide +kernel) (fun b1 => ?_) (fun b1 => ?_)
    · replace h := zit b1 h
      refine zrun hF [(.iload_n 3, 1, pI 0)] 111 _ (by decide +kernel) ?_
      show zG w f 8 112 ([some (pR 0 0), some (pR 8 x1), some (pI x2), some (pI x3), some (pI x4), none, none, none], [pI x3], (m, n))
      exact zretI (pc := 112) hF hR (by decide +kernel) rfl (Option.some.inj h) (congrArg (fun q => (q, n)) hm)
    · replace h := zif b1 h
      refine zrun hF [(.iload 4, 2, pI 0), (.iconst 1, 1, pI 1), (.iadd, 1, pI 0), (.istore 5, 2, pI 0)] 17 _ (by decide +kernel) ?_
      refine (And.intro rfl ?_)
      show zG w f 8 23 ([some (pR 0 0), some (pR 8 x1), some (pI x2), some (pI x3), some (pI x4), some (pI (x4 + 1)), none, none], [], (m, n))
      exact m_X6_disputedBut_L23 hl hF hR ih zF _ _ _ _ _ _ hx1 hm h

set_option maxHeartbeats 4000000 in
set_option maxRecDepth 100000 in
theorem m_X6_disputedBut {w : zWd} {lc : Launch} {n : zMem} {a1 : Nat} {a2 : Int32} {m : zMem} {x : Int32} (ha1 : Nat.blt a1 8 = true) (h : s_X6_disputedBut a1 a2 m = some x) : zMet w lc 3 yX6_disputedBut cX6_disputedBut 8 (some .int) [pR 0 0, pR 8 a1, pI a2] (m, n) (zQI w x (m, n)) := by
  refine zmet (o := 6) (by decide +kernel) rfl (Nat.le_of_ble_eq_true rfl) rfl (fun f hl hF hR => ?_)
  unfold s_X6_disputedBut at h
  show zG w f 8 0 ([some (pR 0 0), some (pR 8 a1), some (pI a2), none, none, none, none, none], [], (m, n))
  refine zrun hF [(.iconst 0, 1, pI 0), (.istore_n 3, 1, pI 0), (.iconst 0, 1, pI 0), (.istore 4, 2, pI 0)] 0 _ (by decide +kernel) ?_
  refine (And.intro rfl (And.intro rfl ?_))
  show zG w f 8 5 ([some (pR 0 0), some (pR 8 a1), some (pI a2), some (pI 0), some (pI 0), none, none, none], [], (m, n))
  exact m_X6_disputedBut_L5 hl hF hR  zF _ _ _ _ _ ha1 rfl h

set_option maxHeartbeats 4000000 in
set_option maxRecDepth 100000 in
theorem m_X6_liar_L13 {w : zWd} {f : zFr} {n : zMem} {x : Int32} {lc : Launch} {mr : zMem} (hl : f.2.1 = lc) (hF : zFOK w f 6 cX6_liar 3 4) (hR : zFin w f (some .int) (zQI w x (mr, n))) : ∀ (k : Nat) (x1 : Nat) (x2 : Int32) (m : zMem), Nat.blt x1 8 = true → m = mr → s_X6_liar_L13 k x1 x2 m = some x → zG w f 3 13 ([some (pR 0 0), some (pR 8 x1), some (pI x2)], [], (m, n)) := by
  intro k
  induction k with
  | zero => intro x1 x2 m hx1 hm h; exact zno h
  | succ k ih =>
    intro x1 x2 m hx1 hm h
    unfold s_X6_liar_L13 at h
    refine zrun hF [(.iload_n 2, 1, pI 0), (.aload_n 0, 1, pI 0), (.getfield 10, 3, pR 0 0), (.getfield 132, 3, pR 1 6)] 13 _ (by decide +kernel) ?_
    refine (And.intro rfl (And.intro rfl (And.intro rfl (And.intro rfl ?_))))
    show zG w f 3 21 ([some (pR 0 0), some (pR 8 x1), some (pI x2)], [pI (m.1 1 0 6), pI x2], (m, n))
    refine zicmp_ge (tgt := 41) (pc := 21) hF (by decide +kernel) (fun b4 => ?_) (fun b4 => ?_)
    · replace h := zit b4 h
      refine zrun hF [(.iconst (-1), 1, pI (-1))] 41 _ (by decide +kernel) ?_
      show zG w f 3 42 ([some (pR 0 0), some (pR 8 x1), some (pI x2)], [pI (-1)], (m, n))
      exact zretI (pc := 42) hF hR (by decide +kernel) rfl (Option.some.inj h) (congrArg (fun q => (q, n)) hm)
    · replace h := zif b4 h
      refine zrun hF [(.aload_n 0, 1, pI 0), (.aload_n 1, 1, pI 0), (.iload_n 2, 1, pI 0)] 24 _ (by decide +kernel) ?_
      show zG w f 3 27 ([some (pR 0 0), some (pR 8 x1), some (pI x2)], [pI x2, pR 8 x1, pR 0 0], (m, n))
      obtain ⟨r6, q5, h⟩ := zr_k h
      refine zcallVI (pc := 27) (As := [pR 8 x1, pI x2]) (st := []) (c := 0) (j := 0) hF (m_X6_disputedBut hx1 q5) w_X6_disputedBut k_6_303 (by decide +kernel) rfl rfl rfl rfl rfl rfl rfl ?_
      refine zif_ne (tgt := 35) (pc := 30) hF (by decide +kernel) (fun b7 => ?_) (fun b7 => ?_)
      · replace h := zit b7 h
        refine zrun hF [(.iload_n 2, 1, pI 0)] 33 _ (by decide +kernel) ?_
        show zG w f 3 34 ([some (pR 0 0), some (pR 8 x1), some (pI x2)], [pI x2], (m, n))
        exact zretI (pc := 34) hF hR (by decide +kernel) rfl (Option.some.inj h) (congrArg (fun q => (q, n)) hm)
      · replace h := zif b7 h
        refine zrun hF [(.iinc 2 1, 3, pI 1)] 35 _ (by decide +kernel) ?_
        refine (And.intro rfl ?_)
        show zG w f 3 38 ([some (pR 0 0), some (pR 8 x1), some (pI (x2 + 1))], [], (m, n))
        refine zgoto (tgt := 13) (pc := 38) hF (by decide +kernel) ?_
        exact ih _ _ _ hx1 hm h

set_option maxHeartbeats 4000000 in
set_option maxRecDepth 100000 in
theorem m_X6_liar {w : zWd} {lc : Launch} {n : zMem} {a1 : Nat} {m : zMem} {x : Int32} (ha1 : Nat.blt a1 8 = true) (h : s_X6_liar a1 m = some x) : zMet w lc 4 yX6_liar cX6_liar 3 (some .int) [pR 0 0, pR 8 a1] (m, n) (zQI w x (m, n)) := by
  refine zmet (o := 6) (by decide +kernel) rfl (Nat.le_of_ble_eq_true rfl) rfl (fun f hl hF hR => ?_)
  unfold s_X6_liar at h
  show zG w f 3 0 ([some (pR 0 0), some (pR 8 a1), none], [], (m, n))
  refine zrun hF [(.aload_n 0, 1, pI 0), (.aload_n 1, 1, pI 0), (.iconst (-1), 1, pI (-1))] 0 _ (by decide +kernel) ?_
  show zG w f 3 3 ([some (pR 0 0), some (pR 8 a1), none], [pI (-1), pR 8 a1, pR 0 0], (m, n))
  obtain ⟨r2, q1, h⟩ := zr_k h
  refine zcallVI (pc := 3) (As := [pR 8 a1, pI (-1)]) (st := []) (c := 0) (j := 0) hF (m_X6_disputedBut ha1 q1) w_X6_disputedBut k_6_303 (by decide +kernel) rfl rfl rfl rfl rfl rfl rfl ?_
  refine zif_ne (tgt := 11) (pc := 6) hF (by decide +kernel) (fun b3 => ?_) (fun b3 => ?_)
  · replace h := zit b3 h
    refine zrun hF [(.iconst (-1), 1, pI (-1))] 9 _ (by decide +kernel) ?_
    show zG w f 3 10 ([some (pR 0 0), some (pR 8 a1), none], [pI (-1)], (m, n))
    exact zretI (pc := 10) hF hR (by decide +kernel) rfl (Option.some.inj h) rfl
  · replace h := zif b3 h
    refine zrun hF [(.iconst 0, 1, pI 0), (.istore_n 2, 1, pI 0)] 11 _ (by decide +kernel) ?_
    refine (And.intro rfl ?_)
    show zG w f 3 13 ([some (pR 0 0), some (pR 8 a1), some (pI 0)], [], (m, n))
    exact m_X6_liar_L13 hl hF hR  zF _ _ _ ha1 rfl h

