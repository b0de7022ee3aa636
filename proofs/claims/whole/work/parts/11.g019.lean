set_option maxHeartbeats 4000000 in
set_option maxRecDepth 100000 in
theorem m_X7_lasts_L9 {w : zWd} {f : zFr} {n : zMem} {x : Int32} {m0 : zMem} {lc : Launch} (hl : f.2.1 = lc) (hF : zFOK w f 7 cX7_lasts 4 27) (hR : zFin w f (some .int) (zQI w x (n, m0))) : ∀ (m : zMem), s_X7_lasts_L9 m = some (x, m0) → zG w f 4 9 ([some (pR 64 0), none, none, none], [], (n, m)) := by
  intro m h
  unfold s_X7_lasts_L9 at h
  refine zrun hF [(.aload_n 0, 1, pI 0), (.bipush (-5), 2, pI (-5))] 9 _ (by decide +kernel) ?_
  show zG w f 4 12 ([some (pR 64 0), none, none, none], [pI (-5), pR 64 0], (n, m))
  obtain ⟨r14, m15, q13, h⟩ := zb_k h
  refine zcallVI (pc := 12) (As := [pI (-5)]) (st := []) (c := 64) (j := 0) hF (m_X7_no  q13) w_X7_no k_7_100 (by decide +kernel) rfl rfl rfl rfl rfl rfl rfl ?_
  exact zretI (pc := 15) hF hR (by decide +kernel) rfl (congrArg Prod.fst (Option.some.inj h)) (congrArg (fun (q : Int32 × zMem) => (n, q.2)) (Option.some.inj h))

set_option maxHeartbeats 4000000 in
set_option maxRecDepth 100000 in
theorem m_X7_lasts_L30 {w : zWd} {f : zFr} {n : zMem} {x : Int32} {m0 : zMem} {lc : Launch} (hl : f.2.1 = lc) (hF : zFOK w f 7 cX7_lasts 4 27) (hR : zFin w f (some .int) (zQI w x (n, m0))) : ∀ (k : Nat) (x2 : Int32) (x3 : Int32) (m : zMem), s_X7_lasts_L30 k x2 x3 m = some (x, m0) → zG w f 4 30 ([some (pR 64 0), none, some (pI x2), some (pI x3)], [], (n, m)) := by
  intro k
  induction k with
  | zero => intro x2 x3 m h; exact zno h
  | succ k ih =>
    intro x2 x3 m h
    unfold s_X7_lasts_L30 at h
    refine zrun hF [(.iload_n 3, 1, pI 0), (.aload_n 0, 1, pI 0), (.getfield 222, 3, pR 64 30)] 30 _ (by decide +kernel) ?_
    refine (And.intro rfl (And.intro rfl ?_))
    show zG w f 4 35 ([some (pR 64 0), none, some (pI x2), some (pI x3)], [pI (m.1 64 0 30), pI x3], (n, m))
    refine zicmp_ge (tgt := 63) (pc := 35) hF (by decide +kernel) (fun b16 => ?_) (fun b16 => ?_)
    · replace h := zit b16 h
      refine zrun hF [(.iload_n 2, 1, pI 0)] 63 _ (by decide +kernel) ?_
      show zG w f 4 64 ([some (pR 64 0), none, some (pI x2), some (pI x3)], [pI x2], (n, m))
      exact zretI (pc := 64) hF hR (by decide +kernel) rfl (congrArg Prod.fst (Option.some.inj h)) (congrArg (fun (q : Int32 × zMem) => (n, q.2)) (Option.some.inj h))
    · replace h := zif b16 h
      obtain ⟨c17, h⟩ := zchk h
      refine zrun hF [(.iload_n 2, 1, pI 0), (.aload_n 0, 1, pI 0), (.aload_n 0, 1, pI 0), (.getfield 69, 3, pR 64 28), (.iload_n 3, 1, pI 0), (.iaload, 1, pI 0), (.aload_n 0, 1, pI 0), (.getfield 72, 3, pR 64 29), (.iload_n 3, 1, pI 0), (.iaload, 1, pI 0)] 38 _ (by decide +kernel) ?_
      refine (And.intro rfl (And.intro rfl (And.intro rfl (And.intro rfl (And.intro c17 (And.intro rfl (And.intro rfl (And.intro rfl (And.intro rfl (And.intro c17 ?_))))))))))
      show zG w f 4 52 ([some (pR 64 0), none, some (pI x2), some (pI x3)], [pI (m.1 82 0 (ix x3)), pI (m.1 81 0 (ix x3)), pR 64 0, pI x2], (n, m))
      obtain ⟨r19, q18, h⟩ := zr_k h
      refine zcallVI (pc := 52) (As := [pI (m.1 81 0 (ix x3)), pI (m.1 82 0 (ix x3))]) (st := [pI x2]) (c := 64) (j := 0) hF (m_X7_takesOf  q18) w_X7_takesOf k_7_212 (by decide +kernel) rfl rfl rfl rfl rfl rfl rfl ?_
      refine zrun hF [(.iadd, 1, pI 0), (.istore_n 2, 1, pI 0), (.iinc 3 1, 3, pI 1)] 55 _ (by decide +kernel) ?_
      refine (And.intro rfl (And.intro rfl ?_))
      show zG w f 4 60 ([some (pR 64 0), none, some (pI (x2 + r19)), some (pI (x3 + 1))], [], (n, m))
      refine zgoto (tgt := 30) (pc := 60) hF (by decide +kernel) ?_
      exact ih _ _ _  h

set_option maxHeartbeats 4000000 in
set_option maxRecDepth 100000 in
theorem m_X7_lasts_L74 {w : zWd} {f : zFr} {n : zMem} {x : Int32} {m0 : zMem} {lc : Launch} (hl : f.2.1 = lc) (hF : zFOK w f 7 cX7_lasts 4 27) (hR : zFin w f (some .int) (zQI w x (n, m0))) : ∀ (k : Nat) (x2 : Int32) (x3 : Int32) (m : zMem), s_X7_lasts_L74 k x2 x3 m = some (x, m0) → zG w f 4 74 ([some (pR 64 0), none, some (pI x2), some (pI x3)], [], (n, m)) := by
  intro k
  induction k with
  | zero => intro x2 x3 m h; exact zno h
  | succ k ih =>
    intro x2 x3 m h
    unfold s_X7_lasts_L74 at h
    refine zrun hF [(.iload_n 3, 1, pI 0)] 74 _ (by decide +kernel) ?_
    show zG w f 4 75 ([some (pR 64 0), none, some (pI x2), some (pI x3)], [pI x3], (n, m))
    refine zif_le (tgt := 90) (pc := 75) hF (by decide +kernel) (fun b20 => ?_) (fun b20 => ?_)
    · replace h := zit b20 h
      refine zrun hF [(.aload_n 0, 1, pI 0)] 90 _ (by decide +kernel) ?_
      show zG w f 4 91 ([some (pR 64 0), none, some (pI x2), some (pI x3)], [pR 64 0], (n, m))
      obtain ⟨m23, q21, h⟩ := zr_k h
      refine zcallVV (pc := 91) (As := []) (st := []) (c := 64) (j := 0) hF (m_X7_bringsHad  q21) w_X7_bringsHad k_7_253 (by decide +kernel) rfl rfl rfl rfl rfl rfl rfl ?_
      refine zrun hF [(.iload_n 2, 1, pI 0)] 94 _ (by decide +kernel) ?_
      show zG w f 4 95 ([some (pR 64 0), none, some (pI x2), some (pI x3)], [pI x2], (n, m23))
      exact zretI (pc := 95) hF hR (by decide +kernel) rfl (congrArg Prod.fst (Option.some.inj h)) (congrArg (fun (q : Int32 × zMem) => (n, q.2)) (Option.some.inj h))
    · replace h := zif b20 h
      refine zrun hF [(.iload_n 2, 1, pI 0), (.iload_n 3, 1, pI 0), (.iadd, 1, pI 0), (.istore_n 2, 1, pI 0), (.aload_n 0, 1, pI 0)] 78 _ (by decide +kernel) ?_
      refine (And.intro rfl ?_)
      show zG w f 4 83 ([some (pR 64 0), none, some (pI (x2 + x3)), some (pI x3)], [pR 64 0], (n, m))
      obtain ⟨r25, m26, q24, h⟩ := zb_k h
      refine zcallVI (pc := 83) (As := []) (st := []) (c := 64) (j := 0) hF (m_X7_round  q24) w_X7_round k_7_250 (by decide +kernel) rfl rfl rfl rfl rfl rfl rfl ?_
      refine zrun hF [(.istore_n 3, 1, pI 0)] 86 _ (by decide +kernel) ?_
      refine (And.intro rfl ?_)
      show zG w f 4 87 ([some (pR 64 0), none, some (pI (x2 + x3)), some (pI r25)], [], (n, m26))
      refine zgoto (tgt := 74) (pc := 87) hF (by decide +kernel) ?_
      exact ih _ _ _  h

set_option maxHeartbeats 4000000 in
set_option maxRecDepth 100000 in
theorem m_X7_lasts {w : zWd} {lc : Launch} {n : zMem} {a1 : Int32} {m : zMem} {x : Int32} {m0 : zMem}  (h : s_X7_lasts a1 m = some (x, m0)) : zMet w lc 27 yX7_lasts cX7_lasts 4 (some .int) [pR 64 0, pI a1] (n, m) (zQI w x (n, m0)) := by
  refine zmet (o := 7) (by decide +kernel) rfl (Nat.le_of_ble_eq_true rfl) rfl (fun f hl hF hR => ?_)
  unfold s_X7_lasts at h
  show zG w f 4 0 ([some (pR 64 0), some (pI a1), none, none], [], (n, m))
  refine zrun hF [(.iload_n 1, 1, pI 0)] 0 _ (by decide +kernel) ?_
  show zG w f 4 1 ([some (pR 64 0), some (pI a1), none, none], [pI a1], (n, m))
  refine zif_lt (tgt := 9) (pc := 1) hF (by decide +kernel) (fun b1 => ?_) (fun b1 => ?_)
  · replace h := zit b1 h
    refine zcut [true, false, true, true] ?_
    exact m_X7_lasts_L9 hl hF hR  _  h
  · replace h := zif b1 h
    refine zrun hF [(.iload_n 1, 1, pI 0), (.iconst 1, 1, pI 1)] 4 _ (by decide +kernel) ?_
    show zG w f 4 6 ([some (pR 64 0), some (pI a1), none, none], [pI 1, pI a1], (n, m))
    refine zicmp_le (tgt := 16) (pc := 6) hF (by decide +kernel) (fun b2 => ?_) (fun b2 => ?_)
    · replace h := zit b2 h
      refine zrun hF [(.iconst 0, 1, pI 0), (.istore_n 2, 1, pI 0), (.iload_n 1, 1, pI 0), (.iconst 1, 1, pI 1)] 16 _ (by decide +kernel) ?_
      refine (And.intro rfl ?_)
      show zG w f 4 20 ([some (pR 64 0), some (pI a1), some (pI 0), none], [pI 1, pI a1], (n, m))
      refine zicmp_ne (tgt := 65) (pc := 20) hF (by decide +kernel) (fun b3 => ?_) (fun b3 => ?_)
      · replace h := zit b3 h
        refine zrun hF [(.aload_n 0, 1, pI 0)] 23 _ (by decide +kernel) ?_
        show zG w f 4 24 ([some (pR 64 0), some (pI a1), some (pI 0), none], [pR 64 0], (n, m))
        obtain ⟨r5, m6, q4, h⟩ := zb_k h
        refine zcallVI (pc := 24) (As := []) (st := []) (c := 64) (j := 0) hF (m_X7_lists  q4) w_X7_lists k_7_225 (by decide +kernel) rfl rfl rfl rfl rfl rfl rfl ?_
        refine zrun hF [(.pop, 1, pI 0), (.iconst 0, 1, pI 0), (.istore_n 3, 1, pI 0)] 27 _ (by decide +kernel) ?_
        refine (And.intro rfl (And.intro rfl ?_))
        show zG w f 4 30 ([some (pR 64 0), some (pI a1), some (pI 0), some (pI 0)], [], (n, m6))
        refine zcut [true, false, true, true] ?_
        exact m_X7_lasts_L30 hl hF hR  zF _ _ _  h
      · replace h := zif b3 h
        refine zrun hF [(.aload_n 0, 1, pI 0)] 65 _ (by decide +kernel) ?_
        show zG w f 4 66 ([some (pR 64 0), some (pI a1), some (pI 0), none], [pR 64 0], (n, m))
        obtain ⟨m9, q7, h⟩ := zr_k h
        refine zcallVV (pc := 66) (As := []) (st := []) (c := 64) (j := 0) hF (m_X7_keepsHad  q7) w_X7_keepsHad k_7_247 (by decide +kernel) rfl rfl rfl rfl rfl rfl rfl ?_
        refine zrun hF [(.aload_n 0, 1, pI 0)] 69 _ (by decide +kernel) ?_
        show zG w f 4 70 ([some (pR 64 0), some (pI a1), some (pI 0), none], [pR 64 0], (n, m9))
        obtain ⟨r11, m12, q10, h⟩ := zb_k h
        refine zcallVI (pc := 70) (As := []) (st := []) (c := 64) (j := 0) hF (m_X7_round  q10) w_X7_round k_7_250 (by decide +kernel) rfl rfl rfl rfl rfl rfl rfl ?_
        refine zrun hF [(.istore_n 3, 1, pI 0)] 73 _ (by decide +kernel) ?_
        refine (And.intro rfl ?_)
        show zG w f 4 74 ([some (pR 64 0), some (pI a1), some (pI 0), some (pI r11)], [], (n, m12))
        refine zcut [true, false, true, true] ?_
        exact m_X7_lasts_L74 hl hF hR  zF _ _ _  h
    · replace h := zif b2 h
      refine zcut [true, false, true, true] ?_
      exact m_X7_lasts_L9 hl hF hR  _  h

set_option maxHeartbeats 4000000 in
set_option maxRecDepth 100000 in
theorem m_X6_leftOut_L53 {w : zWd} {f : zFr} {n : zMem} {x : Int32} {m0 : zMem} {lc : Launch} (hl : f.2.1 = lc) (hF : zFOK w f 6 cX6_leftOut 3 6) (hR : zFin w f (some .int) (zQI w x (m0, n))) {k21 : Int32 → Int32 → zMem → Option (Int32 × zMem)} (hk21 : ∀ (x1 : Int32) (x2 : Int32) (m : zMem), k21 x1 x2 m = some (x, m0) → zG w f 3 21 ([some (pR 0 0), some (pI x1), some (pI x2)], [], (m, n))) : ∀ (x1 : Int32) (x2 : Int32) (m : zMem), s_X6_leftOut_L53 k21 x1 x2 m = some (x, m0) → zG w f 3 53 ([some (pR 0 0), some (pI x1), some (pI x2)], [], (m, n)) := by
  intro x1 x2 m h
  unfold s_X6_leftOut_L53 at h
  refine zrun hF [(.iinc 2 1, 3, pI 1)] 53 _ (by decide +kernel) ?_
  refine (And.intro rfl ?_)
  show zG w f 3 56 ([some (pR 0 0), some (pI x1), some (pI (x2 + 1))], [], (m, n))
  refine zgoto (tgt := 21) (pc := 56) hF (by decide +kernel) ?_
  exact hk21 _ _ _  h

set_option maxHeartbeats 4000000 in
set_option maxRecDepth 100000 in
theorem m_X6_leftOut_L21 {w : zWd} {f : zFr} {n : zMem} {x : Int32} {m0 : zMem} {lc : Launch} (hl : f.2.1 = lc) (hF : zFOK w f 6 cX6_leftOut 3 6) (hR : zFin w f (some .int) (zQI w x (m0, n))) : ∀ (k : Nat) (x1 : Int32) (x2 : Int32) (m : zMem), s_X6_leftOut_L21 k x1 x2 m = some (x, m0) → zG w f 3 21 ([some (pR 0 0), some (pI x1), some (pI x2)], [], (m, n)) := by
  intro k
  induction k with
  | zero => intro x1 x2 m h; exact zno h
  | succ k ih =>
    intro x1 x2 m h
    unfold s_X6_leftOut_L21 at h
    refine zrun hF [(.iload_n 2, 1, pI 0), (.aload_n 0, 1, pI 0), (.getfield 10, 3, pR 0 0), (.getfield 132, 3, pR 1 6)] 21 _ (by decide +kernel) ?_
    refine (And.intro rfl (And.intro rfl (And.intro rfl (And.intro rfl ?_))))
    show zG w f 3 29 ([some (pR 0 0), some (pI x1), some (pI x2)], [pI (m.1 1 0 6), pI x2], (m, n))
    refine zicmp_ge (tgt := 59) (pc := 29) hF (by decide +kernel) (fun b5 => ?_) (fun b5 => ?_)
    · replace h := zit b5 h
      refine zrun hF [(.iload_n 1, 1, pI 0)] 59 _ (by decide +kernel) ?_
      show zG w f 3 60 ([some (pR 0 0), some (pI x1), some (pI x2)], [pI x1], (m, n))
      exact zretI (pc := 60) hF hR (by decide +kernel) rfl (congrArg Prod.fst (Option.some.inj h)) (congrArg (fun (q : Int32 × zMem) => (q.2, n)) (Option.some.inj h))
    · replace h := zif b5 h
      refine zrun hF [(.aload_n 0, 1, pI 0), (.getfield 10, 3, pR 0 0), (.iload_n 2, 1, pI 0)] 32 _ (by decide +kernel) ?_
      refine (And.intro rfl (And.intro rfl ?_))
      show zG w f 3 37 ([some (pR 0 0), some (pI x1), some (pI x2)], [pI x2, pR 1 0], (m, n))
      obtain ⟨r7, q6, h⟩ := zr_k h
      refine zcallVI (pc := 37) (As := [pI x2]) (st := []) (c := 1) (j := 0) hF (m_X5_wantsOf rfl q6) w_X5_wantsOf k_6_243 (by decide +kernel) rfl rfl rfl rfl rfl rfl rfl ?_
      refine zrun hF [(.aload_n 0, 1, pI 0), (.getfield 10, 3, pR 0 0), (.iload_n 1, 1, pI 0)] 40 _ (by decide +kernel) ?_
      refine (And.intro rfl (And.intro rfl ?_))
      show zG w f 3 45 ([some (pR 0 0), some (pI x1), some (pI x2)], [pI x1, pR 1 0, pI r7], (m, n))
      obtain ⟨r9, q8, h⟩ := zr_k h
      refine zcallVI (pc := 45) (As := [pI x1]) (st := [pI r7]) (c := 1) (j := 0) hF (m_X5_wantsOf rfl q8) w_X5_wantsOf k_6_243 (by decide +kernel) rfl rfl rfl rfl rfl rfl rfl ?_
      refine zicmp_le (tgt := 53) (pc := 48) hF (by decide +kernel) (fun b10 => ?_) (fun b10 => ?_)
      · replace h := zit b10 h
        exact m_X6_leftOut_L53 hl hF hR ih _ _ _  h
      · replace h := zif b10 h
        refine zrun hF [(.iload_n 2, 1, pI 0), (.istore_n 1, 1, pI 0)] 51 _ (by decide +kernel) ?_
        refine (And.intro rfl ?_)
        show zG w f 3 53 ([some (pR 0 0), some (pI x2), some (pI x2)], [], (m, n))
        exact m_X6_leftOut_L53 hl hF hR ih _ _ _  h

set_option maxHeartbeats 4000000 in
set_option maxRecDepth 100000 in
theorem m_X6_leftOut {w : zWd} {lc : Launch} {n : zMem}  {m : zMem} {x : Int32} {m0 : zMem}  (h : s_X6_leftOut m = some (x, m0)) : zMet w lc 6 yX6_leftOut cX6_leftOut 3 (some .int) [pR 0 0] (m, n) (zQI w x (m0, n)) := by
  refine zmet (o := 6) (by decide +kernel) rfl (Nat.le_of_ble_eq_true rfl) rfl (fun f hl hF hR => ?_)
  unfold s_X6_leftOut at h
  show zG w f 3 0 ([some (pR 0 0), none, none], [], (m, n))
  refine zrun hF [(.aload_n 0, 1, pI 0), (.getfield 10, 3, pR 0 0), (.getfield 132, 3, pR 1 6)] 0 _ (by decide +kernel) ?_
  refine (And.intro rfl (And.intro rfl (And.intro rfl (And.intro rfl ?_))))
  show zG w f 3 7 ([some (pR 0 0), none, none], [pI (m.1 1 0 6)], (m, n))
  refine zif_ne (tgt := 17) (pc := 7) hF (by decide +kernel) (fun b1 => ?_) (fun b1 => ?_)
  · replace h := zit b1 h
    refine zrun hF [(.aload_n 0, 1, pI 0), (.bipush (-5), 2, pI (-5))] 10 _ (by decide +kernel) ?_
    show zG w f 3 13 ([some (pR 0 0), none, none], [pI (-5), pR 0 0], (m, n))
    obtain ⟨r3, m4, q2, h⟩ := zb_k h
    refine zcallVI (pc := 13) (As := [pI (-5)]) (st := []) (c := 0) (j := 0) hF (m_X6_refuse  q2) w_X6_refuse k_6_73 (by decide +kernel) rfl rfl rfl rfl rfl rfl rfl ?_
    exact zretI (pc := 16) hF hR (by decide +kernel) rfl (congrArg Prod.fst (Option.some.inj h)) (congrArg (fun (q : Int32 × zMem) => (q.2, n)) (Option.some.inj h))
  · replace h := zif b1 h
    refine zrun hF [(.iconst 0, 1, pI 0), (.istore_n 1, 1, pI 0), (.iconst 1, 1, pI 1), (.istore_n 2, 1, pI 0)] 17 _ (by decide +kernel) ?_
    refine (And.intro rfl (And.intro rfl ?_))
    show zG w f 3 21 ([some (pR 0 0), some (pI 0), some (pI 1)], [], (m, n))
    exact m_X6_leftOut_L21 hl hF hR  zF _ _ _  h

set_option maxHeartbeats 4000000 in
set_option maxRecDepth 100000 in
theorem m_X7_leftOut_L49 {w : zWd} {f : zFr} {n : zMem} {x : Int32} {m0 : zMem} {lc : Launch} (hl : f.2.1 = lc) (hF : zFOK w f 7 cX7_leftOut 3 5) (hR : zFin w f (some .int) (zQI w x (n, m0))) {k18 : Int32 → Int32 → zMem → Option (Int32 × zMem)} (hk18 : ∀ (x1 : Int32) (x2 : Int32) (m : zMem), k18 x1 x2 m = some (x, m0) → zG w f 3 18 ([some (pR 64 0), some (pI x1), some (pI x2)], [], (n, m))) : ∀ (x1 : Int32) (x2 : Int32) (m : zMem), s_X7_leftOut_L49 k18 x1 x2 m = some (x, m0) → zG w f 3 49 ([some (pR 64 0), some (pI x1), some (pI x2)], [], (n, m)) := by
  intro x1 x2 m h
  unfold s_X7_leftOut_L49 at h
  refine zrun hF [(.iinc 2 1, 3, pI 1)] 49 _ (by decide +kernel) ?_
  refine (And.intro rfl ?_)
  show zG w f 3 52 ([some (pR 64 0), some (pI x1), some (pI (x2 + 1))], [], (n, m))
  refine zgoto (tgt := 18) (pc := 52) hF (by decide +kernel) ?_
  exact hk18 _ _ _  h

set_option maxHeartbeats 4000000 in
set_option maxRecDepth 100000 in
theorem m_X7_leftOut_L18 {w : zWd} {f : zFr} {n : zMem} {x : Int32} {m0 : zMem} {lc : Launch} (hl : f.2.1 = lc) (hF : zFOK w f 7 cX7_leftOut 3 5) (hR : zFin w f (some .int) (zQI w x (n, m0))) : ∀ (k : Nat) (x1 : Int32) (x2 : Int32) (m : zMem), s_X7_leftOut_L18 k x1 x2 m = some (x, m0) → zG w f 3 18 ([some (pR 64 0), some (pI x1), some (pI x2)], [], (n, m)) := by
  intro k
  induction k with
  | zero => intro x1 x2 m h; exact zno h
  | succ k ih =>
    intro x1 x2 m h
    unfold s_X7_leftOut_L18 at h
    refine zrun hF [(.iload_n 2, 1, pI 0), (.aload_n 0, 1, pI 0), (.getfield 93, 3, pR 64 0)] 18 _ (by decide +kernel) ?_
    refine (And.intro rfl (And.intro rfl ?_))
    show zG w f 3 23 ([some (pR 64 0), some (pI x1), some (pI x2)], [pI (m.1 64 0 0), pI x2], (n, m))
    refine zicmp_ge (tgt := 55) (pc := 23) hF (by decide +kernel) (fun b5 => ?_) (fun b5 => ?_)
    · replace h := zit b5 h
      refine zrun hF [(.iload_n 1, 1, pI 0)] 55 _ (by decide +kernel) ?_
      show zG w f 3 56 ([some (pR 64 0), some (pI x1), some (pI x2)], [pI x1], (n, m))
      exact zretI (pc := 56) hF hR (by decide +kernel) rfl (congrArg Prod.fst (Option.some.inj h)) (congrArg (fun (q : Int32 × zMem) => (n, q.2)) (Option.some.inj h))
    · replace h := zif b5 h
      refine zrun hF [(.aload_n 0, 1, pI 0), (.aload_n 0, 1, pI 0), (.iload_n 2, 1, pI 0)] 26 _ (by decide +kernel) ?_
      show zG w f 3 29 ([some (pR 64 0), some (pI x1), some (pI x2)], [pI x2, pR 64 0, pR 64 0], (n, m))
      obtain ⟨r7, q6, h⟩ := zr_k h
      refine zcallVI (pc := 29) (As := [pI x2]) (st := [pR 64 0]) (c := 64) (j := 0) hF (m_X7_lacks  q6) w_X7_lacks k_7_111 (by decide +kernel) rfl rfl rfl rfl rfl rfl rfl ?_
      obtain ⟨r9, q8, h⟩ := zr_k h
      refine zcallVI (pc := 32) (As := [pI r7]) (st := []) (c := 64) (j := 0) hF (m_X7_count  q8) w_X7_count k_7_114 (by decide +kernel) rfl rfl rfl rfl rfl rfl rfl ?_
      refine zrun hF [(.aload_n 0, 1, pI 0), (.aload_n 0, 1, pI 0), (.iload_n 1, 1, pI 0)] 35 _ (by decide +kernel) ?_
      show zG w f 3 38 ([some (pR 64 0), some (pI x1), some (pI x2)], [pI x1, pR 64 0, pR 64 0, pI r9], (n, m))
      obtain ⟨r11, q10, h⟩ := zr_k h
      refine zcallVI (pc := 38) (As := [pI x1]) (st := [pR 64 0, pI r9]) (c := 64) (j := 0) hF (m_X7_lacks  q10) w_X7_lacks k_7_111 (by decide +kernel) rfl rfl rfl rfl rfl rfl rfl ?_
      obtain ⟨r13, q12, h⟩ := zr_k h
      refine zcallVI (pc := 41) (As := [pI r11]) (st := [pI r9]) (c := 64) (j := 0) hF (m_X7_count  q12) w_X7_count k_7_114 (by decide +kernel) rfl rfl rfl rfl rfl rfl rfl ?_
      refine zicmp_le (tgt := 49) (pc := 44) hF (by decide +kernel) (fun b14 => ?_) (fun b14 => ?_)
      · replace h := zit b14 h
        exact m_X7_leftOut_L49 hl hF hR ih _ _ _  h
      · replace h := zif b14 h
        refine zrun hF [(.iload_n 2, 1, pI 0), (.istore_n 1, 1, pI 0)] 47 _ (by decide +kernel) ?_
        refine (And.intro rfl ?_)
        show zG w f 3 49 ([some (pR 64 0), some (pI x2), some (pI x2)], [], (n, m))
        exact m_X7_leftOut_L49 hl hF hR ih _ _ _  h

set_option maxHeartbeats 4000000 in
set_option maxRecDepth 100000 in
theorem m_X7_leftOut {w : zWd} {lc : Launch} {n : zMem}  {m : zMem} {x : Int32} {m0 : zMem}  (h : s_X7_leftOut m = some (x, m0)) : zMet w lc 5 yX7_leftOut cX7_leftOut 3 (some .int) [pR 64 0] (n, m) (zQI w x (n, m0)) := by
  refine zmet (o := 7) (by decide +kernel) rfl (Nat.le_of_ble_eq_true rfl) rfl (fun f hl hF hR => ?_)
  unfold s_X7_leftOut at h
  show zG w f 3 0 ([some (pR 64 0), none, none], [], (n, m))
  refine zrun hF [(.aload_n 0, 1, pI 0), (.getfield 93, 3, pR 64 0)] 0 _ (by decide +kernel) ?_
  refine (And.intro rfl (And.intro rfl ?_))
  show zG w f 3 4 ([some (pR 64 0), none, none], [pI (m.1 64 0 0)], (n, m))
  refine zif_ne (tgt := 14) (pc := 4) hF (by decide +kernel) (fun b1 => ?_) (fun b1 => ?_)
  · replace h := zit b1 h
    refine zrun hF [(.aload_n 0, 1, pI 0), (.bipush (-5), 2, pI (-5))] 7 _ (by decide +kernel) ?_
    show zG w f 3 10 ([some (pR 64 0), none, none], [pI (-5), pR 64 0], (n, m))
    obtain ⟨r3, m4, q2, h⟩ := zb_k h
    refine zcallVI (pc := 10) (As := [pI (-5)]) (st := []) (c := 64) (j := 0) hF (m_X7_no  q2) w_X7_no k_7_100 (by decide +kernel) rfl rfl rfl rfl rfl rfl rfl ?_
    exact zretI (pc := 13) hF hR (by decide +kernel) rfl (congrArg Prod.fst (Option.some.inj h)) (congrArg (fun (q : Int32 × zMem) => (n, q.2)) (Option.some.inj h))
  · replace h := zif b1 h
    refine zrun hF [(.iconst 0, 1, pI 0), (.istore_n 1, 1, pI 0), (.iconst 1, 1, pI 1), (.istore_n 2, 1, pI 0)] 14 _ (by decide +kernel) ?_
    refine (And.intro rfl (And.intro rfl ?_))
    show zG w f 3 18 ([some (pR 64 0), some (pI 0), some (pI 1)], [], (n, m))
    exact m_X7_leftOut_L18 hl hF hR  zF _ _ _  h

set_option maxHeartbeats 4000000 in
set_option maxRecDepth 100000 in
theorem m_X6_never_L48 {w : zWd} {f : zFr} {n : zMem} {x : Int32} {lc : Launch} {mr : zMem} (hl : f.2.1 = lc) (hF : zFOK w f 6 cX6_never 4 3) (hR : zFin w f (some .int) (zQI w x (mr, n))) {k4 : Int32 → Int32 → zMem → Option Int32} (hk4 : ∀ (x1 : Int32) (x2 : Int32) (m : zMem), m = mr → k4 x1 x2 m = some x → zG w f 4 4 ([some (pR 0 0), some (pI x1), some (pI x2), none], [], (m, n))) {k19 : Int32 → Int32 → Int32 → zMem → Option Int32} (hk19 : ∀ (x1 : Int32) (x2 : Int32) (x3 : Int32) (m : zMem), m = mr → k19 x1 x2 x3 m = some x → zG w f 4 19 ([some (pR 0 0), some (pI x1), some (pI x2), some (pI x3)], [], (m, n))) : ∀ (x2 : Int32) (x3 : Int32) (y0 : Int32) (y1 : Int32) (m : zMem), m = mr → s_X6_never_L48 k4 k19 x2 x3 y0 y1 m = some x → zG w f 4 48 ([some (pR 0 0), none, some (pI x2), some (pI x3)], [pI y1, pI y0], (m, n)) := by
  intro x2 x3 y0 y1 m hm h
  unfold s_X6_never_L48 at h
  refine zrun hF [(.iadd, 1, pI 0), (.istore_n 1, 1, pI 0), (.iinc 3 1, 3, pI 1)] 48 _ (by decide +kernel) ?_
  refine (And.intro rfl (And.intro rfl ?_))
  show zG w f 4 53 ([some (pR 0 0), some (pI (y0 + y1)), some (pI x2), some (pI (x3 + 1))], [], (m, n))
  refine zgoto (tgt := 19) (pc := 53) hF (by decide +kernel) ?_
  exact hk19 _ _ _ _  hm h

set_option maxHeartbeats 4000000 in
set_option maxRecDepth 100000 in
theorem m_X6_never_L19 {w : zWd} {f : zFr} {n : zMem} {x : Int32} {lc : Launch} {mr : zMem} (hl : f.2.1 = lc) (hF : zFOK w f 6 cX6_never 4 3) (hR : zFin w f (some .int) (zQI w x (mr, n))) {k4 : Int32 → Int32 → zMem → Option Int32} (hk4 : ∀ (x1 : Int32) (x2 : Int32) (m : zMem), m = mr → k4 x1 x2 m = some x → zG w f 4 4 ([some (pR 0 0), some (pI x1), some (pI x2), none], [], (m, n))) : ∀ (k : Nat) (x1 : Int32) (x2 : Int32) (x3 : Int32) (m : zMem), m = mr → s_X6_never_L19 k4 k x1 x2 x3 m = some x → zG w f 4 19 ([some (pR 0 0), some (pI x1), some (pI x2), some (pI x3)], [], (m, n)) := by
  intro k
  induction k with
  | zero => intro x1 x2 x3 m hm h; exact zno h
  | succ k ih =>
    intro x1 x2 x3 m hm h
    unfold s_X6_never_L19 at h
    refine zrun hF [(.iload_n 3, 1, pI 0), (.aload_n 0, 1, pI 0), (.getfield 10, 3, pR 0 0), (.getfield 132, 3, pR 1 6)] 19 _ (by decide +kernel) ?_
    refine (And.intro rfl (And.intro rfl (And.intro rfl (And.intro rfl ?_))))
    show zG w f 4 27 ([some (pR 0 0), some (pI x1), some (pI x2), some (pI x3)], [pI (m.1 1 0 6), pI x3], (m, n))
    refine zicmp_ge (tgt := 56) (pc := 27) hF (by decide +kernel) (fun b2 => ?_) (fun b2 => ?_)
    · replace h := zit b2 h
      refine zrun hF [(.iinc 2 1, 3, pI 1)] 56 _ (by decide +kernel) ?_
      refine (And.intro rfl ?_)
      show zG w f 4 59 ([some (pR 0 0), some (pI x1), some (pI (x2 + 1)), some (pI x3)], [], (m, n))
      refine zgoto (tgt := 4) (pc := 59) hF (by decide +kernel) ?_
      refine zcut [true, true, true, false] ?_
      exact hk4 _ _ _  hm h
    · replace h := zif b2 h
      refine zrun hF [(.iload_n 1, 1, pI 0), (.aload_n 0, 1, pI 0), (.getfield 10, 3, pR 0 0), (.iload_n 2, 1, pI 0), (.iload_n 3, 1, pI 0)] 30 _ (by decide +kernel) ?_
      refine (And.intro rfl (And.intro rfl ?_))
      show zG w f 4 37 ([some (pR 0 0), some (pI x1), some (pI x2), some (pI x3)], [pI x3, pI x2, pR 1 0, pI x1], (m, n))
      obtain ⟨r4, q3, h⟩ := zr_k h
      refine zcallVI (pc := 37) (As := [pI x2, pI x3]) (st := [pI x1]) (c := 1) (j := 0) hF (m_X5_mayClink rfl q3) w_X5_mayClink k_6_193 (by decide +kernel) rfl rfl rfl rfl rfl rfl rfl ?_
      refine zif_eq (tgt := 47) (pc := 40) hF (by decide +kernel) (fun b5 => ?_) (fun b5 => ?_)
      · replace h := zit b5 h
        refine zrun hF [(.iconst 1, 1, pI 1)] 47 _ (by decide +kernel) ?_
        show zG w f 4 48 ([some (pR 0 0), some (pI x1), some (pI x2), some (pI x3)], [pI 1, pI x1], (m, n))
        refine zcut [true, false, true, true] ?_
        exact m_X6_never_L48 hl hF hR hk4 ih _ _ _ _ _  hm h
      · replace h := zif b5 h
        refine zrun hF [(.iconst 0, 1, pI 0)] 43 _ (by decide +kernel) ?_
        show zG w f 4 44 ([some (pR 0 0), some (pI x1), some (pI x2), some (pI x3)], [pI 0, pI x1], (m, n))
        refine zgoto (tgt := 48) (pc := 44) hF (by decide +kernel) ?_
        refine zcut [true, false, true, true] ?_
        exact m_X6_never_L48 hl hF hR hk4 ih _ _ _ _ _  hm h

set_option maxHeartbeats 4000000 in
set_option maxRecDepth 100000 in
theorem m_X6_never_L4 {w : zWd} {f : zFr} {n : zMem} {x : Int32} {lc : Launch} {mr : zMem} (hl : f.2.1 = lc) (hF : zFOK w f 6 cX6_never 4 3) (hR : zFin w f (some .int) (zQI w x (mr, n))) : ∀ (k : Nat) (x1 : Int32) (x2 : Int32) (m : zMem), m = mr → s_X6_never_L4 k x1 x2 m = some x → zG w f 4 4 ([some (pR 0 0), some (pI x1), some (pI x2), none], [], (m, n)) := by
  intro k
  induction k with
  | zero => intro x1 x2 m hm h; exact zno h
  | succ k ih =>
    intro x1 x2 m hm h
    unfold s_X6_never_L4 at h
    refine zrun hF [(.iload_n 2, 1, pI 0), (.aload_n 0, 1, pI 0), (.getfield 10, 3, pR 0 0), (.getfield 132, 3, pR 1 6)] 4 _ (by decide +kernel) ?_
    refine (And.intro rfl (And.intro rfl (And.intro rfl (And.intro rfl ?_))))
    show zG w f 4 12 ([some (pR 0 0), some (pI x1), some (pI x2), none], [pI (m.1 1 0 6), pI x2], (m, n))
    refine zicmp_ge (tgt := 62) (pc := 12) hF (by decide +kernel) (fun b1 => ?_) (fun b1 => ?_)
    · replace h := zit b1 h
      refine zrun hF [(.iload_n 1, 1, pI 0)] 62 _ (by decide +kernel) ?_
      show zG w f 4 63 ([some (pR 0 0), some (pI x1), some (pI x2), none], [pI x1], (m, n))
      exact zretI (pc := 63) hF hR (by decide +kernel) rfl (Option.some.inj h) (congrArg (fun q => (q, n)) hm)
    · replace h := zif b1 h
      refine zrun hF [(.iload_n 2, 1, pI 0), (.iconst 1, 1, pI 1), (.iadd, 1, pI 0), (.istore_n 3, 1, pI 0)] 15 _ (by decide +kernel) ?_
      refine (And.intro rfl ?_)
      show zG w f 4 19 ([some (pR 0 0), some (pI x1), some (pI x2), some (pI (x2 + 1))], [], (m, n))
      exact m_X6_never_L19 hl hF hR ih zF _ _ _ _  hm h

set_option maxHeartbeats 4000000 in
set_option maxRecDepth 100000 in
theorem m_X6_never {w : zWd} {lc : Launch} {n : zMem}  {m : zMem} {x : Int32}  (h : s_X6_never m = some x) : zMet w lc 3 yX6_never cX6_never 4 (some .int) [pR 0 0] (m, n) (zQI w x (m, n)) := by
  refine zmet (o := 6) (by decide +kernel) rfl (Nat.le_of_ble_eq_true rfl) rfl (fun f hl hF hR => ?_)
  unfold s_X6_never at h
  show zG w f 4 0 ([some (pR 0 0), none, none, none], [], (m, n))
  refine zrun hF [(.iconst 0, 1, pI 0), (.istore_n 1, 1, pI 0), (.iconst 0, 1, pI 0), (.istore_n 2, 1, pI 0)] 0 _ (by decide +kernel) ?_
  refine (And.intro rfl (And.intro rfl ?_))
  show zG w f 4 4 ([some (pR 0 0), some (pI 0), some (pI 0), none], [], (m, n))
  exact m_X6_never_L4 hl hF hR  zF _ _ _  rfl h

set_option maxHeartbeats 4000000 in
set_option maxRecDepth 100000 in
theorem m_X7_never_L36 {w : zWd} {f : zFr} {n : zMem} {x : Int32} {lc : Launch} {mr : zMem} (hl : f.2.1 = lc) (hF : zFOK w f 7 cX7_never 4 3) (hR : zFin w f (some .int) (zQI w x (n, mr))) {k4 : Int32 → Int32 → zMem → Option Int32} (hk4 : ∀ (x1 : Int32) (x2 : Int32) (m : zMem), m = mr → k4 x1 x2 m = some x → zG w f 4 4 ([some (pR 64 0), some (pI x1), some (pI x2), none], [], (n, m))) {k16 : Int32 → Int32 → Int32 → zMem → Option Int32} (hk16 : ∀ (x1 : Int32) (x2 : Int32) (x3 : Int32) (m : zMem), m = mr → k16 x1 x2 x3 m = some x → zG w f 4 16 ([some (pR 64 0), some (pI x1), some (pI x2), some (pI x3)], [], (n, m))) : ∀ (x1 : Int32) (x2 : Int32) (x3 : Int32) (m : zMem), m = mr → s_X7_never_L36 k4 k16 x1 x2 x3 m = some x → zG w f 4 36 ([some (pR 64 0), some (pI x1), some (pI x2), some (pI x3)], [], (n, m)) := by
  intro x1 x2 x3 m hm h
  unfold s_X7_never_L36 at h
  refine zrun hF [(.iinc 3 1, 3, pI 1)] 36 _ (by decide +kernel) ?_
  refine (And.intro rfl ?_)
  show zG w f 4 39 ([some (pR 64 0), some (pI x1), some (pI x2), some (pI (x3 + 1))], [], (n, m))
  refine zgoto (tgt := 16) (pc := 39) hF (by decide +kernel) ?_
  exact hk16 _ _ _ _  hm h

set_option maxHeartbeats 4000000 in
set_option maxRecDepth 100000 in
theorem m_X7_never_L16 {w : zWd} {f : zFr} {n : zMem} {x : Int32} {lc : Launch} {mr : zMem} (hl : f.2.1 = lc) (hF : zFOK w f 7 cX7_never 4 3) (hR : zFin w f (some .int) (zQI w x (n, mr))) {k4 : Int32 → Int32 → zMem → Option Int32} (hk4 : ∀ (x1 : Int32) (x2 : Int32) (m : zMem), m = mr → k4 x1 x2 m = some x → zG w f 4 4 ([some (pR 64 0), some (pI x1), some (pI x2), none], [], (n, m))) : ∀ (k : Nat) (x1 : Int32) (x2 : Int32) (x3 : Int32) (m : zMem), m = mr → s_X7_never_L16 k4 k x1 x2 x3 m = some x → zG w f 4 16 ([some (pR 64 0), some (pI x1), some (pI x2), some (pI x3)], [], (n, m)) := by
  intro k
  induction k with
  | zero => intro x1 x2 x3 m hm h; exact zno h
  | succ k ih =>
    intro x1 x2 x3 m hm h
    unfold s_X7_never_L16 at h
    refine zrun hF [(.iload_n 3, 1, pI 0), (.aload_n 0, 1, pI 0), (.getfield 93, 3, pR 64 0)] 16 _ (by decide +kernel) ?_
    refine (And.intro rfl (And.intro rfl ?_))
    show zG w f 4 21 ([some (pR 64 0), some (pI x1), some (pI x2), some (pI x3)], [pI (m.1 64 0 0), pI x3], (n, m))
    refine zicmp_ge (tgt := 42) (pc := 21) hF (by decide +kernel) (fun b2 => ?_) (fun b2 => ?_)
    · replace h := zit b2 h
      refine zrun hF [(.iinc 2 1, 3, pI 1)] 42 _ (by decide +kernel) ?_
      refine (And.intro rfl ?_)
      show zG w f 4 45 ([some (pR 64 0), some (pI x1), some (pI (x2 + 1)), some (pI x3)], [], (n, m))
      refine zgoto (tgt := 4) (pc := 45) hF (by decide +kernel) ?_
      refine zcut [true, true, true, false] ?_
      exact hk4 _ _ _  hm h
    · replace h := zif b2 h
      refine zrun hF [(.aload_n 0, 1, pI 0), (.iload_n 2, 1, pI 0), (.iload_n 3, 1, pI 0)] 24 _ (by decide +kernel) ?_
      show zG w f 4 27 ([some (pR 64 0), some (pI x1), some (pI x2), some (pI x3)], [pI x3, pI x2, pR 64 0], (n, m))
      obtain ⟨r4, q3, h⟩ := zr_k h
      refine zcallVI (pc := 27) (As := [pI x2, pI x3]) (st := []) (c := 64) (j := 0) hF (m_X7_mayBe  q3) w_X7_mayBe k_7_107 (by decide +kernel) rfl rfl rfl rfl rfl rfl rfl ?_
      refine zif_ne (tgt := 36) (pc := 30) hF (by decide +kernel) (fun b5 => ?_) (fun b5 => ?_)
      · replace h := zit b5 h
        refine zrun hF [(.iinc 1 1, 3, pI 1)] 33 _ (by decide +kernel) ?_
        refine (And.intro rfl ?_)
        show zG w f 4 36 ([some (pR 64 0), some (pI (x1 + 1)), some (pI x2), some (pI x3)], [], (n, m))
        exact m_X7_never_L36 hl hF hR hk4 ih _ _ _ _  hm h
      · replace h := zif b5 h
        exact m_X7_never_L36 hl hF hR hk4 ih _ _ _ _  hm h

set_option maxHeartbeats 4000000 in
set_option maxRecDepth 100000 in
theorem m_X7_never_L4 {w : zWd} {f : zFr} {n : zMem} {x : Int32} {lc : Launch} {mr : zMem} (hl : f.2.1 = lc) (hF : zFOK w f 7 cX7_never 4 3) (hR : zFin w f (some .int) (zQI w x (n, mr))) : ∀ (k : Nat) (x1 : Int32) (x2 : Int32) (m : zMem), m = mr → s_X7_never_L4 k x1 x2 m = some x → zG w f 4 4 ([some (pR 64 0), some (pI x1), some (pI x2), none], [], (n, m)) := by
  intro k
  induction k with
  | zero => intro x1 x2 m hm h; exact zno h
  | succ k ih =>
    intro x1 x2 m hm h
    unfold s_X7_never_L4 at h
    refine zrun hF [(.iload_n 2, 1, pI 0), (.aload_n 0, 1, pI 0), (.getfield 93, 3, pR 64 0)] 4 _ (by decide +kernel) ?_
    refine (And.intro rfl (And.intro rfl ?_))
    show zG w f 4 9 ([some (pR 64 0), some (pI x1), some (pI x2), none], [pI (m.1 64 0 0), pI x2], (n, m))
    refine zicmp_ge (tgt := 48) (pc := 9) hF (by decide +kernel) (fun b1 => ?_) (fun b1 => ?_)
    · replace h := zit b1 h
      refine zrun hF [(.iload_n 1, 1, pI 0)] 48 _ (by decide +kernel) ?_
      show zG w f 4 49 ([some (pR 64 0), some (pI x1), some (pI x2), none], [pI x1], (n, m))
      exact zretI (pc := 49) hF hR (by decide +kernel) rfl (Option.some.inj h) (congrArg (fun q => (n, q)) hm)
    · replace h := zif b1 h
      refine zrun hF [(.iload_n 2, 1, pI 0), (.iconst 1, 1, pI 1), (.iadd, 1, pI 0), (.istore_n 3, 1, pI 0)] 12 _ (by decide +kernel) ?_
      refine (And.intro rfl ?_)
      show zG w f 4 16 ([some (pR 64 0), some (pI x1), some (pI x2), some (pI (x2 + 1))], [], (n, m))
      exact m_X7_never_L16 hl hF hR ih zF _ _ _ _  hm h

set_option maxHeartbeats 4000000 in
set_option maxRecDepth 100000 in
theorem m_X7_never {w : zWd} {lc : Launch} {n : zMem}  {m : zMem} {x : Int32}  (h : s_X7_never m = some x) : zMet w lc 3 yX7_never cX7_never 4 (some .int) [pR 64 0] (n, m) (zQI w x (n, m)) := by
  refine zmet (o := 7) (by decide +kernel) rfl (Nat.le_of_ble_eq_true rfl) rfl (fun f hl hF hR => ?_)
  unfold s_X7_never at h
  show zG w f 4 0 ([some (pR 64 0), none, none, none], [], (n, m))
  refine zrun hF [(.iconst 0, 1, pI 0), (.istore_n 1, 1, pI 0), (.iconst 0, 1, pI 0), (.istore_n 2, 1, pI 0)] 0 _ (by decide +kernel) ?_
  refine (And.intro rfl (And.intro rfl ?_))
  show zG w f 4 4 ([some (pR 64 0), some (pI 0), some (pI 0), none], [], (n, m))
  exact m_X7_never_L4 hl hF hR  zF _ _ _  rfl h

set_option maxHeartbeats 4000000 in
set_option maxRecDepth 100000 in
theorem m_X5_swap {w : zWd} {lc : Launch} {n : zMem} {t : Nat} {a1 : Int32} {a2 : Int32} {m : zMem} {m0 : zMem} (ht : Nat.blt t 3 = true) (h : s_X5_swap t a1 a2 m = some m0) : zMet w lc 1 yX5_swap cX5_swap 4 none [pR 1 t, pI a1, pI a2] (m, n) (zQV w (m0, n)) := by
  refine zmet (o := 5) (by decide +kernel) rfl (Nat.le_of_ble_eq_true rfl) rfl (fun f hl hF hR => ?_)
  unfold s_X5_swap at h
  show zG w f 4 0 ([some (pR 1 t), some (pI a1), some (pI a2), none], [], (m, n))
  obtain ⟨c1, h⟩ := zchk h
  refine zrun hF [(.aload_n 0, 1, pI 0), (.getfield 15, 3, pR 1 1), (.iload_n 1, 1, pI 0), (.iaload, 1, pI 0), (.istore_n 3, 1, pI 0)] 0 _ (by decide +kernel) ?_
  refine (And.intro rfl (And.intro ht (And.intro rfl (And.intro ht (And.intro c1 (And.intro rfl ?_))))))
  refine zlet_k (P := fun (v2 : Int32) => zG w f 4 7 ([some (pR 1 t), some (pI a1), some (pI a2), some (pI v2)], [], (m, n))) h (fun v2 h => ?_)
  obtain ⟨c3, h⟩ := zchk h
  refine zrun hF [(.aload_n 0, 1, pI 0), (.getfield 15, 3, pR 1 1), (.iload_n 1, 1, pI 0), (.aload_n 0, 1, pI 0), (.getfield 15, 3, pR 1 1), (.iload_n 2, 1, pI 0), (.iaload, 1, pI 0), (.iastore, 1, pI 0)] 7 _ (by decide +kernel) ?_
  refine (And.intro rfl (And.intro ht (And.intro rfl (And.intro ht (And.intro rfl (And.intro ht (And.intro c3 (And.intro rfl (And.intro ht (And.intro c1 ?_))))))))))
  refine zlet_k (P := fun (m4 : zMem) => zG w f 4 19 ([some (pR 1 t), some (pI a1), some (pI a2), some (pI v2)], [], (m4, n))) h (fun m4 h => ?_)
  refine zrun hF [(.aload_n 0, 1, pI 0), (.getfield 15, 3, pR 1 1), (.iload_n 2, 1, pI 0), (.iload_n 3, 1, pI 0), (.iastore, 1, pI 0)] 19 _ (by decide +kernel) ?_
  refine (And.intro rfl (And.intro ht (And.intro rfl (And.intro ht (And.intro c3 ?_)))))
  refine zlet_k (P := fun (m5 : zMem) => zG w f 4 26 ([some (pR 1 t), some (pI a1), some (pI a2), some (pI v2)], [], (m5, n))) h (fun m5 h => ?_)
  exact zretV (pc := 26) hF hR (by decide +kernel) (congrArg (fun q => (q, n)) (Option.some.inj h))

set_option maxHeartbeats 4000000 in
set_option maxRecDepth 100000 in
theorem m_X6_bestChange_L151 {w : zWd} {f : zFr} {n : zMem} {x : Int32} {m0 : zMem} {lc : Launch} (hl : f.2.1 = lc) (hF : zFOK w f 6 cX6_bestChange 5 25) (hR : zFin w f (some .int) (zQI w x (m0, n))) {k50 : Int32 → Int32 → Int32 → zMem → Option (Int32 × zMem)} (hk50 : ∀ (x1 : Int32) (x2 : Int32) (x3 : Int32) (m : zMem), k50 x1 x2 x3 m = some (x, m0) → zG w f 5 50 ([some (pR 0 0), some (pI x1), some (pI x2), some (pI x3), none], [], (m, n))) {k66 : Int32 → Int32 → Int32 → Int32 → zMem → Option (Int32 × zMem)} (hk66 : ∀ (x1 : Int32) (x2 : Int32) (x3 : Int32) (x4 : Int32) (m : zMem), k66 x1 x2 x3 x4 m = some (x, m0) → zG w f 5 66 ([some (pR 0 0), some (pI x1), some (pI x2), some (pI x3), some (pI x4)], [], (m, n))) : ∀ (x1 : Int32) (x2 : Int32) (x3 : Int32) (x4 : Int32) (m : zMem), s_X6_bestChange_L151 k50 k66 x1 x2 x3 x4 m = some (x, m0) → zG w f 5 151 ([some (pR 0 0), some (pI x1), some (pI x2), some (pI x3), some (pI x4)], [], (m, n)) := by
  intro x1 x2 x3 x4 m h
  unfold s_X6_bestChange_L151 at h
  refine zrun hF [(.iinc 4 1, 3, pI 1)] 151 _ (by decide +kernel) ?_
  refine (And.intro rfl ?_)
  show zG w f 5 154 ([some (pR 0 0), some (pI x1), some (pI x2), some (pI x3), some (pI (x4 + 1))], [], (m, n))
  refine zgoto (tgt := 66) (pc := 154) hF (by decide +kernel) ?_
  exact hk66 _ _ _ _ _  h

set_option maxHeartbeats 4000000 in
set_option maxRecDepth 100000 in
theorem m_X6_bestChange_L66 {w : zWd} {f : zFr} {n : zMem} {x : Int32} {m0 : zMem} {lc : Launch} (hl : f.2.1 = lc) (hF : zFOK w f 6 cX6_bestChange 5 25) (hR : zFin w f (some .int) (zQI w x (m0, n))) {k50 : Int32 → Int32 → Int32 → zMem → Option (Int32 × zMem)} (hk50 : ∀ (x1 : Int32) (x2 : Int32) (x3 : Int32) (m : zMem), k50 x1 x2 x3 m = some (x, m0) → zG w f 5 50 ([some (pR 0 0), some (pI x1), some (pI x2), some (pI x3), none], [], (m, n))) : ∀ (k : Nat) (x1 : Int32) (x2 : Int32) (x3 : Int32) (x4 : Int32) (m : zMem), s_X6_bestChange_L66 k50 k x1 x2 x3 x4 m = some (x, m0) → zG w f 5 66 ([some (pR 0 0), some (pI x1), some (pI x2), some (pI x3), some (pI x4)], [], (m, n)) := by
  intro k
  induction k with
  | zero => intro x1 x2 x3 x4 m h; exact zno h
  | succ k ih =>
    intro x1 x2 x3 x4 m h
    unfold s_X6_bestChange_L66 at h
    refine zrun hF [(.iload 4, 2, pI 0), (.aload_n 0, 1, pI 0), (.getfield 16, 3, pR 0 1), (.getfield 132, 3, pR 1 6)] 66 _ (by decide +kernel) ?_
    refine (And.intro rfl (And.intro rfl (And.intro rfl (And.intro rfl ?_))))
    show zG w f 5 75 ([some (pR 0 0), some (pI x1), some (pI x2), some (pI x3), some (pI x4)], [pI (m.1 1 1 6), pI x4], (m, n))
    refine zicmp_ge (tgt := 157) (pc := 75) hF (by decide +kernel) (fun b13 => ?_) (fun b13 => ?_)
    · replace h := zit b13 h
      refine zrun hF [(.iinc 3 1, 3, pI 1)] 157 _ (by decide +kernel) ?_
      refine (And.intro rfl ?_)
      show zG w f 5 160 ([some (pR 0 0), some (pI x1), some (pI x2), some (pI (x3 + 1)), some (pI x4)], [], (m, n))
      refine zgoto (tgt := 50) (pc := 160) hF (by decide +kernel) ?_
      refine zcut [true, true, true, true, false] ?_
      exact hk50 _ _ _ _  h
    · replace h := zif b13 h
      refine zrun hF [(.aload_n 0, 1, pI 0), (.getfield 16, 3, pR 0 1), (.iload_n 3, 1, pI 0), (.iload 4, 2, pI 0)] 78 _ (by decide +kernel) ?_
      refine (And.intro rfl (And.intro rfl ?_))
      show zG w f 5 85 ([some (pR 0 0), some (pI x1), some (pI x2), some (pI x3), some (pI x4)], [pI x4, pI x3, pR 1 1], (m, n))
      obtain ⟨m16, q14, h⟩ := zr_k h
      refine zcallVV (pc := 85) (As := [pI x3, pI x4]) (st := []) (c := 1) (j := 1) hF (m_X5_swap rfl q14) w_X5_swap k_6_260 (by decide +kernel) rfl rfl rfl rfl rfl rfl rfl ?_
      refine zrun hF [(.aload_n 0, 1, pI 0), (.getfield 35, 3, pR 0 5), (.aload_n 0, 1, pI 0), (.getfield 16, 3, pR 0 1)] 88 _ (by decide +kernel) ?_
      refine (And.intro rfl (And.intro rfl (And.intro rfl (And.intro rfl ?_))))
      show zG w f 5 96 ([some (pR 0 0), some (pI x1), some (pI x2), some (pI x3), some (pI x4)], [pR 1 1, pR 10 0], (m16, n))
      obtain ⟨m19, q17, h⟩ := zr_k h
      refine zcallVV (pc := 96) (As := [pR 1 1]) (st := []) (c := 10) (j := 0) hF (m_X2_draw rfl q17) w_X2_draw k_6_211 (by decide +kernel) rfl rfl rfl rfl rfl rfl rfl ?_
      refine zrun hF [(.aload_n 0, 1, pI 0), (.getfield 35, 3, pR 0 5), (.aload_n 0, 1, pI 0), (.getfield 35, 3, pR 0 5)] 99 _ (by decide +kernel) ?_
      refine (And.intro rfl (And.intro rfl (And.intro rfl (And.intro rfl ?_))))
      show zG w f 5 107 ([some (pR 0 0), some (pI x1), some (pI x2), some (pI x3), some (pI x4)], [pR 10 0, pR 10 0], (m19, n))
      obtain ⟨r21, q20, h⟩ := zr_k h
      refine zcallVL (pc := 107) (As := []) (st := [pR 10 0]) (c := 10) (j := 0) hF (m_X2_all  q20) w_X2_all k_6_218 (by decide +kernel) rfl rfl rfl rfl rfl rfl rfl ?_
      refine zrun hF [(.iload_n 1, 1, pI 0)] 110 _ (by decide +kernel) ?_
      show zG w f 5 111 ([some (pR 0 0), some (pI x1), some (pI x2), some (pI x3), some (pI x4)], [pI x1, pL r21, pR 10 0], (m19, n))
      obtain ⟨r23, m24, q22, h⟩ := zb_k h
      refine zcallVL (pc := 111) (As := [pL r21, pI x1]) (st := []) (c := 10) (j := 0) hF (m_X2_largest  q22) w_X2_largest k_6_222 (by decide +kernel) rfl rfl rfl rfl rfl rfl rfl ?_
      refine zrun hF [(.pop2, 1, pI 0), (.aload_n 0, 1, pI 0), (.getfield 16, 3, pR 0 1), (.iload_n 3, 1, pI 0), (.iload 4, 2, pI 0)] 114 _ (by decide +kernel) ?_
      refine (And.intro rfl (And.intro rfl (And.intro rfl ?_)))
      show zG w f 5 122 ([some (pR 0 0), some (pI x1), some (pI x2), some (pI x3), some (pI x4)], [pI x4, pI x3, pR 1 1], (m24, n))
      obtain ⟨m27, q25, h⟩ := zr_k h
      refine zcallVV (pc := 122) (As := [pI x3, pI x4]) (st := []) (c := 1) (j := 1) hF (m_X5_swap rfl q25) w_X5_swap k_6_260 (by decide +kernel) rfl rfl rfl rfl rfl rfl rfl ?_
      refine zrun hF [(.aload_n 0, 1, pI 0), (.getfield 35, 3, pR 0 5), (.getfield 257, 3, pR 10 8), (.iload_n 1, 1, pI 0)] 125 _ (by decide +kernel) ?_
      refine (And.intro rfl (And.intro rfl (And.intro rfl (And.intro rfl ?_))))
      show zG w f 5 133 ([some (pR 0 0), some (pI x1), some (pI x2), some (pI x3), some (pI x4)], [pI x1, pI (m27.1 10 0 8)], (m27, n))
      refine zicmp_le (tgt := 151) (pc := 133) hF (by decide +kernel) (fun b28 => ?_) (fun b28 => ?_)
      · replace h := zit b28 h
        exact m_X6_bestChange_L151 hl hF hR hk50 ih _ _ _ _ _  h
      · replace h := zif b28 h
        refine zrun hF [(.aload_n 0, 1, pI 0), (.getfield 35, 3, pR 0 5), (.getfield 257, 3, pR 10 8), (.istore_n 1, 1, pI 0), (.iload_n 3, 1, pI 0), (.iload 4, 2, pI 0)] 136 _ (by decide +kernel) ?_
        refine (And.intro rfl (And.intro rfl (And.intro rfl (And.intro rfl (And.intro rfl ?_)))))
        show zG w f 5 147 ([some (pR 0 0), some (pI (m27.1 10 0 8)), some (pI x2), some (pI x3), some (pI x4)], [pI x4, pI x3], (m27, n))
        obtain ⟨r30, q29, h⟩ := zr_k h
        refine zcallSI (pc := 147) (As := [pI x3, pI x4]) (st := []) hF (m_X6_codeOfPair  q29) w_X6_codeOfPair k_6_263 (by decide +kernel) rfl rfl rfl rfl ?_
        refine zrun hF [(.istore_n 2, 1, pI 0)] 150 _ (by decide +kernel) ?_
        refine (And.intro rfl ?_)
        show zG w f 5 151 ([some (pR 0 0), some (pI (m27.1 10 0 8)), some (pI r30), some (pI x3), some (pI x4)], [], (m27, n))
        exact m_X6_bestChange_L151 hl hF hR hk50 ih _ _ _ _ _  h

set_option maxHeartbeats 4000000 in
set_option maxRecDepth 100000 in
theorem m_X6_bestChange_L50 {w : zWd} {f : zFr} {n : zMem} {x : Int32} {m0 : zMem} {lc : Launch} (hl : f.2.1 = lc) (hF : zFOK w f 6 cX6_bestChange 5 25) (hR : zFin w f (some .int) (zQI w x (m0, n))) : ∀ (k : Nat) (x1 : Int32) (x2 : Int32) (x3 : Int32) (m : zMem), s_X6_bestChange_L50 k x1 x2 x3 m = some (x, m0) → zG w f 5 50 ([some (pR 0 0), some (pI x1), some (pI x2), some (pI x3), none], [], (m, n)) := by
  intro k
  induction k with
  | zero => intro x1 x2 x3 m h; exact zno h
  | succ k ih =>
    intro x1 x2 x3 m h
    unfold s_X6_bestChange_L50 at h
    refine zrun hF [(.iload_n 3, 1, pI 0), (.aload_n 0, 1, pI 0), (.getfield 16, 3, pR 0 1), (.getfield 132, 3, pR 1 6)] 50 _ (by decide +kernel) ?_
    refine (And.intro rfl (And.intro rfl (And.intro rfl (And.intro rfl ?_))))
    show zG w f 5 58 ([some (pR 0 0), some (pI x1), some (pI x2), some (pI x3), none], [pI (m.1 1 1 6), pI x3], (m, n))
    refine zicmp_ge (tgt := 163) (pc := 58) hF (by decide +kernel) (fun b12 => ?_) (fun b12 => ?_)
    · replace h := zit b12 h
      refine zrun hF [(.iload_n 2, 1, pI 0)] 163 _ (by decide +kernel) ?_
      show zG w f 5 164 ([some (pR 0 0), some (pI x1), some (pI x2), some (pI x3), none], [pI x2], (m, n))
      exact zretI (pc := 164) hF hR (by decide +kernel) rfl (congrArg Prod.fst (Option.some.inj h)) (congrArg (fun (q : Int32 × zMem) => (q.2, n)) (Option.some.inj h))
    · replace h := zif b12 h
      refine zrun hF [(.iload_n 3, 1, pI 0), (.iconst 1, 1, pI 1), (.iadd, 1, pI 0), (.istore 4, 2, pI 0)] 61 _ (by decide +kernel) ?_
      refine (And.intro rfl ?_)
      show zG w f 5 66 ([some (pR 0 0), some (pI x1), some (pI x2), some (pI x3), some (pI (x3 + 1))], [], (m, n))
      exact m_X6_bestChange_L66 hl hF hR ih zF _ _ _ _ _  h

set_option maxHeartbeats 4000000 in
set_option maxRecDepth 100000 in
theorem m_X6_bestChange {w : zWd} {lc : Launch} {n : zMem}  {m : zMem} {x : Int32} {m0 : zMem}  (h : s_X6_bestChange m = some (x, m0)) : zMet w lc 25 yX6_bestChange cX6_bestChange 5 (some .int) [pR 0 0] (m, n) (zQI w x (m0, n)) := by
  refine zmet (o := 6) (by decide +kernel) rfl (Nat.le_of_ble_eq_true rfl) rfl (fun f hl hF hR => ?_)
  unfold s_X6_bestChange at h
  show zG w f 5 0 ([some (pR 0 0), none, none, none, none], [], (m, n))
  refine zrun hF [(.aload_n 0, 1, pI 0), (.getfield 35, 3, pR 0 5), (.aload_n 0, 1, pI 0), (.getfield 10, 3, pR 0 0)] 0 _ (by decide +kernel) ?_
  refine (And.intro rfl (And.intro rfl (And.intro rfl (And.intro rfl ?_))))
  show zG w f 5 8 ([some (pR 0 0), none, none, none, none], [pR 1 0, pR 10 0], (m, n))
  obtain ⟨m3, q1, h⟩ := zr_k h
  refine zcallVV (pc := 8) (As := [pR 1 0]) (st := []) (c := 10) (j := 0) hF (m_X2_draw rfl q1) w_X2_draw k_6_211 (by decide +kernel) rfl rfl rfl rfl rfl rfl rfl ?_
  refine zrun hF [(.aload_n 0, 1, pI 0), (.getfield 35, 3, pR 0 5), (.aload_n 0, 1, pI 0), (.getfield 35, 3, pR 0 5)] 11 _ (by decide +kernel) ?_
  refine (And.intro rfl (And.intro rfl (And.intro rfl (And.intro rfl ?_))))
  show zG w f 5 19 ([some (pR 0 0), none, none, none, none], [pR 10 0, pR 10 0], (m3, n))
  obtain ⟨r5, q4, h⟩ := zr_k h
  refine zcallVL (pc := 19) (As := []) (st := [pR 10 0]) (c := 10) (j := 0) hF (m_X2_all  q4) w_X2_all k_6_218 (by decide +kernel) rfl rfl rfl rfl rfl rfl rfl ?_
  refine zrun hF [(.iconst 0, 1, pI 0)] 22 _ (by decide +kernel) ?_
  show zG w f 5 23 ([some (pR 0 0), none, none, none, none], [pI 0, pL r5, pR 10 0], (m3, n))
  obtain ⟨r7, m8, q6, h⟩ := zb_k h
  refine zcallVL (pc := 23) (As := [pL r5, pI 0]) (st := []) (c := 10) (j := 0) hF (m_X2_largest  q6) w_X2_largest k_6_222 (by decide +kernel) rfl rfl rfl rfl rfl rfl rfl ?_
  refine zrun hF [(.pop2, 1, pI 0), (.aload_n 0, 1, pI 0), (.getfield 35, 3, pR 0 5), (.getfield 257, 3, pR 10 8), (.istore_n 1, 1, pI 0), (.iconst (-1), 1, pI (-1)), (.istore_n 2, 1, pI 0), (.aload_n 0, 1, pI 0), (.getfield 16, 3, pR 0 1), (.aload_n 0, 1, pI 0), (.getfield 10, 3, pR 0 0)] 26 _ (by decide +kernel) ?_
  refine (And.intro rfl (And.intro rfl (And.intro rfl (And.intro rfl (And.intro rfl (And.intro rfl (And.intro rfl (And.intro rfl (And.intro rfl (And.intro rfl (And.intro rfl ?_)))))))))))
  show zG w f 5 45 ([some (pR 0 0), some (pI (m8.1 10 0 8)), some (pI (-1)), none, none], [pR 1 0, pR 1 1], (m8, n))
  obtain ⟨m11, q9, h⟩ := zr_k h
  refine zcallVV (pc := 45) (As := [pR 1 0]) (st := []) (c := 1) (j := 1) hF (m_X5_takeOver rfl rfl q9) w_X5_takeOver k_6_179 (by decide +kernel) rfl rfl rfl rfl rfl rfl rfl ?_
  refine zrun hF [(.iconst 0, 1, pI 0), (.istore_n 3, 1, pI 0)] 48 _ (by decide +kernel) ?_
  refine (And.intro rfl ?_)
  show zG w f 5 50 ([some (pR 0 0), some (pI (m8.1 10 0 8)), some (pI (-1)), some (pI 0), none], [], (m11, n))
  exact m_X6_bestChange_L50 hl hF hR  zF _ _ _ _  h

