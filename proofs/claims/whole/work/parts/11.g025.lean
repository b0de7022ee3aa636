set_option maxHeartbeats 4000000 in
set_option maxRecDepth 100000 in
theorem m_X6_clinkTogether_L76 {w : zWd} {f : zFr} {n : zMem} {x : Int32} {m0 : zMem} {lc : Launch} (hl : f.2.1 = lc) (hF : zFOK w f 6 cX6_clinkTogether 5 4) (hR : zFin w f (some .int) (zQI w x (m0, n))) {k25 : Int64 → Int32 → Int32 → zMem → Option (Int32 × zMem)} (hk25 : ∀ (x1 : Int64) (x3 : Int32) (x4 : Int32) (m : zMem), k25 x1 x3 x4 m = some (x, m0) → zG w f 5 25 ([some (pR 0 0), some (pL x1), none, some (pI x3), some (pI x4)], [], (m, n))) : ∀ (x1 : Int64) (x3 : Int32) (x4 : Int32) (m : zMem), s_X6_clinkTogether_L76 k25 x1 x3 x4 m = some (x, m0) → zG w f 5 76 ([some (pR 0 0), some (pL x1), none, some (pI x3), some (pI x4)], [], (m, n)) := by
  intro x1 x3 x4 m h
  unfold s_X6_clinkTogether_L76 at h
  refine zrun hF [(.iinc 4 1, 3, pI 1)] 76 _ (by decide +kernel) ?_
  refine (And.intro rfl ?_)
  show zG w f 5 79 ([some (pR 0 0), some (pL x1), none, some (pI x3), some (pI (x4 + 1))], [], (m, n))
  refine zgoto (tgt := 25) (pc := 79) hF (by decide +kernel) ?_
  exact hk25 _ _ _ _  h

set_option maxHeartbeats 4000000 in
set_option maxRecDepth 100000 in
theorem m_X6_clinkTogether_L25 {w : zWd} {f : zFr} {n : zMem} {x : Int32} {m0 : zMem} {lc : Launch} (hl : f.2.1 = lc) (hF : zFOK w f 6 cX6_clinkTogether 5 4) (hR : zFin w f (some .int) (zQI w x (m0, n))) : ∀ (k : Nat) (x1 : Int64) (x3 : Int32) (x4 : Int32) (m : zMem), s_X6_clinkTogether_L25 k x1 x3 x4 m = some (x, m0) → zG w f 5 25 ([some (pR 0 0), some (pL x1), none, some (pI x3), some (pI x4)], [], (m, n)) := by
  intro k
  induction k with
  | zero => intro x1 x3 x4 m h; exact zno h
  | succ k ih =>
    intro x1 x3 x4 m h
    unfold s_X6_clinkTogether_L25 at h
    refine zrun hF [(.iload 4, 2, pI 0), (.aload_n 0, 1, pI 0), (.getfield 35, 3, pR 0 5), (.getfield 214, 3, pR 10 7)] 25 _ (by decide +kernel) ?_
    refine (And.intro rfl (And.intro rfl (And.intro rfl (And.intro rfl ?_))))
    show zG w f 5 34 ([some (pR 0 0), some (pL x1), none, some (pI x3), some (pI x4)], [pI (m.1 10 0 7), pI x4], (m, n))
    refine zicmp_ge (tgt := 82) (pc := 34) hF (by decide +kernel) (fun b4 => ?_) (fun b4 => ?_)
    · replace h := zit b4 h
      refine zrun hF [(.iload_n 3, 1, pI 0)] 82 _ (by decide +kernel) ?_
      show zG w f 5 83 ([some (pR 0 0), some (pL x1), none, some (pI x3), some (pI x4)], [pI x3], (m, n))
      exact zretI (pc := 83) hF hR (by decide +kernel) rfl (congrArg Prod.fst (Option.some.inj h)) (congrArg (fun (q : Int32 × zMem) => (q.2, n)) (Option.some.inj h))
    · replace h := zif b4 h
      refine zrun hF [(.lload_n 1, 1, pI 0), (.iload 4, 2, pI 0)] 37 _ (by decide +kernel) ?_
      show zG w f 5 40 ([some (pR 0 0), some (pL x1), none, some (pI x3), some (pI x4)], [pI x4, pL x1], (m, n))
      obtain ⟨r6, q5, h⟩ := zr_k h
      refine zcallSI (pc := 40) (As := [pL x1, pI x4]) (st := []) hF (m_X2_isIn  q5) w_X2_isIn k_6_372 (by decide +kernel) rfl rfl rfl rfl ?_
      refine zif_eq (tgt := 76) (pc := 43) hF (by decide +kernel) (fun b7 => ?_) (fun b7 => ?_)
      · replace h := zit b7 h
        exact m_X6_clinkTogether_L76 hl hF hR ih _ _ _ _  h
      · replace h := zif b7 h
        obtain ⟨c8, h⟩ := zchk h
        refine zrun hF [(.aload_n 0, 1, pI 0), (.getfield 10, 3, pR 0 0), (.aload_n 0, 1, pI 0), (.getfield 35, 3, pR 0 5), (.getfield 376, 3, pR 10 0), (.iload 4, 2, pI 0), (.iaload, 1, pI 0), (.aload_n 0, 1, pI 0), (.getfield 35, 3, pR 0 5), (.getfield 379, 3, pR 10 1), (.iload 4, 2, pI 0), (.iaload, 1, pI 0)] 46 _ (by decide +kernel) ?_
        refine (And.intro rfl (And.intro rfl (And.intro rfl (And.intro rfl (And.intro rfl (And.intro rfl (And.intro rfl (And.intro rfl (And.intro c8 (And.intro rfl (And.intro rfl (And.intro rfl (And.intro rfl (And.intro rfl (And.intro rfl (And.intro c8 ?_))))))))))))))))
        show zG w f 5 70 ([some (pR 0 0), some (pL x1), none, some (pI x3), some (pI x4)], [pI (m.1 12 0 (ix x4)), pI (m.1 11 0 (ix x4)), pR 1 0], (m, n))
        obtain ⟨m11, q9, h⟩ := zr_k h
        refine zcallVV (pc := 70) (As := [pI (m.1 11 0 (ix x4)), pI (m.1 12 0 (ix x4))]) (st := []) (c := 1) (j := 0) hF (m_X5_clinkUncounted rfl q9) w_X5_clinkUncounted k_6_382 (by decide +kernel) rfl rfl rfl rfl rfl rfl rfl ?_
        refine zrun hF [(.iinc 3 1, 3, pI 1)] 73 _ (by decide +kernel) ?_
        refine (And.intro rfl ?_)
        show zG w f 5 76 ([some (pR 0 0), some (pL x1), none, some (pI (x3 + 1)), some (pI x4)], [], (m11, n))
        exact m_X6_clinkTogether_L76 hl hF hR ih _ _ _ _  h

set_option maxHeartbeats 4000000 in
set_option maxRecDepth 100000 in
theorem m_X6_clinkTogether {w : zWd} {lc : Launch} {n : zMem} {a1 : Int64} {m : zMem} {x : Int32} {m0 : zMem}  (h : s_X6_clinkTogether a1 m = some (x, m0)) : zMet w lc 4 yX6_clinkTogether cX6_clinkTogether 5 (some .int) [pR 0 0, pL a1] (m, n) (zQI w x (m0, n)) := by
  refine zmet (o := 6) (by decide +kernel) rfl (Nat.le_of_ble_eq_true rfl) rfl (fun f hl hF hR => ?_)
  unfold s_X6_clinkTogether at h
  show zG w f 5 0 ([some (pR 0 0), some (pL a1), none, none, none], [], (m, n))
  refine zrun hF [(.aload_n 0, 1, pI 0), (.getfield 10, 3, pR 0 0), (.dup, 1, pI 0), (.getfield 354, 3, pR 1 9), (.aload_n 0, 1, pI 0), (.getfield 35, 3, pR 0 5), (.lload_n 1, 1, pI 0)] 0 _ (by decide +kernel) ?_
  refine (And.intro rfl (And.intro rfl (And.intro rfl (And.intro rfl (And.intro rfl (And.intro rfl (And.intro rfl ?_)))))))
  show zG w f 5 13 ([some (pR 0 0), some (pL a1), none, none, none], [pL a1, pR 10 0, pI (m.1 1 0 9), pR 1 0], (m, n))
  obtain ⟨r2, q1, h⟩ := zr_k h
  refine zcallVI (pc := 13) (As := [pL a1]) (st := [pI (m.1 1 0 9), pR 1 0]) (c := 10) (j := 0) hF (m_X2_longest  q1) w_X2_longest k_6_369 (by decide +kernel) rfl rfl rfl rfl rfl rfl rfl ?_
  refine zrun hF [(.iadd, 1, pI 0), (.putfield 354, 3, pR 1 9)] 16 _ (by decide +kernel) ?_
  refine (And.intro rfl (And.intro rfl (And.intro trivial ?_)))
  refine zlet_k (P := fun (m3 : zMem) => zG w f 5 20 ([some (pR 0 0), some (pL a1), none, none, none], [], (m3, n))) h (fun m3 h => ?_)
  refine zrun hF [(.iconst 0, 1, pI 0), (.istore_n 3, 1, pI 0), (.iconst 0, 1, pI 0), (.istore 4, 2, pI 0)] 20 _ (by decide +kernel) ?_
  refine (And.intro rfl (And.intro rfl ?_))
  show zG w f 5 25 ([some (pR 0 0), some (pL a1), none, some (pI 0), some (pI 0)], [], (m3, n))
  exact m_X6_clinkTogether_L25 hl hF hR  zF _ _ _ _  h

set_option maxHeartbeats 4000000 in
set_option maxRecDepth 100000 in
theorem m_X6_goes_L11 {w : zWd} {f : zFr} {n : zMem} {x : Int32} {m0 : zMem} {lc : Launch} (hl : f.2.1 = lc) (hF : zFOK w f 6 cX6_goes 5 26) (hR : zFin w f (some .int) (zQI w x (m0, n))) : ∀ (m : zMem), s_X6_goes_L11 m = some (x, m0) → zG w f 5 11 ([some (pR 0 0), none, none, none, none], [], (m, n)) := by
  intro m h
  unfold s_X6_goes_L11 at h
  refine zrun hF [(.aload_n 0, 1, pI 0), (.bipush (-6), 2, pI (-6))] 11 _ (by decide +kernel) ?_
  show zG w f 5 14 ([some (pR 0 0), none, none, none, none], [pI (-6), pR 0 0], (m, n))
  obtain ⟨r10, m11, q9, h⟩ := zb_k h
  refine zcallVI (pc := 14) (As := [pI (-6)]) (st := []) (c := 0) (j := 0) hF (m_X6_refuse  q9) w_X6_refuse k_6_73 (by decide +kernel) rfl rfl rfl rfl rfl rfl rfl ?_
  exact zretI (pc := 17) hF hR (by decide +kernel) rfl (congrArg Prod.fst (Option.some.inj h)) (congrArg (fun (q : Int32 × zMem) => (q.2, n)) (Option.some.inj h))

set_option maxHeartbeats 4000000 in
set_option maxRecDepth 100000 in
theorem m_X6_goes_L43 {w : zWd} {f : zFr} {n : zMem} {x : Int32} {m0 : zMem} {lc : Launch} (hl : f.2.1 = lc) (hF : zFOK w f 6 cX6_goes 5 26) (hR : zFin w f (some .int) (zQI w x (m0, n))) : ∀ (k : Nat) (x2 : Int32) (x3 : Int32) (x4 : Int32) (m : zMem), s_X6_goes_L43 k x2 x3 x4 m = some (x, m0) → zG w f 5 43 ([some (pR 0 0), none, some (pI x2), some (pI x3), some (pI x4)], [], (m, n)) := by
  intro k
  induction k with
  | zero => intro x2 x3 x4 m h; exact zno h
  | succ k ih =>
    intro x2 x3 x4 m h
    unfold s_X6_goes_L43 at h
    refine zrun hF [(.iload 4, 2, pI 0), (.iload_n 2, 1, pI 0)] 43 _ (by decide +kernel) ?_
    show zG w f 5 46 ([some (pR 0 0), none, some (pI x2), some (pI x3), some (pI x4)], [pI x2, pI x4], (m, n))
    refine zicmp_ge (tgt := 72) (pc := 46) hF (by decide +kernel) (fun b12 => ?_) (fun b12 => ?_)
    · replace h := zit b12 h
      refine zrun hF [(.iload_n 3, 1, pI 0)] 72 _ (by decide +kernel) ?_
      show zG w f 5 73 ([some (pR 0 0), none, some (pI x2), some (pI x3), some (pI x4)], [pI x3], (m, n))
      exact zretI (pc := 73) hF hR (by decide +kernel) rfl (congrArg Prod.fst (Option.some.inj h)) (congrArg (fun (q : Int32 × zMem) => (q.2, n)) (Option.some.inj h))
    · replace h := zif b12 h
      obtain ⟨c13, h⟩ := zchk h
      refine zrun hF [(.iload_n 3, 1, pI 0), (.aload_n 0, 1, pI 0), (.aload_n 0, 1, pI 0), (.getfield 35, 3, pR 0 5), (.getfield 237, 3, pR 10 5), (.iload 4, 2, pI 0), (.laload, 1, pI 0)] 49 _ (by decide +kernel) ?_
      refine (And.intro rfl (And.intro rfl (And.intro rfl (And.intro rfl (And.intro rfl (And.intro rfl (And.intro c13 ?_)))))))
      show zG w f 5 61 ([some (pR 0 0), none, some (pI x2), some (pI x3), some (pI x4)], [pL (m.2 16 0 (ix x4)), pR 0 0, pI x3], (m, n))
      obtain ⟨r15, m16, q14, h⟩ := zb_k h
      refine zcallVI (pc := 61) (As := [pL (m.2 16 0 (ix x4))]) (st := [pI x3]) (c := 0) (j := 0) hF (m_X6_clinkTogether  q14) w_X6_clinkTogether k_6_323 (by decide +kernel) rfl rfl rfl rfl rfl rfl rfl ?_
      refine zrun hF [(.iadd, 1, pI 0), (.istore_n 3, 1, pI 0), (.iinc 4 1, 3, pI 1)] 64 _ (by decide +kernel) ?_
      refine (And.intro rfl (And.intro rfl ?_))
      show zG w f 5 69 ([some (pR 0 0), none, some (pI x2), some (pI (x3 + r15)), some (pI (x4 + 1))], [], (m16, n))
      refine zgoto (tgt := 43) (pc := 69) hF (by decide +kernel) ?_
      exact ih _ _ _ _  h

set_option maxHeartbeats 4000000 in
set_option maxRecDepth 100000 in
theorem m_X6_goes {w : zWd} {lc : Launch} {n : zMem} {a1 : Int32} {m : zMem} {x : Int32} {m0 : zMem}  (h : s_X6_goes a1 m = some (x, m0)) : zMet w lc 26 yX6_goes cX6_goes 5 (some .int) [pR 0 0, pI a1] (m, n) (zQI w x (m0, n)) := by
  refine zmet (o := 6) (by decide +kernel) rfl (Nat.le_of_ble_eq_true rfl) rfl (fun f hl hF hR => ?_)
  unfold s_X6_goes at h
  show zG w f 5 0 ([some (pR 0 0), some (pI a1), none, none, none], [], (m, n))
  refine zrun hF [(.iload_n 1, 1, pI 0), (.iconst 1, 1, pI 1)] 0 _ (by decide +kernel) ?_
  show zG w f 5 2 ([some (pR 0 0), some (pI a1), none, none, none], [pI 1, pI a1], (m, n))
  refine zicmp_lt (tgt := 11) (pc := 2) hF (by decide +kernel) (fun b1 => ?_) (fun b1 => ?_)
  · replace h := zit b1 h
    refine zcut [true, false, true, true, true] ?_
    exact m_X6_goes_L11 hl hF hR  _  h
  · replace h := zif b1 h
    refine zrun hF [(.iload_n 1, 1, pI 0), (.bipush 45, 2, pI 45)] 5 _ (by decide +kernel) ?_
    show zG w f 5 8 ([some (pR 0 0), some (pI a1), none, none, none], [pI 45, pI a1], (m, n))
    refine zicmp_le (tgt := 18) (pc := 8) hF (by decide +kernel) (fun b2 => ?_) (fun b2 => ?_)
    · replace h := zit b2 h
      refine zrun hF [(.aload_n 0, 1, pI 0), (.getfield 35, 3, pR 0 5), (.aload_n 0, 1, pI 0), (.getfield 10, 3, pR 0 0)] 18 _ (by decide +kernel) ?_
      refine (And.intro rfl (And.intro rfl (And.intro rfl (And.intro rfl ?_))))
      show zG w f 5 26 ([some (pR 0 0), some (pI a1), none, none, none], [pR 1 0, pR 10 0], (m, n))
      obtain ⟨m5, q3, h⟩ := zr_k h
      refine zcallVV (pc := 26) (As := [pR 1 0]) (st := []) (c := 10) (j := 0) hF (m_X2_draw rfl q3) w_X2_draw k_6_211 (by decide +kernel) rfl rfl rfl rfl rfl rfl rfl ?_
      refine zrun hF [(.aload_n 0, 1, pI 0), (.getfield 35, 3, pR 0 5), (.iload_n 1, 1, pI 0)] 29 _ (by decide +kernel) ?_
      refine (And.intro rfl (And.intro rfl ?_))
      show zG w f 5 34 ([some (pR 0 0), some (pI a1), none, none, none], [pI a1, pR 10 0], (m5, n))
      obtain ⟨r7, m8, q6, h⟩ := zb_k h
      refine zcallVI (pc := 34) (As := [pI a1]) (st := []) (c := 10) (j := 0) hF (m_X2_makeRounds  q6) w_X2_makeRounds k_6_234 (by decide +kernel) rfl rfl rfl rfl rfl rfl rfl ?_
      refine zrun hF [(.istore_n 2, 1, pI 0), (.iconst 0, 1, pI 0), (.istore_n 3, 1, pI 0), (.iconst 0, 1, pI 0), (.istore 4, 2, pI 0)] 37 _ (by decide +kernel) ?_
      refine (And.intro rfl (And.intro rfl (And.intro rfl ?_)))
      show zG w f 5 43 ([some (pR 0 0), some (pI a1), some (pI r7), some (pI 0), some (pI 0)], [], (m8, n))
      refine zcut [true, false, true, true, true] ?_
      exact m_X6_goes_L43 hl hF hR  zF _ _ _ _  h
    · replace h := zif b2 h
      refine zcut [true, false, true, true, true] ?_
      exact m_X6_goes_L11 hl hF hR  _  h

set_option maxHeartbeats 4000000 in
set_option maxRecDepth 100000 in
theorem m_X7_goes_L11 {w : zWd} {f : zFr} {n : zMem} {x : Int32} {m0 : zMem} {lc : Launch} (hl : f.2.1 = lc) (hF : zFOK w f 7 cX7_goes 4 27) (hR : zFin w f (some .int) (zQI w x (n, m0))) : ∀ (m : zMem), s_X7_goes_L11 m = some (x, m0) → zG w f 4 11 ([some (pR 64 0), none, none, none], [], (n, m)) := by
  intro m h
  unfold s_X7_goes_L11 at h
  refine zrun hF [(.aload_n 0, 1, pI 0), (.bipush (-6), 2, pI (-6))] 11 _ (by decide +kernel) ?_
  show zG w f 4 14 ([some (pR 64 0), none, none, none], [pI (-6), pR 64 0], (n, m))
  obtain ⟨r4, m5, q3, h⟩ := zb_k h
  refine zcallVI (pc := 14) (As := [pI (-6)]) (st := []) (c := 64) (j := 0) hF (m_X7_no  q3) w_X7_no k_7_100 (by decide +kernel) rfl rfl rfl rfl rfl rfl rfl ?_
  exact zretI (pc := 17) hF hR (by decide +kernel) rfl (congrArg Prod.fst (Option.some.inj h)) (congrArg (fun (q : Int32 × zMem) => (n, q.2)) (Option.some.inj h))

set_option maxHeartbeats 4000000 in
set_option maxRecDepth 100000 in
theorem m_X7_goes_L25 {w : zWd} {f : zFr} {n : zMem} {x : Int32} {m0 : zMem} {lc : Launch} (hl : f.2.1 = lc) (hF : zFOK w f 7 cX7_goes 4 27) (hR : zFin w f (some .int) (zQI w x (n, m0))) : ∀ (k : Nat) (x1 : Int32) (x2 : Int32) (x3 : Int32) (m : zMem), s_X7_goes_L25 k x1 x2 x3 m = some (x, m0) → zG w f 4 25 ([some (pR 64 0), some (pI x1), some (pI x2), some (pI x3)], [], (n, m)) := by
  intro k
  induction k with
  | zero => intro x1 x2 x3 m h; exact zno h
  | succ k ih =>
    intro x1 x2 x3 m h
    unfold s_X7_goes_L25 at h
    refine zrun hF [(.iload_n 3, 1, pI 0), (.iload_n 1, 1, pI 0)] 25 _ (by decide +kernel) ?_
    show zG w f 4 27 ([some (pR 64 0), some (pI x1), some (pI x2), some (pI x3)], [pI x1, pI x3], (n, m))
    refine zicmp_ge (tgt := 62) (pc := 27) hF (by decide +kernel) (fun b6 => ?_) (fun b6 => ?_)
    · replace h := zit b6 h
      refine zrun hF [(.aload_n 0, 1, pI 0), (.getfield 183, 3, pR 64 3), (.iload_n 2, 1, pI 0), (.isub, 1, pI 0)] 62 _ (by decide +kernel) ?_
      refine (And.intro rfl (And.intro rfl ?_))
      show zG w f 4 68 ([some (pR 64 0), some (pI x1), some (pI x2), some (pI x3)], [pI ((m.1 64 0 3) - x2)], (n, m))
      exact zretI (pc := 68) hF hR (by decide +kernel) rfl (congrArg Prod.fst (Option.some.inj h)) (congrArg (fun (q : Int32 × zMem) => (n, q.2)) (Option.some.inj h))
    · replace h := zif b6 h
      refine zrun hF [(.aload_n 0, 1, pI 0), (.dup, 1, pI 0), (.getfield 186, 3, pR 64 4), (.aload_n 0, 1, pI 0)] 30 _ (by decide +kernel) ?_
      refine (And.intro rfl (And.intro rfl (And.intro rfl ?_)))
      show zG w f 4 36 ([some (pR 64 0), some (pI x1), some (pI x2), some (pI x3)], [pR 64 0, pI (m.1 64 0 4), pR 64 0], (n, m))
      obtain ⟨r8, m9, q7, h⟩ := zb_k h
      refine zcallVI (pc := 36) (As := []) (st := [pI (m.1 64 0 4), pR 64 0]) (c := 64) (j := 0) hF (m_X7_round  q7) w_X7_round k_7_250 (by decide +kernel) rfl rfl rfl rfl rfl rfl rfl ?_
      refine zrun hF [(.iadd, 1, pI 0), (.putfield 186, 3, pR 64 4)] 39 _ (by decide +kernel) ?_
      refine (And.intro rfl (And.intro rfl (And.intro trivial ?_)))
      refine zlet_k (P := fun (m10 : zMem) => zG w f 4 43 ([some (pR 64 0), some (pI x1), some (pI x2), some (pI x3)], [], (n, m10))) h (fun m10 h => ?_)
      refine zrun hF [(.aload_n 0, 1, pI 0), (.dup, 1, pI 0), (.getfield 183, 3, pR 64 3), (.aload_n 0, 1, pI 0), (.getfield 231, 3, pR 64 33), (.iadd, 1, pI 0), (.putfield 183, 3, pR 64 3)] 43 _ (by decide +kernel) ?_
      refine (And.intro rfl (And.intro rfl (And.intro rfl (And.intro rfl (And.intro rfl (And.intro rfl (And.intro rfl (And.intro trivial ?_))))))))
      refine zlet_k (P := fun (m11 : zMem) => zG w f 4 56 ([some (pR 64 0), some (pI x1), some (pI x2), some (pI x3)], [], (n, m11))) h (fun m11 h => ?_)
      refine zrun hF [(.iinc 3 1, 3, pI 1)] 56 _ (by decide +kernel) ?_
      refine (And.intro rfl ?_)
      show zG w f 4 59 ([some (pR 64 0), some (pI x1), some (pI x2), some (pI (x3 + 1))], [], (n, m11))
      refine zgoto (tgt := 25) (pc := 59) hF (by decide +kernel) ?_
      exact ih _ _ _ _  h

set_option maxHeartbeats 4000000 in
set_option maxRecDepth 100000 in
theorem m_X7_goes {w : zWd} {lc : Launch} {n : zMem} {a1 : Int32} {m : zMem} {x : Int32} {m0 : zMem}  (h : s_X7_goes a1 m = some (x, m0)) : zMet w lc 27 yX7_goes cX7_goes 4 (some .int) [pR 64 0, pI a1] (n, m) (zQI w x (n, m0)) := by
  refine zmet (o := 7) (by decide +kernel) rfl (Nat.le_of_ble_eq_true rfl) rfl (fun f hl hF hR => ?_)
  unfold s_X7_goes at h
  show zG w f 4 0 ([some (pR 64 0), some (pI a1), none, none], [], (n, m))
  refine zrun hF [(.iload_n 1, 1, pI 0), (.iconst 1, 1, pI 1)] 0 _ (by decide +kernel) ?_
  show zG w f 4 2 ([some (pR 64 0), some (pI a1), none, none], [pI 1, pI a1], (n, m))
  refine zicmp_lt (tgt := 11) (pc := 2) hF (by decide +kernel) (fun b1 => ?_) (fun b1 => ?_)
  · replace h := zit b1 h
    refine zcut [true, false, true, true] ?_
    exact m_X7_goes_L11 hl hF hR  _  h
  · replace h := zif b1 h
    refine zrun hF [(.iload_n 1, 1, pI 0), (.bipush 45, 2, pI 45)] 5 _ (by decide +kernel) ?_
    show zG w f 4 8 ([some (pR 64 0), some (pI a1), none, none], [pI 45, pI a1], (n, m))
    refine zicmp_le (tgt := 18) (pc := 8) hF (by decide +kernel) (fun b2 => ?_) (fun b2 => ?_)
    · replace h := zit b2 h
      refine zrun hF [(.aload_n 0, 1, pI 0), (.getfield 183, 3, pR 64 3), (.istore_n 2, 1, pI 0), (.iconst 0, 1, pI 0), (.istore_n 3, 1, pI 0)] 18 _ (by decide +kernel) ?_
      refine (And.intro rfl (And.intro rfl (And.intro rfl (And.intro rfl ?_))))
      show zG w f 4 25 ([some (pR 64 0), some (pI a1), some (pI (m.1 64 0 3)), some (pI 0)], [], (n, m))
      exact m_X7_goes_L25 hl hF hR  zF _ _ _ _  h
    · replace h := zif b2 h
      refine zcut [true, false, true, true] ?_
      exact m_X7_goes_L11 hl hF hR  _  h

set_option maxHeartbeats 4000000 in
set_option maxRecDepth 100000 in
theorem m_X6_change {w : zWd} {lc : Launch} {n : zMem} {a1 : Int32} {a2 : Int32} {m : zMem} {x : Int32} {m0 : zMem}  (h : s_X6_change a1 a2 m = some (x, m0)) : zMet w lc 3 yX6_change cX6_change 4 (some .int) [pR 0 0, pI a1, pI a2] (m, n) (zQI w x (m0, n)) := by
  refine zmet (o := 6) (by decide +kernel) rfl (Nat.le_of_ble_eq_true rfl) rfl (fun f hl hF hR => ?_)
  unfold s_X6_change at h
  show zG w f 4 0 ([some (pR 0 0), some (pI a1), some (pI a2), none], [], (m, n))
  refine zrun hF [(.aload_n 0, 1, pI 0), (.iload_n 1, 1, pI 0), (.iload_n 2, 1, pI 0)] 0 _ (by decide +kernel) ?_
  show zG w f 4 3 ([some (pR 0 0), some (pI a1), some (pI a2), none], [pI a2, pI a1, pR 0 0], (m, n))
  obtain ⟨r2, q1, h⟩ := zr_k h
  refine zcallVI (pc := 3) (As := [pI a1, pI a2]) (st := []) (c := 0) (j := 0) hF (m_X6_refusalOfPair  q1) w_X6_refusalOfPair k_6_169 (by decide +kernel) rfl rfl rfl rfl rfl rfl rfl ?_
  refine zrun hF [(.istore_n 3, 1, pI 0), (.iload_n 3, 1, pI 0)] 6 _ (by decide +kernel) ?_
  refine (And.intro rfl ?_)
  show zG w f 4 8 ([some (pR 0 0), some (pI a1), some (pI a2), some (pI r2)], [pI r2], (m, n))
  refine zif_eq (tgt := 17) (pc := 8) hF (by decide +kernel) (fun b3 => ?_) (fun b3 => ?_)
  · replace h := zit b3 h
    refine zrun hF [(.aload_n 0, 1, pI 0), (.getfield 10, 3, pR 0 0), (.iload_n 1, 1, pI 0), (.iload_n 2, 1, pI 0)] 17 _ (by decide +kernel) ?_
    refine (And.intro rfl (And.intro rfl ?_))
    show zG w f 4 23 ([some (pR 0 0), some (pI a1), some (pI a2), some (pI r2)], [pI a2, pI a1, pR 1 0], (m, n))
    obtain ⟨m6, q4, h⟩ := zr_k h
    refine zcallVV (pc := 23) (As := [pI a1, pI a2]) (st := []) (c := 1) (j := 0) hF (m_X5_swap rfl q4) w_X5_swap k_6_260 (by decide +kernel) rfl rfl rfl rfl rfl rfl rfl ?_
    refine zrun hF [(.iconst 1, 1, pI 1)] 26 _ (by decide +kernel) ?_
    show zG w f 4 27 ([some (pR 0 0), some (pI a1), some (pI a2), some (pI r2)], [pI 1], (m6, n))
    exact zretI (pc := 27) hF hR (by decide +kernel) rfl (congrArg Prod.fst (Option.some.inj h)) (congrArg (fun (q : Int32 × zMem) => (q.2, n)) (Option.some.inj h))
  · replace h := zif b3 h
    refine zrun hF [(.aload_n 0, 1, pI 0), (.iload_n 3, 1, pI 0)] 11 _ (by decide +kernel) ?_
    show zG w f 4 13 ([some (pR 0 0), some (pI a1), some (pI a2), some (pI r2)], [pI r2, pR 0 0], (m, n))
    obtain ⟨r8, m9, q7, h⟩ := zb_k h
    refine zcallVI (pc := 13) (As := [pI r2]) (st := []) (c := 0) (j := 0) hF (m_X6_refuse  q7) w_X6_refuse k_6_73 (by decide +kernel) rfl rfl rfl rfl rfl rfl rfl ?_
    exact zretI (pc := 16) hF hR (by decide +kernel) rfl (congrArg Prod.fst (Option.some.inj h)) (congrArg (fun (q : Int32 × zMem) => (q.2, n)) (Option.some.inj h))

set_option maxHeartbeats 4000000 in
set_option maxRecDepth 100000 in
theorem m_X7_change {w : zWd} {lc : Launch} {n : zMem} {a1 : Int32} {a2 : Int32} {m : zMem} {x : Int32} {m0 : zMem}  (h : s_X7_change a1 a2 m = some (x, m0)) : zMet w lc 3 yX7_change cX7_change 4 (some .int) [pR 64 0, pI a1, pI a2] (n, m) (zQI w x (n, m0)) := by
  refine zmet (o := 7) (by decide +kernel) rfl (Nat.le_of_ble_eq_true rfl) rfl (fun f hl hF hR => ?_)
  unfold s_X7_change at h
  show zG w f 4 0 ([some (pR 64 0), some (pI a1), some (pI a2), none], [], (n, m))
  refine zrun hF [(.aload_n 0, 1, pI 0), (.iload_n 1, 1, pI 0), (.iload_n 2, 1, pI 0)] 0 _ (by decide +kernel) ?_
  show zG w f 4 3 ([some (pR 64 0), some (pI a1), some (pI a2), none], [pI a2, pI a1, pR 64 0], (n, m))
  obtain ⟨r2, q1, h⟩ := zr_k h
  refine zcallVI (pc := 3) (As := [pI a1, pI a2]) (st := []) (c := 64) (j := 0) hF (m_X7_pair  q1) w_X7_pair k_7_133 (by decide +kernel) rfl rfl rfl rfl rfl rfl rfl ?_
  refine zrun hF [(.istore_n 3, 1, pI 0), (.iload_n 3, 1, pI 0)] 6 _ (by decide +kernel) ?_
  refine (And.intro rfl ?_)
  show zG w f 4 8 ([some (pR 64 0), some (pI a1), some (pI a2), some (pI r2)], [pI r2], (n, m))
  refine zif_eq (tgt := 17) (pc := 8) hF (by decide +kernel) (fun b3 => ?_) (fun b3 => ?_)
  · replace h := zit b3 h
    refine zrun hF [(.aload_n 0, 1, pI 0), (.iload_n 1, 1, pI 0), (.iload_n 2, 1, pI 0)] 17 _ (by decide +kernel) ?_
    show zG w f 4 20 ([some (pR 64 0), some (pI a1), some (pI a2), some (pI r2)], [pI a2, pI a1, pR 64 0], (n, m))
    obtain ⟨m6, q4, h⟩ := zr_k h
    refine zcallVV (pc := 20) (As := [pI a1, pI a2]) (st := []) (c := 64) (j := 0) hF (m_X7_changes  q4) w_X7_changes k_7_259 (by decide +kernel) rfl rfl rfl rfl rfl rfl rfl ?_
    refine zrun hF [(.iconst 1, 1, pI 1)] 23 _ (by decide +kernel) ?_
    show zG w f 4 24 ([some (pR 64 0), some (pI a1), some (pI a2), some (pI r2)], [pI 1], (n, m6))
    exact zretI (pc := 24) hF hR (by decide +kernel) rfl (congrArg Prod.fst (Option.some.inj h)) (congrArg (fun (q : Int32 × zMem) => (n, q.2)) (Option.some.inj h))
  · replace h := zif b3 h
    refine zrun hF [(.aload_n 0, 1, pI 0), (.iload_n 3, 1, pI 0)] 11 _ (by decide +kernel) ?_
    show zG w f 4 13 ([some (pR 64 0), some (pI a1), some (pI a2), some (pI r2)], [pI r2, pR 64 0], (n, m))
    obtain ⟨r8, m9, q7, h⟩ := zb_k h
    refine zcallVI (pc := 13) (As := [pI r2]) (st := []) (c := 64) (j := 0) hF (m_X7_no  q7) w_X7_no k_7_100 (by decide +kernel) rfl rfl rfl rfl rfl rfl rfl ?_
    exact zretI (pc := 16) hF hR (by decide +kernel) rfl (congrArg Prod.fst (Option.some.inj h)) (congrArg (fun (q : Int32 × zMem) => (n, q.2)) (Option.some.inj h))

set_option maxHeartbeats 4000000 in
set_option maxRecDepth 100000 in
theorem m_X5_removeLast_L20 {w : zWd} {f : zFr} {n : zMem} {m0 : zMem} {lc : Launch} (hl : f.2.1 = lc) (hF : zFOK w f 5 cX5_removeLast 2 3) (hR : zFin w f none (zQV w (m0, n))) : ∀ (k : Nat) (x0 : Nat) (x1 : Int32) (m : zMem), Nat.blt x0 3 = true → s_X5_removeLast_L20 k x0 x1 m = some m0 → zG w f 2 20 ([some (pR 1 x0), some (pI x1)], [], (m, n)) := by
  intro k
  induction k with
  | zero => intro x0 x1 m hx0 h; exact zno h
  | succ k ih =>
    intro x0 x1 m hx0 h
    unfold s_X5_removeLast_L20 at h
    refine zrun hF [(.iload_n 1, 1, pI 0), (.aload_n 0, 1, pI 0), (.getfield 31, 3, pR 1 6)] 20 _ (by decide +kernel) ?_
    refine (And.intro rfl (And.intro hx0 ?_))
    show zG w f 2 25 ([some (pR 1 x0), some (pI x1)], [pI (m.1 1 x0 6), pI x1], (m, n))
    refine zicmp_ge (tgt := 60) (pc := 25) hF (by decide +kernel) (fun b3 => ?_) (fun b3 => ?_)
    · replace h := zit b3 h
      exact zretV (pc := 60) hF hR (by decide +kernel) (congrArg (fun q => (q, n)) (Option.some.inj h))
    · replace h := zif b3 h
      obtain ⟨c4, h⟩ := zchk h
      refine zrun hF [(.aload_n 0, 1, pI 0), (.getfield 21, 3, pR 1 3), (.iload_n 1, 1, pI 0), (.dup2, 1, pI 0), (.iaload, 1, pI 0), (.aload_n 0, 1, pI 0)] 28 _ (by decide +kernel) ?_
      refine (And.intro rfl (And.intro hx0 (And.intro rfl (And.intro rfl (And.intro hx0 (And.intro c4 ?_))))))
      show zG w f 2 36 ([some (pR 1 x0), some (pI x1)], [pR 1 x0, pI (m.1 5 x0 (ix x1)), pI x1, pR 5 x0], (m, n))
      obtain ⟨r6, q5, h⟩ := zr_k h
      refine zcallVI (pc := 36) (As := []) (st := [pI (m.1 5 x0 (ix x1)), pI x1, pR 5 x0]) (c := 1) (j := x0) hF (m_X5_guestBits hx0 q5) w_X5_guestBits k_5_59 (by decide +kernel) rfl hx0 rfl rfl rfl rfl rfl ?_
      refine zrun hF [(.iand, 1, pI 0), (.iastore, 1, pI 0)] 39 _ (by decide +kernel) ?_
      refine (And.intro rfl (And.intro hx0 (And.intro c4 ?_)))
      refine zlet_k (P := fun (m7 : zMem) => zG w f 2 41 ([some (pR 1 x0), some (pI x1)], [], (m7, n))) h (fun m7 h => ?_)
      refine zrun hF [(.aload_n 0, 1, pI 0), (.getfield 24, 3, pR 1 4), (.iload_n 1, 1, pI 0), (.dup2, 1, pI 0), (.iaload, 1, pI 0), (.aload_n 0, 1, pI 0)] 41 _ (by decide +kernel) ?_
      refine (And.intro rfl (And.intro hx0 (And.intro rfl (And.intro rfl (And.intro hx0 (And.intro c4 ?_))))))
      show zG w f 2 49 ([some (pR 1 x0), some (pI x1)], [pR 1 x0, pI (m7.1 6 x0 (ix x1)), pI x1, pR 6 x0], (m7, n))
      obtain ⟨r9, q8, h⟩ := zr_k h
      refine zcallVI (pc := 49) (As := []) (st := [pI (m7.1 6 x0 (ix x1)), pI x1, pR 6 x0]) (c := 1) (j := x0) hF (m_X5_guestBits hx0 q8) w_X5_guestBits k_5_59 (by decide +kernel) rfl hx0 rfl rfl rfl rfl rfl ?_
      refine zrun hF [(.iand, 1, pI 0), (.iastore, 1, pI 0)] 52 _ (by decide +kernel) ?_
      refine (And.intro rfl (And.intro hx0 (And.intro c4 ?_)))
      refine zlet_k (P := fun (m10 : zMem) => zG w f 2 54 ([some (pR 1 x0), some (pI x1)], [], (m10, n))) h (fun m10 h => ?_)
      refine zrun hF [(.iinc 1 1, 3, pI 1)] 54 _ (by decide +kernel) ?_
      refine (And.intro rfl ?_)
      show zG w f 2 57 ([some (pR 1 x0), some (pI (x1 + 1))], [], (m10, n))
      refine zgoto (tgt := 20) (pc := 57) hF (by decide +kernel) ?_
      exact ih _ _ _ hx0 h

set_option maxHeartbeats 4000000 in
set_option maxRecDepth 100000 in
theorem m_X5_removeLast {w : zWd} {lc : Launch} {n : zMem} {t : Nat} {m : zMem} {m0 : zMem} (ht : Nat.blt t 3 = true) (h : s_X5_removeLast t m = some m0) : zMet w lc 3 yX5_removeLast cX5_removeLast 2 none [pR 1 t] (m, n) (zQV w (m0, n)) := by
  refine zmet (o := 5) (by decide +kernel) rfl (Nat.le_of_ble_eq_true rfl) rfl (fun f hl hF hR => ?_)
  unfold s_X5_removeLast at h
  show zG w f 2 0 ([some (pR 1 t), none], [], (m, n))
  refine zrun hF [(.aload_n 0, 1, pI 0), (.getfield 31, 3, pR 1 6)] 0 _ (by decide +kernel) ?_
  refine (And.intro rfl (And.intro ht ?_))
  show zG w f 2 4 ([some (pR 1 t), none], [pI (m.1 1 t 6)], (m, n))
  refine zif_ne (tgt := 8) (pc := 4) hF (by decide +kernel) (fun b1 => ?_) (fun b1 => ?_)
  · replace h := zit b1 h
    exact zretV (pc := 7) hF hR (by decide +kernel) (congrArg (fun q => (q, n)) (Option.some.inj h))
  · replace h := zif b1 h
    refine zrun hF [(.aload_n 0, 1, pI 0), (.dup, 1, pI 0), (.getfield 31, 3, pR 1 6), (.iconst 1, 1, pI 1), (.isub, 1, pI 0), (.putfield 31, 3, pR 1 6)] 8 _ (by decide +kernel) ?_
    refine (And.intro rfl (And.intro rfl (And.intro ht (And.intro rfl (And.intro ht (And.intro trivial ?_))))))
    refine zlet_k (P := fun (m2 : zMem) => zG w f 2 18 ([some (pR 1 t), none], [], (m2, n))) h (fun m2 h => ?_)
    refine zrun hF [(.iconst 0, 1, pI 0), (.istore_n 1, 1, pI 0)] 18 _ (by decide +kernel) ?_
    refine (And.intro rfl ?_)
    show zG w f 2 20 ([some (pR 1 t), some (pI 0)], [], (m2, n))
    exact m_X5_removeLast_L20 hl hF hR  zF _ _ _ ht h

set_option maxHeartbeats 4000000 in
set_option maxRecDepth 100000 in
theorem m_X6_emptyShelvesOfGone_L49 {w : zWd} {f : zFr} {n : zMem} {m0 : zMem} {lc : Launch} (hl : f.2.1 = lc) (hF : zFOK w f 6 cX6_emptyShelvesOfGone 2 2) (hR : zFin w f none (zQV w (m0, n))) {k2 : Int32 → zMem → Option zMem} (hk2 : ∀ (x1 : Int32) (m : zMem), k2 x1 m = some m0 → zG w f 2 2 ([some (pR 0 0), some (pI x1)], [], (m, n))) : ∀ (x1 : Int32) (m : zMem), s_X6_emptyShelvesOfGone_L49 k2 x1 m = some m0 → zG w f 2 49 ([some (pR 0 0), some (pI x1)], [], (m, n)) := by
  intro x1 m h
  unfold s_X6_emptyShelvesOfGone_L49 at h
  refine zrun hF [(.iinc 1 1, 3, pI 1)] 49 _ (by decide +kernel) ?_
  refine (And.intro rfl ?_)
  show zG w f 2 52 ([some (pR 0 0), some (pI (x1 + 1))], [], (m, n))
  refine zgoto (tgt := 2) (pc := 52) hF (by decide +kernel) ?_
  exact hk2 _ _  h

set_option maxHeartbeats 4000000 in
set_option maxRecDepth 100000 in
theorem m_X6_emptyShelvesOfGone_L2 {w : zWd} {f : zFr} {n : zMem} {m0 : zMem} {lc : Launch} (hl : f.2.1 = lc) (hF : zFOK w f 6 cX6_emptyShelvesOfGone 2 2) (hR : zFin w f none (zQV w (m0, n))) : ∀ (k : Nat) (x1 : Int32) (m : zMem), s_X6_emptyShelvesOfGone_L2 k x1 m = some m0 → zG w f 2 2 ([some (pR 0 0), some (pI x1)], [], (m, n)) := by
  intro k
  induction k with
  | zero => intro x1 m h; exact zno h
  | succ k ih =>
    intro x1 m h
    unfold s_X6_emptyShelvesOfGone_L2 at h
    refine zrun hF [(.iload_n 1, 1, pI 0), (.bipush 8, 2, pI 8)] 2 _ (by decide +kernel) ?_
    show zG w f 2 5 ([some (pR 0 0), some (pI x1)], [pI 8, pI x1], (m, n))
    refine zicmp_ge (tgt := 55) (pc := 5) hF (by decide +kernel) (fun b1 => ?_) (fun b1 => ?_)
    · replace h := zit b1 h
      exact zretV (pc := 55) hF hR (by decide +kernel) (congrArg (fun q => (q, n)) (Option.some.inj h))
    · replace h := zif b1 h
      obtain ⟨c2, h⟩ := zchk h
      refine zrun hF [(.aload_n 0, 1, pI 0), (.getfield 28, 3, pR 0 4), (.iload_n 1, 1, pI 0), (.aaload, 1, pI 0)] 8 _ (by decide +kernel) ?_
      refine (And.intro rfl (And.intro rfl (And.intro rfl (And.intro c2 ?_))))
      show zG w f 2 14 ([some (pR 0 0), some (pI x1)], [pR 8 (ix x1)], (m, n))
      obtain ⟨r4, q3, h⟩ := zr_k h
      refine zcallVI (pc := 14) (As := []) (st := []) (c := 8) (j := (ix x1)) hF (m_X4_holdsGuest (zinb_blt c2) q3) w_X4_holdsGuest k_6_91 (by decide +kernel) rfl (zinb_blt c2) rfl rfl rfl rfl rfl ?_
      refine zif_eq (tgt := 49) (pc := 17) hF (by decide +kernel) (fun b5 => ?_) (fun b5 => ?_)
      · replace h := zit b5 h
        exact m_X6_emptyShelvesOfGone_L49 hl hF hR ih _ _  h
      · replace h := zif b5 h
        refine zrun hF [(.aload_n 0, 1, pI 0), (.getfield 10, 3, pR 0 0), (.aload_n 0, 1, pI 0), (.getfield 28, 3, pR 0 4), (.iload_n 1, 1, pI 0), (.aaload, 1, pI 0), (.getfield 98, 3, pR 8 1)] 20 _ (by decide +kernel) ?_
        refine (And.intro rfl (And.intro rfl (And.intro rfl (And.intro rfl (And.intro rfl (And.intro c2 (And.intro rfl (And.intro (zinb_blt c2) ?_))))))))
        show zG w f 2 33 ([some (pR 0 0), some (pI x1)], [pI (m.1 8 (ix x1) 1), pR 1 0], (m, n))
        obtain ⟨r7, q6, h⟩ := zr_k h
        refine zcallVI (pc := 33) (As := [pI (m.1 8 (ix x1) 1)]) (st := []) (c := 1) (j := 0) hF (m_X5_exists rfl q6) w_X5_exists k_6_119 (by decide +kernel) rfl rfl rfl rfl rfl rfl rfl ?_
        refine zif_ne (tgt := 49) (pc := 36) hF (by decide +kernel) (fun b8 => ?_) (fun b8 => ?_)
        · replace h := zit b8 h
          refine zrun hF [(.aload_n 0, 1, pI 0), (.getfield 28, 3, pR 0 4), (.iload_n 1, 1, pI 0), (.aaload, 1, pI 0), (.iconst (-1), 1, pI (-1))] 39 _ (by decide +kernel) ?_
          refine (And.intro rfl (And.intro rfl (And.intro rfl (And.intro c2 ?_))))
          show zG w f 2 46 ([some (pR 0 0), some (pI x1)], [pI (-1), pR 8 (ix x1)], (m, n))
          obtain ⟨m11, q9, h⟩ := zr_k h
          refine zcallVV (pc := 46) (As := [pI (-1)]) (st := []) (c := 8) (j := (ix x1)) hF (m_X4_hold (zinb_blt c2) q9) w_X4_hold k_6_115 (by decide +kernel) rfl (zinb_blt c2) rfl rfl rfl rfl rfl ?_
          exact m_X6_emptyShelvesOfGone_L49 hl hF hR ih _ _  h
        · replace h := zif b8 h
          exact m_X6_emptyShelvesOfGone_L49 hl hF hR ih _ _  h

set_option maxHeartbeats 4000000 in
set_option maxRecDepth 100000 in
theorem m_X6_emptyShelvesOfGone {w : zWd} {lc : Launch} {n : zMem}  {m : zMem} {m0 : zMem}  (h : s_X6_emptyShelvesOfGone m = some m0) : zMet w lc 2 yX6_emptyShelvesOfGone cX6_emptyShelvesOfGone 2 none [pR 0 0] (m, n) (zQV w (m0, n)) := by
  refine zmet (o := 6) (by decide +kernel) rfl (Nat.le_of_ble_eq_true rfl) rfl (fun f hl hF hR => ?_)
  unfold s_X6_emptyShelvesOfGone at h
  show zG w f 2 0 ([some (pR 0 0), none], [], (m, n))
  refine zrun hF [(.iconst 0, 1, pI 0), (.istore_n 1, 1, pI 0)] 0 _ (by decide +kernel) ?_
  refine (And.intro rfl ?_)
  show zG w f 2 2 ([some (pR 0 0), some (pI 0)], [], (m, n))
  exact m_X6_emptyShelvesOfGone_L2 hl hF hR  zF _ _  h

set_option maxHeartbeats 4000000 in
set_option maxRecDepth 100000 in
theorem m_X6_leaves {w : zWd} {lc : Launch} {n : zMem}  {m : zMem} {x : Int32} {m0 : zMem}  (h : s_X6_leaves m = some (x, m0)) : zMet w lc 4 yX6_leaves cX6_leaves 1 (some .int) [pR 0 0] (m, n) (zQI w x (m0, n)) := by
  refine zmet (o := 6) (by decide +kernel) rfl (Nat.le_of_ble_eq_true rfl) rfl (fun f hl hF hR => ?_)
  unfold s_X6_leaves at h
  show zG w f 1 0 ([some (pR 0 0)], [], (m, n))
  refine zrun hF [(.aload_n 0, 1, pI 0), (.getfield 10, 3, pR 0 0), (.getfield 132, 3, pR 1 6)] 0 _ (by decide +kernel) ?_
  refine (And.intro rfl (And.intro rfl (And.intro rfl (And.intro rfl ?_))))
  show zG w f 1 7 ([some (pR 0 0)], [pI (m.1 1 0 6)], (m, n))
  refine zif_ne (tgt := 17) (pc := 7) hF (by decide +kernel) (fun b1 => ?_) (fun b1 => ?_)
  · replace h := zit b1 h
    refine zrun hF [(.aload_n 0, 1, pI 0), (.bipush (-6), 2, pI (-6))] 10 _ (by decide +kernel) ?_
    show zG w f 1 13 ([some (pR 0 0)], [pI (-6), pR 0 0], (m, n))
    obtain ⟨r3, m4, q2, h⟩ := zb_k h
    refine zcallVI (pc := 13) (As := [pI (-6)]) (st := []) (c := 0) (j := 0) hF (m_X6_refuse  q2) w_X6_refuse k_6_73 (by decide +kernel) rfl rfl rfl rfl rfl rfl rfl ?_
    exact zretI (pc := 16) hF hR (by decide +kernel) rfl (congrArg Prod.fst (Option.some.inj h)) (congrArg (fun (q : Int32 × zMem) => (q.2, n)) (Option.some.inj h))
  · replace h := zif b1 h
    refine zrun hF [(.aload_n 0, 1, pI 0), (.getfield 10, 3, pR 0 0)] 17 _ (by decide +kernel) ?_
    refine (And.intro rfl (And.intro rfl ?_))
    show zG w f 1 21 ([some (pR 0 0)], [pR 1 0], (m, n))
    obtain ⟨m7, q5, h⟩ := zr_k h
    refine zcallVV (pc := 21) (As := []) (st := []) (c := 1) (j := 0) hF (m_X5_removeLast rfl q5) w_X5_removeLast k_6_326 (by decide +kernel) rfl rfl rfl rfl rfl rfl rfl ?_
    refine zrun hF [(.aload_n 0, 1, pI 0)] 24 _ (by decide +kernel) ?_
    show zG w f 1 25 ([some (pR 0 0)], [pR 0 0], (m7, n))
    obtain ⟨m10, q8, h⟩ := zr_k h
    refine zcallVV (pc := 25) (As := []) (st := []) (c := 0) (j := 0) hF (m_X6_emptyShelvesOfGone  q8) w_X6_emptyShelvesOfGone k_6_329 (by decide +kernel) rfl rfl rfl rfl rfl rfl rfl ?_
    refine zrun hF [(.aload_n 0, 1, pI 0), (.getfield 10, 3, pR 0 0), (.getfield 132, 3, pR 1 6)] 28 _ (by decide +kernel) ?_
    refine (And.intro rfl (And.intro rfl (And.intro rfl (And.intro rfl ?_))))
    show zG w f 1 35 ([some (pR 0 0)], [pI (m10.1 1 0 6)], (m10, n))
    exact zretI (pc := 35) hF hR (by decide +kernel) rfl (congrArg Prod.fst (Option.some.inj h)) (congrArg (fun (q : Int32 × zMem) => (q.2, n)) (Option.some.inj h))

set_option maxHeartbeats 4000000 in
set_option maxRecDepth 100000 in
theorem m_X7_shelvesFall_L38 {w : zWd} {f : zFr} {n : zMem} {m0 : zMem} {lc : Launch} (hl : f.2.1 = lc) (hF : zFOK w f 7 cX7_shelvesFall 2 1) (hR : zFin w f none (zQV w (n, m0))) {k2 : Int32 → zMem → Option zMem} (hk2 : ∀ (x1 : Int32) (m : zMem), k2 x1 m = some m0 → zG w f 2 2 ([some (pR 64 0), some (pI x1)], [], (n, m))) : ∀ (x1 : Int32) (m : zMem), s_X7_shelvesFall_L38 k2 x1 m = some m0 → zG w f 2 38 ([some (pR 64 0), some (pI x1)], [], (n, m)) := by
  intro x1 m h
  unfold s_X7_shelvesFall_L38 at h
  refine zrun hF [(.iinc 1 1, 3, pI 1)] 38 _ (by decide +kernel) ?_
  refine (And.intro rfl ?_)
  show zG w f 2 41 ([some (pR 64 0), some (pI (x1 + 1))], [], (n, m))
  refine zgoto (tgt := 2) (pc := 41) hF (by decide +kernel) ?_
  exact hk2 _ _  h

set_option maxHeartbeats 4000000 in
set_option maxRecDepth 100000 in
theorem m_X7_shelvesFall_L2 {w : zWd} {f : zFr} {n : zMem} {m0 : zMem} {lc : Launch} (hl : f.2.1 = lc) (hF : zFOK w f 7 cX7_shelvesFall 2 1) (hR : zFin w f none (zQV w (n, m0))) : ∀ (k : Nat) (x1 : Int32) (m : zMem), s_X7_shelvesFall_L2 k x1 m = some m0 → zG w f 2 2 ([some (pR 64 0), some (pI x1)], [], (n, m)) := by
  intro k
  induction k with
  | zero => intro x1 m h; exact zno h
  | succ k ih =>
    intro x1 m h
    unfold s_X7_shelvesFall_L2 at h
    refine zrun hF [(.iload_n 1, 1, pI 0), (.bipush 8, 2, pI 8)] 2 _ (by decide +kernel) ?_
    show zG w f 2 5 ([some (pR 64 0), some (pI x1)], [pI 8, pI x1], (n, m))
    refine zicmp_ge (tgt := 44) (pc := 5) hF (by decide +kernel) (fun b1 => ?_) (fun b1 => ?_)
    · replace h := zit b1 h
      exact zretV (pc := 44) hF hR (by decide +kernel) (congrArg (fun q => (n, q)) (Option.some.inj h))
    · replace h := zif b1 h
      obtain ⟨c2, h⟩ := zchk h
      refine zrun hF [(.aload_n 0, 1, pI 0), (.getfield 38, 3, pR 64 13), (.iload_n 1, 1, pI 0), (.iaload, 1, pI 0), (.iconst 2, 1, pI 2)] 8 _ (by decide +kernel) ?_
      refine (And.intro rfl (And.intro rfl (And.intro rfl (And.intro rfl (And.intro c2 ?_)))))
      show zG w f 2 15 ([some (pR 64 0), some (pI x1)], [pI 2, pI (m.1 71 0 (ix x1))], (n, m))
      refine zicmp_ne (tgt := 38) (pc := 15) hF (by decide +kernel) (fun b3 => ?_) (fun b3 => ?_)
      · replace h := zit b3 h
        refine zrun hF [(.aload_n 0, 1, pI 0), (.getfield 47, 3, pR 64 16), (.iload_n 1, 1, pI 0), (.iaload, 1, pI 0), (.aload_n 0, 1, pI 0), (.getfield 93, 3, pR 64 0)] 18 _ (by decide +kernel) ?_
        refine (And.intro rfl (And.intro rfl (And.intro rfl (And.intro rfl (And.intro c2 (And.intro rfl (And.intro rfl ?_)))))))
        show zG w f 2 28 ([some (pR 64 0), some (pI x1)], [pI (m.1 64 0 0), pI (m.1 74 0 (ix x1))], (n, m))
        refine zicmp_lt (tgt := 38) (pc := 28) hF (by decide +kernel) (fun b4 => ?_) (fun b4 => ?_)
        · replace h := zit b4 h
          exact m_X7_shelvesFall_L38 hl hF hR ih _ _  h
        · replace h := zif b4 h
          refine zrun hF [(.aload_n 0, 1, pI 0), (.getfield 38, 3, pR 64 13), (.iload_n 1, 1, pI 0), (.iconst 0, 1, pI 0), (.iastore, 1, pI 0)] 31 _ (by decide +kernel) ?_
          refine (And.intro rfl (And.intro rfl (And.intro rfl (And.intro rfl (And.intro c2 ?_)))))
          refine zlet_k (P := fun (m5 : zMem) => zG w f 2 38 ([some (pR 64 0), some (pI x1)], [], (n, m5))) h (fun m5 h => ?_)
          exact m_X7_shelvesFall_L38 hl hF hR ih _ _  h
      · replace h := zif b3 h
        exact m_X7_shelvesFall_L38 hl hF hR ih _ _  h

set_option maxHeartbeats 4000000 in
set_option maxRecDepth 100000 in
theorem m_X7_shelvesFall {w : zWd} {lc : Launch} {n : zMem}  {m : zMem} {m0 : zMem}  (h : s_X7_shelvesFall m = some m0) : zMet w lc 1 yX7_shelvesFall cX7_shelvesFall 2 none [pR 64 0] (n, m) (zQV w (n, m0)) := by
  refine zmet (o := 7) (by decide +kernel) rfl (Nat.le_of_ble_eq_true rfl) rfl (fun f hl hF hR => ?_)
  unfold s_X7_shelvesFall at h
  show zG w f 2 0 ([some (pR 64 0), none], [], (n, m))
  refine zrun hF [(.iconst 0, 1, pI 0), (.istore_n 1, 1, pI 0)] 0 _ (by decide +kernel) ?_
  refine (And.intro rfl ?_)
  show zG w f 2 2 ([some (pR 64 0), some (pI 0)], [], (n, m))
  exact m_X7_shelvesFall_L2 hl hF hR  zF _ _  h

