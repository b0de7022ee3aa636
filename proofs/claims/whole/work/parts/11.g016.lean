set_option maxHeartbeats 4000000 in
set_option maxRecDepth 100000 in
theorem m_X7_mostOf {w : zWd} {lc : Launch} {n : zMem}  {m : zMem} {x : Int32} {m0 : zMem}  (h : s_X7_mostOf m = some (x, m0)) : zMet w lc 25 yX7_mostOf cX7_mostOf 1 (some .int) [pR 64 0] (n, m) (zQI w x (n, m0)) := by
  refine zmet (o := 7) (by decide +kernel) rfl (Nat.le_of_ble_eq_true rfl) rfl (fun f hl hF hR => ?_)
  unfold s_X7_mostOf at h
  show zG w f 1 0 ([some (pR 64 0)], [], (n, m))
  refine zrun hF [(.aload_n 0, 1, pI 0)] 0 _ (by decide +kernel) ?_
  show zG w f 1 1 ([some (pR 64 0)], [pR 64 0], (n, m))
  obtain ⟨r2, m3, q1, h⟩ := zb_k h
  refine zcallVI (pc := 1) (As := []) (st := []) (c := 64) (j := 0) hF (m_X7_lists  q1) w_X7_lists k_7_225 (by decide +kernel) rfl rfl rfl rfl rfl rfl rfl ?_
  refine zrun hF [(.pop, 1, pI 0), (.aload_n 0, 1, pI 0), (.iconst 0, 1, pI 0), (.putfield 231, 3, pR 64 33)] 4 _ (by decide +kernel) ?_
  refine (And.intro rfl (And.intro rfl (And.intro rfl (And.intro trivial ?_))))
  refine zlet_k (P := fun (m4 : zMem) => zG w f 1 10 ([some (pR 64 0)], [], (n, m4))) h (fun m4 h => ?_)
  refine zrun hF [(.aload_n 0, 1, pI 0), (.iconst 0, 1, pI 0), (.putfield 234, 3, pR 64 34)] 10 _ (by decide +kernel) ?_
  refine (And.intro rfl (And.intro rfl (And.intro trivial ?_)))
  refine zlet_k (P := fun (m5 : zMem) => zG w f 1 15 ([some (pR 64 0)], [], (n, m5))) h (fun m5 h => ?_)
  refine zrun hF [(.aload_n 0, 1, pI 0), (.iconst 0, 1, pI 0), (.iconst 0, 1, pI 0)] 15 _ (by decide +kernel) ?_
  show zG w f 1 18 ([some (pR 64 0)], [pI 0, pI 0, pR 64 0], (n, m5))
  obtain ⟨m8, q6, h⟩ := zr_k h
  refine zcallVV (pc := 18) (As := [pI 0, pI 0]) (st := []) (c := 64) (j := 0) hF (m_X7_chooses zF0 _ _ _  _ q6) w_X7_chooses k_7_240 (by decide +kernel) rfl rfl rfl rfl rfl rfl rfl ?_
  refine zrun hF [(.aload_n 0, 1, pI 0), (.getfield 231, 3, pR 64 33)] 21 _ (by decide +kernel) ?_
  refine (And.intro rfl (And.intro rfl ?_))
  show zG w f 1 25 ([some (pR 64 0)], [pI (m8.1 64 0 33)], (n, m8))
  exact zretI (pc := 25) hF hR (by decide +kernel) rfl (congrArg Prod.fst (Option.some.inj h)) (congrArg (fun (q : Int32 × zMem) => (n, q.2)) (Option.some.inj h))

set_option maxHeartbeats 4000000 in
set_option maxRecDepth 100000 in
theorem m_X7_most_L34 {w : zWd} {f : zFr} {n : zMem} {x : Int32} {m0 : zMem} {lc : Launch} (hl : f.2.1 = lc) (hF : zFOK w f 7 cX7_most 3 26) (hR : zFin w f (some .int) (zQI w x (n, m0))) : ∀ (m : zMem), s_X7_most_L34 m = some (x, m0) → zG w f 3 34 ([some (pR 64 0), none, none], [], (n, m)) := by
  intro m h
  unfold s_X7_most_L34 at h
  refine zrun hF [(.aload_n 0, 1, pI 0), (.bipush (-5), 2, pI (-5))] 34 _ (by decide +kernel) ?_
  show zG w f 3 37 ([some (pR 64 0), none, none], [pI (-5), pR 64 0], (n, m))
  obtain ⟨r11, m12, q10, h⟩ := zb_k h
  refine zcallVI (pc := 37) (As := [pI (-5)]) (st := []) (c := 64) (j := 0) hF (m_X7_no  q10) w_X7_no k_7_100 (by decide +kernel) rfl rfl rfl rfl rfl rfl rfl ?_
  exact zretI (pc := 40) hF hR (by decide +kernel) rfl (congrArg Prod.fst (Option.some.inj h)) (congrArg (fun (q : Int32 × zMem) => (n, q.2)) (Option.some.inj h))

set_option maxHeartbeats 4000000 in
set_option maxRecDepth 100000 in
theorem m_X7_most {w : zWd} {lc : Launch} {n : zMem} {a1 : Int32} {m : zMem} {x : Int32} {m0 : zMem}  (h : s_X7_most a1 m = some (x, m0)) : zMet w lc 26 yX7_most cX7_most 3 (some .int) [pR 64 0, pI a1] (n, m) (zQI w x (n, m0)) := by
  refine zmet (o := 7) (by decide +kernel) rfl (Nat.le_of_ble_eq_true rfl) rfl (fun f hl hF hR => ?_)
  unfold s_X7_most at h
  show zG w f 3 0 ([some (pR 64 0), some (pI a1), none], [], (n, m))
  refine zrun hF [(.aload_n 0, 1, pI 0)] 0 _ (by decide +kernel) ?_
  show zG w f 3 1 ([some (pR 64 0), some (pI a1), none], [pR 64 0], (n, m))
  obtain ⟨r2, m3, q1, h⟩ := zb_k h
  refine zcallVI (pc := 1) (As := []) (st := []) (c := 64) (j := 0) hF (m_X7_mostOf  q1) w_X7_mostOf k_7_244 (by decide +kernel) rfl rfl rfl rfl rfl rfl rfl ?_
  refine zrun hF [(.istore_n 2, 1, pI 0), (.iload_n 1, 1, pI 0), (.iconst (-1), 1, pI (-1))] 4 _ (by decide +kernel) ?_
  refine (And.intro rfl ?_)
  show zG w f 3 7 ([some (pR 64 0), some (pI a1), some (pI r2)], [pI (-1), pI a1], (n, m3))
  refine zicmp_ne (tgt := 12) (pc := 7) hF (by decide +kernel) (fun b4 => ?_) (fun b4 => ?_)
  · replace h := zit b4 h
    refine zrun hF [(.iload_n 2, 1, pI 0)] 10 _ (by decide +kernel) ?_
    show zG w f 3 11 ([some (pR 64 0), some (pI a1), some (pI r2)], [pI r2], (n, m3))
    exact zretI (pc := 11) hF hR (by decide +kernel) rfl (congrArg Prod.fst (Option.some.inj h)) (congrArg (fun (q : Int32 × zMem) => (n, q.2)) (Option.some.inj h))
  · replace h := zif b4 h
    refine zrun hF [(.iload_n 1, 1, pI 0)] 12 _ (by decide +kernel) ?_
    show zG w f 3 13 ([some (pR 64 0), some (pI a1), some (pI r2)], [pI a1], (n, m3))
    refine zif_lt (tgt := 34) (pc := 13) hF (by decide +kernel) (fun b5 => ?_) (fun b5 => ?_)
    · replace h := zit b5 h
      refine zcut [true, false, false] ?_
      exact m_X7_most_L34 hl hF hR  _  h
    · replace h := zif b5 h
      refine zrun hF [(.iload_n 1, 1, pI 0), (.iload_n 2, 1, pI 0)] 16 _ (by decide +kernel) ?_
      show zG w f 3 18 ([some (pR 64 0), some (pI a1), some (pI r2)], [pI r2, pI a1], (n, m3))
      refine zicmp_ge (tgt := 34) (pc := 18) hF (by decide +kernel) (fun b6 => ?_) (fun b6 => ?_)
      · replace h := zit b6 h
        refine zcut [true, false, false] ?_
        exact m_X7_most_L34 hl hF hR  _  h
      · replace h := zif b6 h
        obtain ⟨c7, h⟩ := zchk h
        refine zrun hF [(.aload_n 0, 1, pI 0), (.aload_n 0, 1, pI 0), (.getfield 78, 3, pR 64 32), (.iload_n 1, 1, pI 0), (.iaload, 1, pI 0)] 21 _ (by decide +kernel) ?_
        refine (And.intro rfl (And.intro rfl (And.intro rfl (And.intro rfl (And.intro c7 ?_)))))
        show zG w f 3 28 ([some (pR 64 0), some (pI a1), some (pI r2)], [pI (m3.1 84 0 (ix a1)), pR 64 0], (n, m3))
        obtain ⟨r9, q8, h⟩ := zr_k h
        refine zcallVI (pc := 28) (As := [pI (m3.1 84 0 (ix a1))]) (st := []) (c := 64) (j := 0) hF (m_X7_codeOf  q8) w_X7_codeOf k_7_228 (by decide +kernel) rfl rfl rfl rfl rfl rfl rfl ?_
        refine zgoto (tgt := 40) (pc := 31) hF (by decide +kernel) ?_
        exact zretI (pc := 40) hF hR (by decide +kernel) rfl (congrArg Prod.fst (Option.some.inj h)) (congrArg (fun (q : Int32 × zMem) => (n, q.2)) (Option.some.inj h))

set_option maxHeartbeats 4000000 in
set_option maxRecDepth 100000 in
theorem m_X2_countSets_L103 {w : zWd} {f : zFr} {n : zMem} {x : Int32} {lc : Launch} {mr : zMem} {kd : Nat} (hl : f.2.1 = lc) (hF : zFOK w f 2 cX2_countSets 8 (kd + 3)) (hR : zFin w f (some .int) (zQI w x (mr, n))) {slf : Int32 → Int64 → Int32 → Int32 → zMem → Option Int32} (hslf : ∀ (a2 : Int32) (a3 : Int64) (a4 : Int32) (a5 : Int32) (m : zMem) (x : Int32), slf a2 a3 a4 a5 m = some x → zMet w lc (kd + 3 - 1) yX2_countSets cX2_countSets 8 (some .int) [pR 10 0, pI a2, pL a3, pI a4, pI a5] (m, n) (zQI w x (m, n))) {k23 : Int64 → Int32 → Int32 → Int32 → Int32 → zMem → Option Int32} (hk23 : ∀ (x2 : Int64) (x4 : Int32) (x5 : Int32) (x6 : Int32) (x7 : Int32) (m : zMem), m = mr → k23 x2 x4 x5 x6 x7 m = some x → zG w f 8 23 ([some (pR 10 0), none, some (pL x2), none, some (pI x4), some (pI x5), some (pI x6), some (pI x7)], [], (m, n))) : ∀ (x2 : Int64) (x4 : Int32) (x5 : Int32) (x6 : Int32) (x7 : Int32) (m : zMem), m = mr → s_X2_countSets_L103 slf k23 x2 x4 x5 x6 x7 m = some x → zG w f 8 103 ([some (pR 10 0), none, some (pL x2), none, some (pI x4), some (pI x5), some (pI x6), some (pI x7)], [], (m, n)) := by
  subst hl
  intro x2 x4 x5 x6 x7 m hm h
  unfold s_X2_countSets_L103 at h
  refine zrun hF [(.iinc 7 1, 3, pI 1)] 103 _ (by decide +kernel) ?_
  refine (And.intro rfl ?_)
  show zG w f 8 106 ([some (pR 10 0), none, some (pL x2), none, some (pI x4), some (pI x5), some (pI x6), some (pI (x7 + 1))], [], (m, n))
  refine zgoto (tgt := 23) (pc := 106) hF (by decide +kernel) ?_
  exact hk23 _ _ _ _ _ _  hm h

set_option maxHeartbeats 4000000 in
set_option maxRecDepth 100000 in
theorem m_X2_countSets_L23 {w : zWd} {f : zFr} {n : zMem} {x : Int32} {lc : Launch} {mr : zMem} {kd : Nat} (hl : f.2.1 = lc) (hF : zFOK w f 2 cX2_countSets 8 (kd + 3)) (hR : zFin w f (some .int) (zQI w x (mr, n))) {slf : Int32 → Int64 → Int32 → Int32 → zMem → Option Int32} (hslf : ∀ (a2 : Int32) (a3 : Int64) (a4 : Int32) (a5 : Int32) (m : zMem) (x : Int32), slf a2 a3 a4 a5 m = some x → zMet w lc (kd + 3 - 1) yX2_countSets cX2_countSets 8 (some .int) [pR 10 0, pI a2, pL a3, pI a4, pI a5] (m, n) (zQI w x (m, n))) : ∀ (k : Nat) (x2 : Int64) (x4 : Int32) (x5 : Int32) (x6 : Int32) (x7 : Int32) (m : zMem), m = mr → s_X2_countSets_L23 slf k x2 x4 x5 x6 x7 m = some x → zG w f 8 23 ([some (pR 10 0), none, some (pL x2), none, some (pI x4), some (pI x5), some (pI x6), some (pI x7)], [], (m, n)) := by
  subst hl
  intro k
  induction k with
  | zero => intro x2 x4 x5 x6 x7 m hm h; exact zno h
  | succ k ih =>
    intro x2 x4 x5 x6 x7 m hm h
    unfold s_X2_countSets_L23 at h
    refine zrun hF [(.iload 7, 2, pI 0), (.aload_n 0, 1, pI 0), (.getfield 34, 3, pR 10 7)] 23 _ (by decide +kernel) ?_
    refine (And.intro rfl (And.intro rfl ?_))
    show zG w f 8 29 ([some (pR 10 0), none, some (pL x2), none, some (pI x4), some (pI x5), some (pI x6), some (pI x7)], [pI (m.1 10 0 7), pI x7], (m, n))
    refine zicmp_ge (tgt := 109) (pc := 29) hF (by decide +kernel) (fun b3 => ?_) (fun b3 => ?_)
    · replace h := zit b3 h
      refine zrun hF [(.iload 6, 2, pI 0)] 109 _ (by decide +kernel) ?_
      show zG w f 8 111 ([some (pR 10 0), none, some (pL x2), none, some (pI x4), some (pI x5), some (pI x6), some (pI x7)], [pI x6], (m, n))
      exact zretI (pc := 111) hF hR (by decide +kernel) rfl (Option.some.inj h) (congrArg (fun q => (q, n)) hm)
    · replace h := zif b3 h
      refine zrun hF [(.lload_n 2, 1, pI 0), (.iload 7, 2, pI 0)] 32 _ (by decide +kernel) ?_
      show zG w f 8 35 ([some (pR 10 0), none, some (pL x2), none, some (pI x4), some (pI x5), some (pI x6), some (pI x7)], [pI x7, pL x2], (m, n))
      obtain ⟨r5, q4, h⟩ := zr_k h
      refine zcallSI (pc := 35) (As := [pL x2, pI x7]) (st := []) hF (m_X2_isIn  q4) w_X2_isIn k_2_78 (by decide +kernel) rfl rfl rfl (Nat.blt_eq.mpr (by omega)) ?_
      refine zif_eq (tgt := 103) (pc := 38) hF (by decide +kernel) (fun b6 => ?_) (fun b6 => ?_)
      · replace h := zit b6 h
        exact m_X2_countSets_L103 rfl hF hR hslf ih _ _ _ _ _ _  hm h
      · replace h := zif b6 h
        refine zrun hF [(.iload 5, 2, pI 0), (.aload_n 0, 1, pI 0), (.iload 7, 2, pI 0), (.iload 4, 2, pI 0)] 41 _ (by decide +kernel) ?_
        show zG w f 8 48 ([some (pR 10 0), none, some (pL x2), none, some (pI x4), some (pI x5), some (pI x6), some (pI x7)], [pI x4, pI x7, pR 10 0, pI x5], (m, n))
        obtain ⟨r8, q7, h⟩ := zr_k h
        refine zcallVI (pc := 48) (As := [pI x7, pI x4]) (st := [pI x5]) (c := 10) (j := 0) hF (m_X2_roomFrom  q7) w_X2_roomFrom k_2_93 (by decide +kernel) rfl rfl rfl rfl rfl rfl (Nat.blt_eq.mpr (by omega)) ?_
        refine zrun hF [(.iadd, 1, pI 0), (.aload_n 0, 1, pI 0), (.getfield 38, 3, pR 10 8)] 51 _ (by decide +kernel) ?_
        refine (And.intro rfl (And.intro rfl ?_))
        show zG w f 8 56 ([some (pR 10 0), none, some (pL x2), none, some (pI x4), some (pI x5), some (pI x6), some (pI x7)], [pI (m.1 10 0 8), pI (x5 + r8)], (m, n))
        refine zicmp_ge (tgt := 62) (pc := 56) hF (by decide +kernel) (fun b9 => ?_) (fun b9 => ?_)
        · replace h := zit b9 h
          obtain ⟨c10, h⟩ := zchk h
          refine zrun hF [(.iload 6, 2, pI 0), (.aload_n 0, 1, pI 0), (.iload 7, 2, pI 0), (.iconst 1, 1, pI 1), (.iadd, 1, pI 0), (.lload_n 2, 1, pI 0), (.aload_n 0, 1, pI 0), (.getfield 25, 3, pR 10 4), (.iload 7, 2, pI 0), (.laload, 1, pI 0), (.ldc2_w 96, 3, pL (-1)), (.lxor, 1, pI 0), (.land, 1, pI 0), (.iload 4, 2, pI 0), (.aload_n 0, 1, pI 0), (.iload 7, 2, pI 0)] 62 _ (by decide +kernel) ?_
          refine (And.intro rfl (And.intro rfl (And.intro rfl (And.intro rfl (And.intro c10 ?_)))))
          show zG w f 8 87 ([some (pR 10 0), none, some (pL x2), none, some (pI x4), some (pI x5), some (pI x6), some (pI x7)], [pI x7, pR 10 0, pI x4, pL (x2 &&& ((m.2 15 0 (ix x7)) ^^^ (-1))), pI (x7 + 1), pR 10 0, pI x6], (m, n))
          obtain ⟨r12, q11, h⟩ := zr_k h
          refine zcallVI (pc := 87) (As := [pI x7]) (st := [pI x4, pL (x2 &&& ((m.2 15 0 (ix x7)) ^^^ (-1))), pI (x7 + 1), pR 10 0, pI x6]) (c := 10) (j := 0) hF (m_X2_guestsOf  q11) w_X2_guestsOf k_2_60 (by decide +kernel) rfl rfl rfl rfl rfl rfl (Nat.blt_eq.mpr (by omega)) ?_
          refine zrun hF [(.iconst (-1), 1, pI (-1)), (.ixor, 1, pI 0), (.iand, 1, pI 0), (.iload 5, 2, pI 0), (.iconst 1, 1, pI 1), (.iadd, 1, pI 0)] 90 _ (by decide +kernel) ?_
          show zG w f 8 97 ([some (pR 10 0), none, some (pL x2), none, some (pI x4), some (pI x5), some (pI x6), some (pI x7)], [pI (x5 + 1), pI (x4 &&& (r12 ^^^ (-1))), pL (x2 &&& ((m.2 15 0 (ix x7)) ^^^ (-1))), pI (x7 + 1), pR 10 0, pI x6], (m, n))
          obtain ⟨r14, q13, h⟩ := zr_k h
          refine zcallSI (pc := 97) (As := [pR 10 0, pI (x7 + 1), pL (x2 &&& ((m.2 15 0 (ix x7)) ^^^ (-1))), pI (x4 &&& (r12 ^^^ (-1))), pI (x5 + 1)]) (st := [pI x6]) hF (hslf _ _ _ _ _  _ q13) w_X2_countSets k_2_111 (by decide +kernel) rfl rfl rfl (Nat.blt_eq.mpr (by omega)) ?_
          refine zrun hF [(.iadd, 1, pI 0), (.istore 6, 2, pI 0)] 100 _ (by decide +kernel) ?_
          refine (And.intro rfl ?_)
          show zG w f 8 103 ([some (pR 10 0), none, some (pL x2), none, some (pI x4), some (pI x5), some (pI (x6 + r14)), some (pI x7)], [], (m, n))
          exact m_X2_countSets_L103 rfl hF hR hslf ih _ _ _ _ _ _  hm h
        · replace h := zif b9 h
          refine zrun hF [(.iload 6, 2, pI 0)] 59 _ (by decide +kernel) ?_
          show zG w f 8 61 ([some (pR 10 0), none, some (pL x2), none, some (pI x4), some (pI x5), some (pI x6), some (pI x7)], [pI x6], (m, n))
          exact zretI (pc := 61) hF hR (by decide +kernel) rfl (Option.some.inj h) (congrArg (fun q => (q, n)) hm)

set_option maxHeartbeats 4000000 in
set_option maxRecDepth 100000 in
theorem m_X2_countSets {w : zWd} {lc : Launch} {n : zMem} : ∀ (kd : Nat) (a2 : Int32) (a3 : Int64) (a4 : Int32) (a5 : Int32) (m : zMem) (x : Int32), s_X2_countSets kd a2 a3 a4 a5 m = some x → zMet w lc (kd + 3 - 1) yX2_countSets cX2_countSets 8 (some .int) [pR 10 0, pI a2, pL a3, pI a4, pI a5] (m, n) (zQI w x (m, n)) := by
  intro kd
  induction kd with
  | zero => intro a2 a3 a4 a5 m x h; exact zno h
  | succ kd hslf =>
    intro a2 a3 a4 a5 m x h
    refine zmet (o := 2) (by decide +kernel) rfl (by omega) rfl (fun f hl hF hR => ?_)
    unfold s_X2_countSets at h
    replace hF : zFOK w f 2 cX2_countSets 8 (kd + 3) := hF
    subst hl
    generalize hs : s_X2_countSets kd = slf at h hslf
    dsimp only at h
    show zG w f 8 0 ([some (pR 10 0), some (pI a2), some (pL a3), none, some (pI a4), some (pI a5), none, none], [], (m, n))
    refine zrun hF [(.iload 5, 2, pI 0), (.aload_n 0, 1, pI 0), (.getfield 38, 3, pR 10 8)] 0 _ (by decide +kernel) ?_
    refine (And.intro rfl (And.intro rfl ?_))
    show zG w f 8 6 ([some (pR 10 0), some (pI a2), some (pL a3), none, some (pI a4), some (pI a5), none, none], [pI (m.1 10 0 8), pI a5], (m, n))
    refine zicmp_ge (tgt := 15) (pc := 6) hF (by decide +kernel) (fun b1 => ?_) (fun b1 => ?_)
    · replace h := zit b1 h
      refine zrun hF [(.iconst 1, 1, pI 1)] 15 _ (by decide +kernel) ?_
      show zG w f 8 16 ([some (pR 10 0), some (pI a2), some (pL a3), none, some (pI a4), some (pI a5), none, none], [pI 1], (m, n))
      exact zretI (pc := 16) hF hR (by decide +kernel) rfl (Option.some.inj h) rfl
    · replace h := zif b1 h
      refine zrun hF [(.iload 5, 2, pI 0), (.iconst 5, 1, pI 5)] 9 _ (by decide +kernel) ?_
      show zG w f 8 12 ([some (pR 10 0), some (pI a2), some (pL a3), none, some (pI a4), some (pI a5), none, none], [pI 5, pI a5], (m, n))
      refine zicmp_lt (tgt := 17) (pc := 12) hF (by decide +kernel) (fun b2 => ?_) (fun b2 => ?_)
      · replace h := zit b2 h
        refine zrun hF [(.iconst 0, 1, pI 0), (.istore 6, 2, pI 0), (.iload_n 1, 1, pI 0), (.istore 7, 2, pI 0)] 17 _ (by decide +kernel) ?_
        refine (And.intro rfl (And.intro rfl ?_))
        show zG w f 8 23 ([some (pR 10 0), some (pI a2), some (pL a3), none, some (pI a4), some (pI a5), some (pI 0), some (pI a2)], [], (m, n))
        refine zcut [true, false, true, true, true, true, true, true] ?_
        exact m_X2_countSets_L23 rfl hF hR hslf  zF _ _ _ _ _ _  rfl h
      · replace h := zif b2 h
        refine zrun hF [(.iconst 1, 1, pI 1)] 15 _ (by decide +kernel) ?_
        show zG w f 8 16 ([some (pR 10 0), some (pI a2), some (pL a3), none, some (pI a4), some (pI a5), none, none], [pI 1], (m, n))
        exact zretI (pc := 16) hF hR (by decide +kernel) rfl (Option.some.inj h) rfl

set_option maxHeartbeats 4000000 in
set_option maxRecDepth 100000 in
theorem m_X2_countLargest {w : zWd} {lc : Launch} {n : zMem}  {m : zMem} {x : Int32} {m0 : zMem}  (h : s_X2_countLargest m = some (x, m0)) : zMet w lc 25 yX2_countLargest cX2_countLargest 1 (some .int) [pR 10 0] (m, n) (zQI w x (m0, n)) := by
  refine zmet (o := 2) (by decide +kernel) rfl (Nat.le_of_ble_eq_true rfl) rfl (fun f hl hF hR => ?_)
  unfold s_X2_countLargest at h
  show zG w f 1 0 ([some (pR 10 0)], [], (m, n))
  refine zrun hF [(.aload_n 0, 1, pI 0), (.aload_n 0, 1, pI 0)] 0 _ (by decide +kernel) ?_
  show zG w f 1 2 ([some (pR 10 0)], [pR 10 0, pR 10 0], (m, n))
  obtain ⟨r2, q1, h⟩ := zr_k h
  refine zcallVL (pc := 2) (As := []) (st := [pR 10 0]) (c := 10) (j := 0) hF (m_X2_all  q1) w_X2_all k_2_103 (by decide +kernel) rfl rfl rfl rfl rfl rfl rfl ?_
  refine zrun hF [(.iconst 0, 1, pI 0)] 5 _ (by decide +kernel) ?_
  show zG w f 1 6 ([some (pR 10 0)], [pI 0, pL r2, pR 10 0], (m, n))
  obtain ⟨r4, m5, q3, h⟩ := zb_k h
  refine zcallVL (pc := 6) (As := [pL r2, pI 0]) (st := []) (c := 10) (j := 0) hF (m_X2_largest  q3) w_X2_largest k_2_107 (by decide +kernel) rfl rfl rfl rfl rfl rfl rfl ?_
  refine zrun hF [(.pop2, 1, pI 0), (.aload_n 0, 1, pI 0), (.iconst 0, 1, pI 0), (.aload_n 0, 1, pI 0)] 9 _ (by decide +kernel) ?_
  refine (And.intro rfl ?_)
  show zG w f 1 13 ([some (pR 10 0)], [pR 10 0, pI 0, pR 10 0], (m5, n))
  obtain ⟨r7, q6, h⟩ := zr_k h
  refine zcallVL (pc := 13) (As := []) (st := [pI 0, pR 10 0]) (c := 10) (j := 0) hF (m_X2_all  q6) w_X2_all k_2_103 (by decide +kernel) rfl rfl rfl rfl rfl rfl rfl ?_
  refine zrun hF [(.aload_n 0, 1, pI 0), (.aload_n 0, 1, pI 0)] 16 _ (by decide +kernel) ?_
  show zG w f 1 18 ([some (pR 10 0)], [pR 10 0, pR 10 0, pL r7, pI 0, pR 10 0], (m5, n))
  obtain ⟨r9, q8, h⟩ := zr_k h
  refine zcallVL (pc := 18) (As := []) (st := [pR 10 0, pL r7, pI 0, pR 10 0]) (c := 10) (j := 0) hF (m_X2_all  q8) w_X2_all k_2_103 (by decide +kernel) rfl rfl rfl rfl rfl rfl rfl ?_
  obtain ⟨r11, q10, h⟩ := zr_k h
  refine zcallVI (pc := 21) (As := [pL r9]) (st := [pL r7, pI 0, pR 10 0]) (c := 10) (j := 0) hF (m_X2_guestsIn  q10) w_X2_guestsIn k_2_85 (by decide +kernel) rfl rfl rfl rfl rfl rfl rfl ?_
  refine zrun hF [(.iconst 0, 1, pI 0)] 24 _ (by decide +kernel) ?_
  show zG w f 1 25 ([some (pR 10 0)], [pI 0, pI r11, pL r7, pI 0, pR 10 0], (m5, n))
  obtain ⟨r13, q12, h⟩ := zr_k h
  refine zcallSI (pc := 25) (As := [pR 10 0, pI 0, pL r7, pI r11, pI 0]) (st := []) hF (m_X2_countSets zF0 _ _ _ _ _  _ q12) w_X2_countSets k_2_111 (by decide +kernel) rfl rfl rfl rfl ?_
  exact zretI (pc := 28) hF hR (by decide +kernel) rfl (congrArg Prod.fst (Option.some.inj h)) (congrArg (fun (q : Int32 × zMem) => (q.2, n)) (Option.some.inj h))

set_option maxHeartbeats 4000000 in
set_option maxRecDepth 100000 in
theorem m_X6_ways {w : zWd} {lc : Launch} {n : zMem}  {m : zMem} {x : Int32} {m0 : zMem}  (h : s_X6_ways m = some (x, m0)) : zMet w lc 26 yX6_ways cX6_ways 1 (some .int) [pR 0 0] (m, n) (zQI w x (m0, n)) := by
  refine zmet (o := 6) (by decide +kernel) rfl (Nat.le_of_ble_eq_true rfl) rfl (fun f hl hF hR => ?_)
  unfold s_X6_ways at h
  show zG w f 1 0 ([some (pR 0 0)], [], (m, n))
  refine zrun hF [(.aload_n 0, 1, pI 0), (.getfield 35, 3, pR 0 5), (.aload_n 0, 1, pI 0), (.getfield 10, 3, pR 0 0)] 0 _ (by decide +kernel) ?_
  refine (And.intro rfl (And.intro rfl (And.intro rfl (And.intro rfl ?_))))
  show zG w f 1 8 ([some (pR 0 0)], [pR 1 0, pR 10 0], (m, n))
  obtain ⟨m3, q1, h⟩ := zr_k h
  refine zcallVV (pc := 8) (As := [pR 1 0]) (st := []) (c := 10) (j := 0) hF (m_X2_draw rfl q1) w_X2_draw k_6_211 (by decide +kernel) rfl rfl rfl rfl rfl rfl rfl ?_
  refine zrun hF [(.aload_n 0, 1, pI 0), (.getfield 35, 3, pR 0 5)] 11 _ (by decide +kernel) ?_
  refine (And.intro rfl (And.intro rfl ?_))
  show zG w f 1 15 ([some (pR 0 0)], [pR 10 0], (m3, n))
  obtain ⟨r5, m6, q4, h⟩ := zb_k h
  refine zcallVI (pc := 15) (As := []) (st := []) (c := 10) (j := 0) hF (m_X2_countLargest  q4) w_X2_countLargest k_6_230 (by decide +kernel) rfl rfl rfl rfl rfl rfl rfl ?_
  exact zretI (pc := 18) hF hR (by decide +kernel) rfl (congrArg Prod.fst (Option.some.inj h)) (congrArg (fun (q : Int32 × zMem) => (q.2, n)) (Option.some.inj h))

set_option maxHeartbeats 4000000 in
set_option maxRecDepth 100000 in
theorem m_X7_ways {w : zWd} {lc : Launch} {n : zMem}  {m : zMem} {x : Int32} {m0 : zMem}  (h : s_X7_ways m = some (x, m0)) : zMet w lc 26 yX7_ways cX7_ways 1 (some .int) [pR 64 0] (n, m) (zQI w x (n, m0)) := by
  refine zmet (o := 7) (by decide +kernel) rfl (Nat.le_of_ble_eq_true rfl) rfl (fun f hl hF hR => ?_)
  unfold s_X7_ways at h
  show zG w f 1 0 ([some (pR 64 0)], [], (n, m))
  refine zrun hF [(.aload_n 0, 1, pI 0)] 0 _ (by decide +kernel) ?_
  show zG w f 1 1 ([some (pR 64 0)], [pR 64 0], (n, m))
  obtain ⟨r2, m3, q1, h⟩ := zb_k h
  refine zcallVI (pc := 1) (As := []) (st := []) (c := 64) (j := 0) hF (m_X7_mostOf  q1) w_X7_mostOf k_7_244 (by decide +kernel) rfl rfl rfl rfl rfl rfl rfl ?_
  refine zrun hF [(.pop, 1, pI 0), (.aload_n 0, 1, pI 0), (.getfield 234, 3, pR 64 34)] 4 _ (by decide +kernel) ?_
  refine (And.intro rfl (And.intro rfl (And.intro rfl ?_)))
  show zG w f 1 9 ([some (pR 64 0)], [pI (m3.1 64 0 34)], (n, m3))
  exact zretI (pc := 9) hF hR (by decide +kernel) rfl (congrArg Prod.fst (Option.some.inj h)) (congrArg (fun (q : Int32 × zMem) => (n, q.2)) (Option.some.inj h))

set_option maxHeartbeats 4000000 in
set_option maxRecDepth 100000 in
theorem m_X2_makeRounds_L8 {w : zWd} {f : zFr} {n : zMem} {x : Int32} {m0 : zMem} {lc : Launch} (hl : f.2.1 = lc) (hF : zFOK w f 2 cX2_makeRounds 5 25) (hR : zFin w f (some .int) (zQI w x (m0, n))) : ∀ (k : Nat) (x1 : Int32) (x2 : Int64) (x4 : Int32) (m : zMem), s_X2_makeRounds_L8 k x1 x2 x4 m = some (x, m0) → zG w f 5 8 ([some (pR 10 0), some (pI x1), some (pL x2), none, some (pI x4)], [], (m, n)) := by
  intro k
  induction k with
  | zero => intro x1 x2 x4 m h; exact zno h
  | succ k ih =>
    intro x1 x2 x4 m h
    unfold s_X2_makeRounds_L8 at h
    refine zrun hF [(.iload 4, 2, pI 0), (.iload_n 1, 1, pI 0)] 8 _ (by decide +kernel) ?_
    show zG w f 5 11 ([some (pR 10 0), some (pI x1), some (pL x2), none, some (pI x4)], [pI x1, pI x4], (m, n))
    refine zicmp_ge (tgt := 60) (pc := 11) hF (by decide +kernel) (fun b3 => ?_) (fun b3 => ?_)
    · replace h := zit b3 h
      refine zrun hF [(.iload 4, 2, pI 0)] 60 _ (by decide +kernel) ?_
      show zG w f 5 62 ([some (pR 10 0), some (pI x1), some (pL x2), none, some (pI x4)], [pI x4], (m, n))
      exact zretI (pc := 62) hF hR (by decide +kernel) rfl (congrArg Prod.fst (Option.some.inj h)) (congrArg (fun (q : Int32 × zMem) => (q.2, n)) (Option.some.inj h))
    · replace h := zif b3 h
      refine zrun hF [(.iload 4, 2, pI 0), (.bipush 45, 2, pI 45)] 14 _ (by decide +kernel) ?_
      show zG w f 5 18 ([some (pR 10 0), some (pI x1), some (pL x2), none, some (pI x4)], [pI 45, pI x4], (m, n))
      refine zicmp_ge (tgt := 60) (pc := 18) hF (by decide +kernel) (fun b4 => ?_) (fun b4 => ?_)
      · replace h := zit b4 h
        refine zrun hF [(.iload 4, 2, pI 0)] 60 _ (by decide +kernel) ?_
        show zG w f 5 62 ([some (pR 10 0), some (pI x1), some (pL x2), none, some (pI x4)], [pI x4], (m, n))
        exact zretI (pc := 62) hF hR (by decide +kernel) rfl (congrArg Prod.fst (Option.some.inj h)) (congrArg (fun (q : Int32 × zMem) => (q.2, n)) (Option.some.inj h))
      · replace h := zif b4 h
        refine zrun hF [(.lload_n 2, 1, pI 0), (.lconst 0, 1, pL 0), (.lcmp, 1, pI 0)] 21 _ (by decide +kernel) ?_
        show zG w f 5 24 ([some (pR 10 0), some (pI x1), some (pL x2), none, some (pI x4)], [pI (lg_cmp x2 0)], (m, n))
        refine zif_eq (tgt := 60) (pc := 24) hF (by decide +kernel) (fun b5 => ?_) (fun b5 => ?_)
        · replace h := zit b5 h
          refine zrun hF [(.iload 4, 2, pI 0)] 60 _ (by decide +kernel) ?_
          show zG w f 5 62 ([some (pR 10 0), some (pI x1), some (pL x2), none, some (pI x4)], [pI x4], (m, n))
          exact zretI (pc := 62) hF hR (by decide +kernel) rfl (congrArg Prod.fst (Option.some.inj h)) (congrArg (fun (q : Int32 × zMem) => (q.2, n)) (Option.some.inj h))
        · replace h := zif b5 h
          refine zrun hF [(.aload_n 0, 1, pI 0), (.getfield 28, 3, pR 10 5), (.iload 4, 2, pI 0), (.aload_n 0, 1, pI 0), (.lload_n 2, 1, pI 0), (.iconst 0, 1, pI 0)] 27 _ (by decide +kernel) ?_
          refine (And.intro rfl (And.intro rfl ?_))
          show zG w f 5 36 ([some (pR 10 0), some (pI x1), some (pL x2), none, some (pI x4)], [pI 0, pL x2, pR 10 0, pI x4, pR 16 0], (m, n))
          obtain ⟨r7, m8, q6, h⟩ := zb_k h
          refine zcallVL (pc := 36) (As := [pL x2, pI 0]) (st := [pI x4, pR 16 0]) (c := 10) (j := 0) hF (m_X2_largest  q6) w_X2_largest k_2_107 (by decide +kernel) rfl rfl rfl rfl rfl rfl rfl ?_
          obtain ⟨c9, h⟩ := zchk h
          refine zrun hF [(.lastore, 1, pI 0)] 39 _ (by decide +kernel) ?_
          refine (And.intro rfl (And.intro rfl (And.intro c9 ?_)))
          refine zlet_k (P := fun (m10 : zMem) => zG w f 5 40 ([some (pR 10 0), some (pI x1), some (pL x2), none, some (pI x4)], [], (m10, n))) h (fun m10 h => ?_)
          refine zrun hF [(.lload_n 2, 1, pI 0), (.aload_n 0, 1, pI 0), (.getfield 28, 3, pR 10 5), (.iload 4, 2, pI 0), (.laload, 1, pI 0), (.ldc2_w 96, 3, pL (-1)), (.lxor, 1, pI 0), (.land, 1, pI 0), (.lstore_n 2, 1, pI 0)] 40 _ (by decide +kernel) ?_
          refine (And.intro rfl (And.intro rfl (And.intro rfl (And.intro rfl (And.intro c9 (And.intro rfl ?_))))))
          refine zlet_k (P := fun (v11 : Int64) => zG w f 5 54 ([some (pR 10 0), some (pI x1), some (pL v11), none, some (pI x4)], [], (m10, n))) h (fun v11 h => ?_)
          refine zrun hF [(.iinc 4 1, 3, pI 1)] 54 _ (by decide +kernel) ?_
          refine (And.intro rfl ?_)
          show zG w f 5 57 ([some (pR 10 0), some (pI x1), some (pL v11), none, some (pI (x4 + 1))], [], (m10, n))
          refine zgoto (tgt := 8) (pc := 57) hF (by decide +kernel) ?_
          exact ih _ _ _ _  h

set_option maxHeartbeats 4000000 in
set_option maxRecDepth 100000 in
theorem m_X2_makeRounds {w : zWd} {lc : Launch} {n : zMem} {a1 : Int32} {m : zMem} {x : Int32} {m0 : zMem}  (h : s_X2_makeRounds a1 m = some (x, m0)) : zMet w lc 25 yX2_makeRounds cX2_makeRounds 5 (some .int) [pR 10 0, pI a1] (m, n) (zQI w x (m0, n)) := by
  refine zmet (o := 2) (by decide +kernel) rfl (Nat.le_of_ble_eq_true rfl) rfl (fun f hl hF hR => ?_)
  unfold s_X2_makeRounds at h
  show zG w f 5 0 ([some (pR 10 0), some (pI a1), none, none, none], [], (m, n))
  refine zrun hF [(.aload_n 0, 1, pI 0)] 0 _ (by decide +kernel) ?_
  show zG w f 5 1 ([some (pR 10 0), some (pI a1), none, none, none], [pR 10 0], (m, n))
  obtain ⟨r2, q1, h⟩ := zr_k h
  refine zcallVL (pc := 1) (As := []) (st := []) (c := 10) (j := 0) hF (m_X2_all  q1) w_X2_all k_2_103 (by decide +kernel) rfl rfl rfl rfl rfl rfl rfl ?_
  refine zrun hF [(.lstore_n 2, 1, pI 0), (.iconst 0, 1, pI 0), (.istore 4, 2, pI 0)] 4 _ (by decide +kernel) ?_
  refine (And.intro rfl (And.intro rfl ?_))
  show zG w f 5 8 ([some (pR 10 0), some (pI a1), some (pL r2), none, some (pI 0)], [], (m, n))
  exact m_X2_makeRounds_L8 hl hF hR  zF _ _ _ _  h

set_option maxHeartbeats 4000000 in
set_option maxRecDepth 100000 in
theorem m_X6_rounds {w : zWd} {lc : Launch} {n : zMem}  {m : zMem} {x : Int32} {m0 : zMem}  (h : s_X6_rounds m = some (x, m0)) : zMet w lc 26 yX6_rounds cX6_rounds 1 (some .int) [pR 0 0] (m, n) (zQI w x (m0, n)) := by
  refine zmet (o := 6) (by decide +kernel) rfl (Nat.le_of_ble_eq_true rfl) rfl (fun f hl hF hR => ?_)
  unfold s_X6_rounds at h
  show zG w f 1 0 ([some (pR 0 0)], [], (m, n))
  refine zrun hF [(.aload_n 0, 1, pI 0), (.getfield 35, 3, pR 0 5), (.aload_n 0, 1, pI 0), (.getfield 10, 3, pR 0 0)] 0 _ (by decide +kernel) ?_
  refine (And.intro rfl (And.intro rfl (And.intro rfl (And.intro rfl ?_))))
  show zG w f 1 8 ([some (pR 0 0)], [pR 1 0, pR 10 0], (m, n))
  obtain ⟨m3, q1, h⟩ := zr_k h
  refine zcallVV (pc := 8) (As := [pR 1 0]) (st := []) (c := 10) (j := 0) hF (m_X2_draw rfl q1) w_X2_draw k_6_211 (by decide +kernel) rfl rfl rfl rfl rfl rfl rfl ?_
  refine zrun hF [(.aload_n 0, 1, pI 0), (.getfield 35, 3, pR 0 5), (.bipush 45, 2, pI 45)] 11 _ (by decide +kernel) ?_
  refine (And.intro rfl (And.intro rfl ?_))
  show zG w f 1 17 ([some (pR 0 0)], [pI 45, pR 10 0], (m3, n))
  obtain ⟨r5, m6, q4, h⟩ := zb_k h
  refine zcallVI (pc := 17) (As := [pI 45]) (st := []) (c := 10) (j := 0) hF (m_X2_makeRounds  q4) w_X2_makeRounds k_6_234 (by decide +kernel) rfl rfl rfl rfl rfl rfl rfl ?_
  exact zretI (pc := 20) hF hR (by decide +kernel) rfl (congrArg Prod.fst (Option.some.inj h)) (congrArg (fun (q : Int32 × zMem) => (q.2, n)) (Option.some.inj h))

set_option maxHeartbeats 4000000 in
set_option maxRecDepth 100000 in
theorem m_X7_keepsHad_L2 {w : zWd} {f : zFr} {n : zMem} {m0 : zMem} {lc : Launch} (hl : f.2.1 = lc) (hF : zFOK w f 7 cX7_keepsHad 2 1) (hR : zFin w f none (zQV w (n, m0))) : ∀ (k : Nat) (x1 : Int32) (m : zMem), s_X7_keepsHad_L2 k x1 m = some m0 → zG w f 2 2 ([some (pR 64 0), some (pI x1)], [], (n, m)) := by
  intro k
  induction k with
  | zero => intro x1 m h; exact zno h
  | succ k ih =>
    intro x1 m h
    unfold s_X7_keepsHad_L2 at h
    refine zrun hF [(.iload_n 1, 1, pI 0), (.bipush 10, 2, pI 10)] 2 _ (by decide +kernel) ?_
    show zG w f 2 5 ([some (pR 64 0), some (pI x1)], [pI 10, pI x1], (n, m))
    refine zicmp_ge (tgt := 26) (pc := 5) hF (by decide +kernel) (fun b1 => ?_) (fun b1 => ?_)
    · replace h := zit b1 h
      exact zretV (pc := 26) hF hR (by decide +kernel) (congrArg (fun q => (n, q)) (Option.some.inj h))
    · replace h := zif b1 h
      obtain ⟨c2, h⟩ := zchk h
      refine zrun hF [(.aload_n 0, 1, pI 0), (.getfield 81, 3, pR 64 35), (.iload_n 1, 1, pI 0), (.aload_n 0, 1, pI 0), (.getfield 35, 3, pR 64 12), (.iload_n 1, 1, pI 0), (.iaload, 1, pI 0), (.iastore, 1, pI 0)] 8 _ (by decide +kernel) ?_
      refine (And.intro rfl (And.intro rfl (And.intro rfl (And.intro rfl (And.intro rfl (And.intro rfl (And.intro c2 (And.intro rfl (And.intro rfl (And.intro c2 ?_))))))))))
      refine zlet_k (P := fun (m3 : zMem) => zG w f 2 20 ([some (pR 64 0), some (pI x1)], [], (n, m3))) h (fun m3 h => ?_)
      refine zrun hF [(.iinc 1 1, 3, pI 1)] 20 _ (by decide +kernel) ?_
      refine (And.intro rfl ?_)
      show zG w f 2 23 ([some (pR 64 0), some (pI (x1 + 1))], [], (n, m3))
      refine zgoto (tgt := 2) (pc := 23) hF (by decide +kernel) ?_
      exact ih _ _  h

set_option maxHeartbeats 4000000 in
set_option maxRecDepth 100000 in
theorem m_X7_keepsHad {w : zWd} {lc : Launch} {n : zMem}  {m : zMem} {m0 : zMem}  (h : s_X7_keepsHad m = some m0) : zMet w lc 1 yX7_keepsHad cX7_keepsHad 2 none [pR 64 0] (n, m) (zQV w (n, m0)) := by
  refine zmet (o := 7) (by decide +kernel) rfl (Nat.le_of_ble_eq_true rfl) rfl (fun f hl hF hR => ?_)
  unfold s_X7_keepsHad at h
  show zG w f 2 0 ([some (pR 64 0), none], [], (n, m))
  refine zrun hF [(.iconst 0, 1, pI 0), (.istore_n 1, 1, pI 0)] 0 _ (by decide +kernel) ?_
  refine (And.intro rfl ?_)
  show zG w f 2 2 ([some (pR 64 0), some (pI 0)], [], (n, m))
  exact m_X7_keepsHad_L2 hl hF hR  zF _ _  h

set_option maxHeartbeats 4000000 in
set_option maxRecDepth 100000 in
theorem m_X7_round_L62 {w : zWd} {f : zFr} {n : zMem} {x : Int32} {m0 : zMem} {lc : Launch} (hl : f.2.1 = lc) (hF : zFOK w f 7 cX7_round 7 26) (hR : zFin w f (some .int) (zQI w x (n, m0))) {k9 : Int32 → Int32 → Int32 → zMem → Option (Int32 × zMem)} (hk9 : ∀ (x1 : Int32) (x2 : Int32) (x3 : Int32) (m : zMem), k9 x1 x2 x3 m = some (x, m0) → zG w f 7 9 ([some (pR 64 0), some (pI x1), some (pI x2), some (pI x3), none, none, none], [], (n, m))) : ∀ (x1 : Int32) (x3 : Int32) (x4 : Int32) (x5 : Int32) (y0 : Int32) (m : zMem), s_X7_round_L62 k9 x1 x3 x4 x5 y0 m = some (x, m0) → zG w f 7 62 ([some (pR 64 0), some (pI x1), none, some (pI x3), some (pI x4), some (pI x5), none], [pI y0], (n, m)) := by
  intro x1 x3 x4 x5 y0 m h
  unfold s_X7_round_L62 at h
  refine zrun hF [(.istore_n 2, 1, pI 0), (.aload_n 0, 1, pI 0), (.aload_n 0, 1, pI 0), (.getfield 35, 3, pR 64 12), (.iload 4, 2, pI 0), (.iload 5, 2, pI 0), (.iconst 1, 1, pI 1)] 62 _ (by decide +kernel) ?_
  refine (And.intro rfl (And.intro rfl (And.intro rfl ?_)))
  show zG w f 7 73 ([some (pR 64 0), some (pI x1), some (pI y0), some (pI x3), some (pI x4), some (pI x5), none], [pI 1, pI x5, pI x4, pR 70 0, pR 64 0], (n, m))
  obtain ⟨r13, m14, q12, h⟩ := zb_k h
  refine zcallVI (pc := 73) (As := [pR 70 0, pI x4, pI x5, pI 1]) (st := []) (c := 64) (j := 0) hF (m_X7_puts_70  q12) w_X7_puts k_7_137 (by decide +kernel) rfl rfl rfl rfl rfl rfl rfl ?_
  refine zrun hF [(.pop, 1, pI 0), (.iinc 3 1, 3, pI 1)] 76 _ (by decide +kernel) ?_
  refine (And.intro rfl (And.intro rfl ?_))
  show zG w f 7 80 ([some (pR 64 0), some (pI x1), some (pI y0), some (pI (x3 + 1)), some (pI x4), some (pI x5), none], [], (n, m14))
  refine zgoto (tgt := 9) (pc := 80) hF (by decide +kernel) ?_
  refine zcut [true, true, true, true, false, false, true] ?_
  exact hk9 _ _ _ _  h

set_option maxHeartbeats 4000000 in
set_option maxRecDepth 100000 in
theorem m_X7_round_L9 {w : zWd} {f : zFr} {n : zMem} {x : Int32} {m0 : zMem} {lc : Launch} (hl : f.2.1 = lc) (hF : zFOK w f 7 cX7_round 7 26) (hR : zFin w f (some .int) (zQI w x (n, m0))) : ∀ (k : Nat) (x1 : Int32) (x2 : Int32) (x3 : Int32) (m : zMem), s_X7_round_L9 k x1 x2 x3 m = some (x, m0) → zG w f 7 9 ([some (pR 64 0), some (pI x1), some (pI x2), some (pI x3), none, none, none], [], (n, m)) := by
  intro k
  induction k with
  | zero => intro x1 x2 x3 m h; exact zno h
  | succ k ih =>
    intro x1 x2 x3 m h
    unfold s_X7_round_L9 at h
    refine zrun hF [(.iload_n 3, 1, pI 0), (.iload_n 1, 1, pI 0)] 9 _ (by decide +kernel) ?_
    show zG w f 7 11 ([some (pR 64 0), some (pI x1), some (pI x2), some (pI x3), none, none, none], [pI x1, pI x3], (n, m))
    refine zicmp_ge (tgt := 83) (pc := 11) hF (by decide +kernel) (fun b4 => ?_) (fun b4 => ?_)
    · replace h := zit b4 h
      refine zrun hF [(.iload_n 2, 1, pI 0)] 83 _ (by decide +kernel) ?_
      show zG w f 7 84 ([some (pR 64 0), some (pI x1), some (pI x2), some (pI x3), none, none, none], [pI x2], (n, m))
      exact zretI (pc := 84) hF hR (by decide +kernel) rfl (congrArg Prod.fst (Option.some.inj h)) (congrArg (fun (q : Int32 × zMem) => (n, q.2)) (Option.some.inj h))
    · replace h := zif b4 h
      obtain ⟨c5, h⟩ := zchk h
      obtain ⟨c6, h⟩ := zchk h
      refine zrun hF [(.aload_n 0, 1, pI 0), (.getfield 69, 3, pR 64 28), (.aload_n 0, 1, pI 0), (.getfield 78, 3, pR 64 32), (.iload_n 3, 1, pI 0), (.iaload, 1, pI 0), (.iaload, 1, pI 0), (.istore 4, 2, pI 0)] 14 _ (by decide +kernel) ?_
      refine (And.intro rfl (And.intro rfl (And.intro rfl (And.intro rfl (And.intro rfl (And.intro rfl (And.intro c5 (And.intro rfl (And.intro rfl (And.intro c6 (And.intro rfl ?_)))))))))))
      refine zlet_k (P := fun (v7 : Int32) => zG w f 7 27 ([some (pR 64 0), some (pI x1), some (pI x2), some (pI x3), some (pI v7), none, none], [], (n, m))) h (fun v7 h => ?_)
      refine zrun hF [(.aload_n 0, 1, pI 0), (.getfield 72, 3, pR 64 29), (.aload_n 0, 1, pI 0), (.getfield 78, 3, pR 64 32), (.iload_n 3, 1, pI 0), (.iaload, 1, pI 0), (.iaload, 1, pI 0), (.istore 5, 2, pI 0)] 27 _ (by decide +kernel) ?_
      refine (And.intro rfl (And.intro rfl (And.intro rfl (And.intro rfl (And.intro rfl (And.intro rfl (And.intro c5 (And.intro rfl (And.intro rfl (And.intro c6 (And.intro rfl ?_)))))))))))
      refine zlet_k (P := fun (v8 : Int32) => zG w f 7 40 ([some (pR 64 0), some (pI x1), some (pI x2), some (pI x3), some (pI v7), some (pI v8), none], [], (n, m))) h (fun v8 h => ?_)
      refine zrun hF [(.aload_n 0, 1, pI 0), (.iload 4, 2, pI 0), (.iload 5, 2, pI 0)] 40 _ (by decide +kernel) ?_
      show zG w f 7 45 ([some (pR 64 0), some (pI x1), some (pI x2), some (pI x3), some (pI v7), some (pI v8), none], [pI v8, pI v7, pR 64 0], (n, m))
      obtain ⟨r10, q9, h⟩ := zr_k h
      refine zcallVI (pc := 45) (As := [pI v7, pI v8]) (st := []) (c := 64) (j := 0) hF (m_X7_takesOf  q9) w_X7_takesOf k_7_212 (by decide +kernel) rfl rfl rfl rfl rfl rfl rfl ?_
      refine zrun hF [(.istore 6, 2, pI 0), (.iload 6, 2, pI 0), (.iload_n 2, 1, pI 0)] 48 _ (by decide +kernel) ?_
      refine (And.intro rfl ?_)
      show zG w f 7 53 ([some (pR 64 0), some (pI x1), some (pI x2), some (pI x3), some (pI v7), some (pI v8), some (pI r10)], [pI x2, pI r10], (n, m))
      refine zicmp_le (tgt := 61) (pc := 53) hF (by decide +kernel) (fun b11 => ?_) (fun b11 => ?_)
      · replace h := zit b11 h
        refine zrun hF [(.iload_n 2, 1, pI 0)] 61 _ (by decide +kernel) ?_
        show zG w f 7 62 ([some (pR 64 0), some (pI x1), some (pI x2), some (pI x3), some (pI v7), some (pI v8), some (pI r10)], [pI x2], (n, m))
        refine zcut [true, true, false, true, true, true, false] ?_
        exact m_X7_round_L62 hl hF hR ih _ _ _ _ _ _  h
      · replace h := zif b11 h
        refine zrun hF [(.iload 6, 2, pI 0)] 56 _ (by decide +kernel) ?_
        show zG w f 7 58 ([some (pR 64 0), some (pI x1), some (pI x2), some (pI x3), some (pI v7), some (pI v8), some (pI r10)], [pI r10], (n, m))
        refine zgoto (tgt := 62) (pc := 58) hF (by decide +kernel) ?_
        refine zcut [true, true, false, true, true, true, false] ?_
        exact m_X7_round_L62 hl hF hR ih _ _ _ _ _ _  h

set_option maxHeartbeats 4000000 in
set_option maxRecDepth 100000 in
theorem m_X7_round {w : zWd} {lc : Launch} {n : zMem}  {m : zMem} {x : Int32} {m0 : zMem}  (h : s_X7_round m = some (x, m0)) : zMet w lc 26 yX7_round cX7_round 7 (some .int) [pR 64 0] (n, m) (zQI w x (n, m0)) := by
  refine zmet (o := 7) (by decide +kernel) rfl (Nat.le_of_ble_eq_true rfl) rfl (fun f hl hF hR => ?_)
  unfold s_X7_round at h
  show zG w f 7 0 ([some (pR 64 0), none, none, none, none, none, none], [], (n, m))
  refine zrun hF [(.aload_n 0, 1, pI 0)] 0 _ (by decide +kernel) ?_
  show zG w f 7 1 ([some (pR 64 0), none, none, none, none, none, none], [pR 64 0], (n, m))
  obtain ⟨r2, m3, q1, h⟩ := zb_k h
  refine zcallVI (pc := 1) (As := []) (st := []) (c := 64) (j := 0) hF (m_X7_mostOf  q1) w_X7_mostOf k_7_244 (by decide +kernel) rfl rfl rfl rfl rfl rfl rfl ?_
  refine zrun hF [(.istore_n 1, 1, pI 0), (.iconst 0, 1, pI 0), (.istore_n 2, 1, pI 0), (.iconst 0, 1, pI 0), (.istore_n 3, 1, pI 0)] 4 _ (by decide +kernel) ?_
  refine (And.intro rfl (And.intro rfl (And.intro rfl ?_)))
  show zG w f 7 9 ([some (pR 64 0), some (pI r2), some (pI 0), some (pI 0), none, none, none], [], (n, m3))
  exact m_X7_round_L9 hl hF hR  zF _ _ _ _  h

set_option maxHeartbeats 4000000 in
set_option maxRecDepth 100000 in
theorem m_X7_bringsHad_L2 {w : zWd} {f : zFr} {n : zMem} {m0 : zMem} {lc : Launch} (hl : f.2.1 = lc) (hF : zFOK w f 7 cX7_bringsHad 2 1) (hR : zFin w f none (zQV w (n, m0))) : ∀ (k : Nat) (x1 : Int32) (m : zMem), s_X7_bringsHad_L2 k x1 m = some m0 → zG w f 2 2 ([some (pR 64 0), some (pI x1)], [], (n, m)) := by
  intro k
  induction k with
  | zero => intro x1 m h; exact zno h
  | succ k ih =>
    intro x1 m h
    unfold s_X7_bringsHad_L2 at h
    refine zrun hF [(.iload_n 1, 1, pI 0), (.bipush 10, 2, pI 10)] 2 _ (by decide +kernel) ?_
    show zG w f 2 5 ([some (pR 64 0), some (pI x1)], [pI 10, pI x1], (n, m))
    refine zicmp_ge (tgt := 26) (pc := 5) hF (by decide +kernel) (fun b1 => ?_) (fun b1 => ?_)
    · replace h := zit b1 h
      exact zretV (pc := 26) hF hR (by decide +kernel) (congrArg (fun q => (n, q)) (Option.some.inj h))
    · replace h := zif b1 h
      obtain ⟨c2, h⟩ := zchk h
      refine zrun hF [(.aload_n 0, 1, pI 0), (.getfield 35, 3, pR 64 12), (.iload_n 1, 1, pI 0), (.aload_n 0, 1, pI 0), (.getfield 81, 3, pR 64 35), (.iload_n 1, 1, pI 0), (.iaload, 1, pI 0), (.iastore, 1, pI 0)] 8 _ (by decide +kernel) ?_
      refine (And.intro rfl (And.intro rfl (And.intro rfl (And.intro rfl (And.intro rfl (And.intro rfl (And.intro c2 (And.intro rfl (And.intro rfl (And.intro c2 ?_))))))))))
      refine zlet_k (P := fun (m3 : zMem) => zG w f 2 20 ([some (pR 64 0), some (pI x1)], [], (n, m3))) h (fun m3 h => ?_)
      refine zrun hF [(.iinc 1 1, 3, pI 1)] 20 _ (by decide +kernel) ?_
      refine (And.intro rfl ?_)
      show zG w f 2 23 ([some (pR 64 0), some (pI (x1 + 1))], [], (n, m3))
      refine zgoto (tgt := 2) (pc := 23) hF (by decide +kernel) ?_
      exact ih _ _  h

set_option maxHeartbeats 4000000 in
set_option maxRecDepth 100000 in
theorem m_X7_bringsHad {w : zWd} {lc : Launch} {n : zMem}  {m : zMem} {m0 : zMem}  (h : s_X7_bringsHad m = some m0) : zMet w lc 1 yX7_bringsHad cX7_bringsHad 2 none [pR 64 0] (n, m) (zQV w (n, m0)) := by
  refine zmet (o := 7) (by decide +kernel) rfl (Nat.le_of_ble_eq_true rfl) rfl (fun f hl hF hR => ?_)
  unfold s_X7_bringsHad at h
  show zG w f 2 0 ([some (pR 64 0), none], [], (n, m))
  refine zrun hF [(.iconst 0, 1, pI 0), (.istore_n 1, 1, pI 0)] 0 _ (by decide +kernel) ?_
  refine (And.intro rfl ?_)
  show zG w f 2 2 ([some (pR 64 0), some (pI 0)], [], (n, m))
  exact m_X7_bringsHad_L2 hl hF hR  zF _ _  h

