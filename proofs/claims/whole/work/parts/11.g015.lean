set_option maxHeartbeats 4000000 in
set_option maxRecDepth 100000 in
theorem m_X2_roomFrom {w : zWd} {lc : Launch} {n : zMem} {a1 : Int32} {a2 : Int32} {m : zMem} {x : Int32}  (h : s_X2_roomFrom a1 a2 m = some x) : zMet w lc 2 yX2_roomFrom cX2_roomFrom 3 (some .int) [pR 10 0, pI a1, pI a2] (m, n) (zQI w x (m, n)) := by
  refine zmet (o := 2) (by decide +kernel) rfl (Nat.le_of_ble_eq_true rfl) rfl (fun f hl hF hR => ?_)
  unfold s_X2_roomFrom at h
  show zG w f 3 0 ([some (pR 10 0), some (pI a1), some (pI a2)], [], (m, n))
  obtain ⟨c1, h⟩ := zchk h
  refine zrun hF [(.iload_n 2, 1, pI 0), (.iconst (-1), 1, pI (-1)), (.aload_n 0, 1, pI 0), (.getfield 9, 3, pR 10 0), (.iload_n 1, 1, pI 0), (.iaload, 1, pI 0), (.ishl, 1, pI 0), (.iand, 1, pI 0)] 0 _ (by decide +kernel) ?_
  refine (And.intro rfl (And.intro rfl (And.intro rfl (And.intro rfl (And.intro c1 ?_)))))
  show zG w f 3 10 ([some (pR 10 0), some (pI a1), some (pI a2)], [pI (a2 &&& (jshl (-1) (m.1 11 0 (ix a1))))], (m, n))
  obtain ⟨r3, q2, h⟩ := zr_k h
  refine zcallSI (pc := 10) (As := [pI (a2 &&& (jshl (-1) (m.1 11 0 (ix a1))))]) (st := []) hF (m_J6_bitCount_0f7a4  q2) w_J6_bitCount_0f7a4 k_2_98 (by decide +kernel) rfl rfl rfl rfl ?_
  refine zrun hF [(.iconst 2, 1, pI 2), (.idiv, 1, pI 0)] 13 _ (by decide +kernel) ?_
  refine (And.intro (by decide) ?_)
  show zG w f 3 15 ([some (pR 10 0), some (pI a1), some (pI a2)], [pI (r3 / 2)], (m, n))
  exact zretI (pc := 15) hF hR (by decide +kernel) rfl (Option.some.inj h) rfl

set_option maxHeartbeats 4000000 in
set_option maxRecDepth 100000 in
theorem m_X2_seek_L111 {w : zWd} {f : zFr} {n : zMem} {m0 : zMem} {lc : Launch} {kd : Nat} (hl : f.2.1 = lc) (hF : zFOK w f 2 cX2_seek 9 (kd + 3)) (hR : zFin w f none (zQV w (m0, n))) {slf : Int32 → Int64 → Int32 → Int64 → Int32 → zMem → Option zMem} (hslf : ∀ (a2 : Int32) (a3 : Int64) (a4 : Int32) (a5 : Int64) (a6 : Int32) (m : zMem) (m1 : zMem), slf a2 a3 a4 a5 a6 m = some m1 → zMet w lc (kd + 3 - 1) yX2_seek cX2_seek 9 none [pR 10 0, pI a2, pL a3, pI a4, pL a5, pI a6] (m, n) (zQV w (m1, n))) {k31 : Int64 → Int32 → Int64 → Int32 → Int32 → zMem → Option zMem} (hk31 : ∀ (x2 : Int64) (x4 : Int32) (x5 : Int64) (x7 : Int32) (x8 : Int32) (m : zMem), k31 x2 x4 x5 x7 x8 m = some m0 → zG w f 9 31 ([some (pR 10 0), none, some (pL x2), none, some (pI x4), some (pL x5), none, some (pI x7), some (pI x8)], [], (m, n))) : ∀ (x2 : Int64) (x4 : Int32) (x5 : Int64) (x7 : Int32) (x8 : Int32) (m : zMem), s_X2_seek_L111 slf k31 x2 x4 x5 x7 x8 m = some m0 → zG w f 9 111 ([some (pR 10 0), none, some (pL x2), none, some (pI x4), some (pL x5), none, some (pI x7), some (pI x8)], [], (m, n)) := by
  subst hl
  intro x2 x4 x5 x7 x8 m h
  unfold s_X2_seek_L111 at h
  refine zrun hF [(.iinc 8 1, 3, pI 1)] 111 _ (by decide +kernel) ?_
  refine (And.intro rfl ?_)
  show zG w f 9 114 ([some (pR 10 0), none, some (pL x2), none, some (pI x4), some (pL x5), none, some (pI x7), some (pI (x8 + 1))], [], (m, n))
  refine zgoto (tgt := 31) (pc := 114) hF (by decide +kernel) ?_
  exact hk31 _ _ _ _ _ _  h

set_option maxHeartbeats 4000000 in
set_option maxRecDepth 100000 in
theorem m_X2_seek_L31 {w : zWd} {f : zFr} {n : zMem} {m0 : zMem} {lc : Launch} {kd : Nat} (hl : f.2.1 = lc) (hF : zFOK w f 2 cX2_seek 9 (kd + 3)) (hR : zFin w f none (zQV w (m0, n))) {slf : Int32 → Int64 → Int32 → Int64 → Int32 → zMem → Option zMem} (hslf : ∀ (a2 : Int32) (a3 : Int64) (a4 : Int32) (a5 : Int64) (a6 : Int32) (m : zMem) (m1 : zMem), slf a2 a3 a4 a5 a6 m = some m1 → zMet w lc (kd + 3 - 1) yX2_seek cX2_seek 9 none [pR 10 0, pI a2, pL a3, pI a4, pL a5, pI a6] (m, n) (zQV w (m1, n))) : ∀ (k : Nat) (x2 : Int64) (x4 : Int32) (x5 : Int64) (x7 : Int32) (x8 : Int32) (m : zMem), s_X2_seek_L31 slf k x2 x4 x5 x7 x8 m = some m0 → zG w f 9 31 ([some (pR 10 0), none, some (pL x2), none, some (pI x4), some (pL x5), none, some (pI x7), some (pI x8)], [], (m, n)) := by
  subst hl
  intro k
  induction k with
  | zero => intro x2 x4 x5 x7 x8 m h; exact zno h
  | succ k ih =>
    intro x2 x4 x5 x7 x8 m h
    unfold s_X2_seek_L31 at h
    refine zrun hF [(.iload 8, 2, pI 0), (.aload_n 0, 1, pI 0), (.getfield 34, 3, pR 10 7)] 31 _ (by decide +kernel) ?_
    refine (And.intro rfl (And.intro rfl ?_))
    show zG w f 9 37 ([some (pR 10 0), none, some (pL x2), none, some (pI x4), some (pL x5), none, some (pI x7), some (pI x8)], [pI (m.1 10 0 7), pI x8], (m, n))
    refine zicmp_ge (tgt := 117) (pc := 37) hF (by decide +kernel) (fun b5 => ?_) (fun b5 => ?_)
    · replace h := zit b5 h
      exact zretV (pc := 117) hF hR (by decide +kernel) (congrArg (fun q => (q, n)) (Option.some.inj h))
    · replace h := zif b5 h
      refine zrun hF [(.lload_n 2, 1, pI 0), (.iload 8, 2, pI 0)] 40 _ (by decide +kernel) ?_
      show zG w f 9 43 ([some (pR 10 0), none, some (pL x2), none, some (pI x4), some (pL x5), none, some (pI x7), some (pI x8)], [pI x8, pL x2], (m, n))
      obtain ⟨r7, q6, h⟩ := zr_k h
      refine zcallSI (pc := 43) (As := [pL x2, pI x8]) (st := []) hF (m_X2_isIn  q6) w_X2_isIn k_2_78 (by decide +kernel) rfl rfl rfl (Nat.blt_eq.mpr (by omega)) ?_
      refine zif_eq (tgt := 111) (pc := 46) hF (by decide +kernel) (fun b8 => ?_) (fun b8 => ?_)
      · replace h := zit b8 h
        exact m_X2_seek_L111 rfl hF hR hslf ih _ _ _ _ _ _  h
      · replace h := zif b8 h
        refine zrun hF [(.iload 7, 2, pI 0), (.aload_n 0, 1, pI 0), (.iload 8, 2, pI 0), (.iload 4, 2, pI 0)] 49 _ (by decide +kernel) ?_
        show zG w f 9 56 ([some (pR 10 0), none, some (pL x2), none, some (pI x4), some (pL x5), none, some (pI x7), some (pI x8)], [pI x4, pI x8, pR 10 0, pI x7], (m, n))
        obtain ⟨r10, q9, h⟩ := zr_k h
        refine zcallVI (pc := 56) (As := [pI x8, pI x4]) (st := [pI x7]) (c := 10) (j := 0) hF (m_X2_roomFrom  q9) w_X2_roomFrom k_2_93 (by decide +kernel) rfl rfl rfl rfl rfl rfl (Nat.blt_eq.mpr (by omega)) ?_
        refine zrun hF [(.iadd, 1, pI 0), (.aload_n 0, 1, pI 0), (.getfield 38, 3, pR 10 8)] 59 _ (by decide +kernel) ?_
        refine (And.intro rfl (And.intro rfl ?_))
        show zG w f 9 64 ([some (pR 10 0), none, some (pL x2), none, some (pI x4), some (pL x5), none, some (pI x7), some (pI x8)], [pI (m.1 10 0 8), pI (x7 + r10)], (m, n))
        refine zicmp_gt (tgt := 68) (pc := 64) hF (by decide +kernel) (fun b11 => ?_) (fun b11 => ?_)
        · replace h := zit b11 h
          obtain ⟨c12, h⟩ := zchk h
          refine zrun hF [(.aload_n 0, 1, pI 0), (.iload 8, 2, pI 0), (.iconst 1, 1, pI 1), (.iadd, 1, pI 0), (.lload_n 2, 1, pI 0), (.aload_n 0, 1, pI 0), (.getfield 25, 3, pR 10 4), (.iload 8, 2, pI 0), (.laload, 1, pI 0), (.ldc2_w 96, 3, pL (-1)), (.lxor, 1, pI 0), (.land, 1, pI 0), (.iload 4, 2, pI 0), (.aload_n 0, 1, pI 0), (.iload 8, 2, pI 0)] 68 _ (by decide +kernel) ?_
          refine (And.intro rfl (And.intro rfl (And.intro rfl (And.intro rfl (And.intro c12 ?_)))))
          show zG w f 9 91 ([some (pR 10 0), none, some (pL x2), none, some (pI x4), some (pL x5), none, some (pI x7), some (pI x8)], [pI x8, pR 10 0, pI x4, pL (x2 &&& ((m.2 15 0 (ix x8)) ^^^ (-1))), pI (x8 + 1), pR 10 0], (m, n))
          obtain ⟨r14, q13, h⟩ := zr_k h
          refine zcallVI (pc := 91) (As := [pI x8]) (st := [pI x4, pL (x2 &&& ((m.2 15 0 (ix x8)) ^^^ (-1))), pI (x8 + 1), pR 10 0]) (c := 10) (j := 0) hF (m_X2_guestsOf  q13) w_X2_guestsOf k_2_60 (by decide +kernel) rfl rfl rfl rfl rfl rfl (Nat.blt_eq.mpr (by omega)) ?_
          refine zrun hF [(.iconst (-1), 1, pI (-1)), (.ixor, 1, pI 0), (.iand, 1, pI 0), (.lload 5, 2, pI 0), (.lconst 1, 1, pL 1), (.iload 8, 2, pI 0), (.lshl, 1, pI 0), (.lor, 1, pI 0), (.iload 7, 2, pI 0), (.iconst 1, 1, pI 1), (.iadd, 1, pI 0)] 94 _ (by decide +kernel) ?_
          show zG w f 9 108 ([some (pR 10 0), none, some (pL x2), none, some (pI x4), some (pL x5), none, some (pI x7), some (pI x8)], [pI (x7 + 1), pL (x5 ||| (jlshl 1 x8)), pI (x4 &&& (r14 ^^^ (-1))), pL (x2 &&& ((m.2 15 0 (ix x8)) ^^^ (-1))), pI (x8 + 1), pR 10 0], (m, n))
          obtain ⟨m17, q15, h⟩ := zr_k h
          refine zcallSV (pc := 108) (As := [pR 10 0, pI (x8 + 1), pL (x2 &&& ((m.2 15 0 (ix x8)) ^^^ (-1))), pI (x4 &&& (r14 ^^^ (-1))), pL (x5 ||| (jlshl 1 x8)), pI (x7 + 1)]) (st := []) hF (hslf _ _ _ _ _ _  _ q15) w_X2_seek k_2_89 (by decide +kernel) rfl rfl rfl (Nat.blt_eq.mpr (by omega)) ?_
          exact m_X2_seek_L111 rfl hF hR hslf ih _ _ _ _ _ _  h
        · replace h := zif b11 h
          exact zretV (pc := 67) hF hR (by decide +kernel) (congrArg (fun q => (q, n)) (Option.some.inj h))

set_option maxHeartbeats 4000000 in
set_option maxRecDepth 100000 in
theorem m_X2_seek_L21 {w : zWd} {f : zFr} {n : zMem} {m0 : zMem} {lc : Launch} {kd : Nat} (hl : f.2.1 = lc) (hF : zFOK w f 2 cX2_seek 9 (kd + 3)) (hR : zFin w f none (zQV w (m0, n))) {slf : Int32 → Int64 → Int32 → Int64 → Int32 → zMem → Option zMem} (hslf : ∀ (a2 : Int32) (a3 : Int64) (a4 : Int32) (a5 : Int64) (a6 : Int32) (m : zMem) (m1 : zMem), slf a2 a3 a4 a5 a6 m = some m1 → zMet w lc (kd + 3 - 1) yX2_seek cX2_seek 9 none [pR 10 0, pI a2, pL a3, pI a4, pL a5, pI a6] (m, n) (zQV w (m1, n))) : ∀ (x1 : Int32) (x2 : Int64) (x4 : Int32) (x5 : Int64) (x7 : Int32) (m : zMem), s_X2_seek_L21 slf x1 x2 x4 x5 x7 m = some m0 → zG w f 9 21 ([some (pR 10 0), some (pI x1), some (pL x2), none, some (pI x4), some (pL x5), none, some (pI x7), none], [], (m, n)) := by
  subst hl
  intro x1 x2 x4 x5 x7 m h
  unfold s_X2_seek_L21 at h
  refine zrun hF [(.iload 7, 2, pI 0), (.iconst 5, 1, pI 5)] 21 _ (by decide +kernel) ?_
  show zG w f 9 24 ([some (pR 10 0), some (pI x1), some (pL x2), none, some (pI x4), some (pL x5), none, some (pI x7), none], [pI 5, pI x7], (m, n))
  refine zicmp_lt (tgt := 28) (pc := 24) hF (by decide +kernel) (fun b4 => ?_) (fun b4 => ?_)
  · replace h := zit b4 h
    refine zrun hF [(.iload_n 1, 1, pI 0), (.istore 8, 2, pI 0)] 28 _ (by decide +kernel) ?_
    refine (And.intro rfl ?_)
    show zG w f 9 31 ([some (pR 10 0), some (pI x1), some (pL x2), none, some (pI x4), some (pL x5), none, some (pI x7), some (pI x1)], [], (m, n))
    refine zcut [true, false, true, true, true, true, true, true, true] ?_
    exact m_X2_seek_L31 rfl hF hR hslf  zF _ _ _ _ _ _  h
  · replace h := zif b4 h
    exact zretV (pc := 27) hF hR (by decide +kernel) (congrArg (fun q => (q, n)) (Option.some.inj h))

set_option maxHeartbeats 4000000 in
set_option maxRecDepth 100000 in
theorem m_X2_seek {w : zWd} {lc : Launch} {n : zMem} : ∀ (kd : Nat) (a2 : Int32) (a3 : Int64) (a4 : Int32) (a5 : Int64) (a6 : Int32) (m : zMem) (m0 : zMem), s_X2_seek kd a2 a3 a4 a5 a6 m = some m0 → zMet w lc (kd + 3 - 1) yX2_seek cX2_seek 9 none [pR 10 0, pI a2, pL a3, pI a4, pL a5, pI a6] (m, n) (zQV w (m0, n)) := by
  intro kd
  induction kd with
  | zero => intro a2 a3 a4 a5 a6 m m0 h; exact zno h
  | succ kd hslf =>
    intro a2 a3 a4 a5 a6 m m0 h
    refine zmet (o := 2) (by decide +kernel) rfl (by omega) rfl (fun f hl hF hR => ?_)
    unfold s_X2_seek at h
    replace hF : zFOK w f 2 cX2_seek 9 (kd + 3) := hF
    subst hl
    generalize hs : s_X2_seek kd = slf at h hslf
    dsimp only at h
    show zG w f 9 0 ([some (pR 10 0), some (pI a2), some (pL a3), none, some (pI a4), some (pL a5), none, some (pI a6), none], [], (m, n))
    refine zrun hF [(.iload 7, 2, pI 0), (.aload_n 0, 1, pI 0), (.getfield 38, 3, pR 10 8)] 0 _ (by decide +kernel) ?_
    refine (And.intro rfl (And.intro rfl ?_))
    show zG w f 9 6 ([some (pR 10 0), some (pI a2), some (pL a3), none, some (pI a4), some (pL a5), none, some (pI a6), none], [pI (m.1 10 0 8), pI a6], (m, n))
    refine zicmp_le (tgt := 21) (pc := 6) hF (by decide +kernel) (fun b1 => ?_) (fun b1 => ?_)
    · replace h := zit b1 h
      exact m_X2_seek_L21 rfl hF hR hslf  _ _ _ _ _ _  h
    · replace h := zif b1 h
      refine zrun hF [(.aload_n 0, 1, pI 0), (.iload 7, 2, pI 0), (.putfield 38, 3, pR 10 8)] 9 _ (by decide +kernel) ?_
      refine (And.intro rfl (And.intro rfl (And.intro trivial ?_)))
      refine zlet_k (P := fun (m2 : zMem) => zG w f 9 15 ([some (pR 10 0), some (pI a2), some (pL a3), none, some (pI a4), some (pL a5), none, some (pI a6), none], [], (m2, n))) h (fun m2 h => ?_)
      refine zrun hF [(.aload_n 0, 1, pI 0), (.lload 5, 2, pI 0), (.putfield 41, 3, pR 10 9)] 15 _ (by decide +kernel) ?_
      refine (And.intro rfl (And.intro rfl ?_))
      refine zlet_k (P := fun (m3 : zMem) => zG w f 9 21 ([some (pR 10 0), some (pI a2), some (pL a3), none, some (pI a4), some (pL a5), none, some (pI a6), none], [], (m3, n))) h (fun m3 h => ?_)
      exact m_X2_seek_L21 rfl hF hR hslf  _ _ _ _ _ _  h

set_option maxHeartbeats 4000000 in
set_option maxRecDepth 100000 in
theorem m_X2_largest {w : zWd} {lc : Launch} {n : zMem} {a1 : Int64} {a2 : Int32} {m : zMem} {x : Int64} {m0 : zMem}  (h : s_X2_largest a1 a2 m = some (x, m0)) : zMet w lc 24 yX2_largest cX2_largest 4 (some .long) [pR 10 0, pL a1, pI a2] (m, n) (zQL w x (m0, n)) := by
  refine zmet (o := 2) (by decide +kernel) rfl (Nat.le_of_ble_eq_true rfl) rfl (fun f hl hF hR => ?_)
  unfold s_X2_largest at h
  show zG w f 4 0 ([some (pR 10 0), some (pL a1), none, some (pI a2)], [], (m, n))
  refine zrun hF [(.aload_n 0, 1, pI 0), (.iload_n 3, 1, pI 0), (.putfield 38, 3, pR 10 8)] 0 _ (by decide +kernel) ?_
  refine (And.intro rfl (And.intro rfl (And.intro trivial ?_)))
  refine zlet_k (P := fun (m1 : zMem) => zG w f 4 5 ([some (pR 10 0), some (pL a1), none, some (pI a2)], [], (m1, n))) h (fun m1 h => ?_)
  refine zrun hF [(.aload_n 0, 1, pI 0), (.lconst 0, 1, pL 0), (.putfield 41, 3, pR 10 9)] 5 _ (by decide +kernel) ?_
  refine (And.intro rfl (And.intro rfl ?_))
  refine zlet_k (P := fun (m2 : zMem) => zG w f 4 10 ([some (pR 10 0), some (pL a1), none, some (pI a2)], [], (m2, n))) h (fun m2 h => ?_)
  refine zrun hF [(.aload_n 0, 1, pI 0), (.iconst 0, 1, pI 0), (.lload_n 1, 1, pI 0), (.aload_n 0, 1, pI 0), (.lload_n 1, 1, pI 0)] 10 _ (by decide +kernel) ?_
  show zG w f 4 15 ([some (pR 10 0), some (pL a1), none, some (pI a2)], [pL a1, pR 10 0, pL a1, pI 0, pR 10 0], (m2, n))
  obtain ⟨r4, q3, h⟩ := zr_k h
  refine zcallVI (pc := 15) (As := [pL a1]) (st := [pL a1, pI 0, pR 10 0]) (c := 10) (j := 0) hF (m_X2_guestsIn  q3) w_X2_guestsIn k_2_85 (by decide +kernel) rfl rfl rfl rfl rfl rfl rfl ?_
  refine zrun hF [(.lconst 0, 1, pL 0), (.iconst 0, 1, pI 0)] 18 _ (by decide +kernel) ?_
  show zG w f 4 20 ([some (pR 10 0), some (pL a1), none, some (pI a2)], [pI 0, pL 0, pI r4, pL a1, pI 0, pR 10 0], (m2, n))
  obtain ⟨m7, q5, h⟩ := zr_k h
  refine zcallSV (pc := 20) (As := [pR 10 0, pI 0, pL a1, pI r4, pL 0, pI 0]) (st := []) hF (m_X2_seek zF0 _ _ _ _ _ _  _ q5) w_X2_seek k_2_89 (by decide +kernel) rfl rfl rfl rfl ?_
  refine zrun hF [(.aload_n 0, 1, pI 0), (.getfield 41, 3, pR 10 9)] 23 _ (by decide +kernel) ?_
  refine (And.intro rfl (And.intro rfl ?_))
  show zG w f 4 27 ([some (pR 10 0), some (pL a1), none, some (pI a2)], [pL (m7.2 10 0 9)], (m7, n))
  exact zretL (pc := 27) hF hR (by decide +kernel) (congrArg Prod.fst (Option.some.inj h)) (congrArg (fun (q : Int64 × zMem) => (q.2, n)) (Option.some.inj h))

set_option maxHeartbeats 4000000 in
set_option maxRecDepth 100000 in
theorem m_X2_pairAt_L36 {w : zWd} {f : zFr} {n : zMem} {x : Int32} {lc : Launch} {mr : zMem} (hl : f.2.1 = lc) (hF : zFOK w f 2 cX2_pairAt 6 2) (hR : zFin w f (some .int) (zQI w x (mr, n))) {k6 : Int64 → Int32 → Int32 → Int32 → zMem → Option Int32} (hk6 : ∀ (x1 : Int64) (x3 : Int32) (x4 : Int32) (x5 : Int32) (m : zMem), m = mr → k6 x1 x3 x4 x5 m = some x → zG w f 6 6 ([some (pR 10 0), some (pL x1), none, some (pI x3), some (pI x4), some (pI x5)], [], (m, n))) : ∀ (x1 : Int64) (x3 : Int32) (x4 : Int32) (x5 : Int32) (m : zMem), m = mr → s_X2_pairAt_L36 k6 x1 x3 x4 x5 m = some x → zG w f 6 36 ([some (pR 10 0), some (pL x1), none, some (pI x3), some (pI x4), some (pI x5)], [], (m, n)) := by
  intro x1 x3 x4 x5 m hm h
  unfold s_X2_pairAt_L36 at h
  refine zrun hF [(.iinc 5 1, 3, pI 1)] 36 _ (by decide +kernel) ?_
  refine (And.intro rfl ?_)
  show zG w f 6 39 ([some (pR 10 0), some (pL x1), none, some (pI x3), some (pI x4), some (pI (x5 + 1))], [], (m, n))
  refine zgoto (tgt := 6) (pc := 39) hF (by decide +kernel) ?_
  exact hk6 _ _ _ _ _  hm h

set_option maxHeartbeats 4000000 in
set_option maxRecDepth 100000 in
theorem m_X2_pairAt_L6 {w : zWd} {f : zFr} {n : zMem} {x : Int32} {lc : Launch} {mr : zMem} (hl : f.2.1 = lc) (hF : zFOK w f 2 cX2_pairAt 6 2) (hR : zFin w f (some .int) (zQI w x (mr, n))) : ∀ (k : Nat) (x1 : Int64) (x3 : Int32) (x4 : Int32) (x5 : Int32) (m : zMem), m = mr → s_X2_pairAt_L6 k x1 x3 x4 x5 m = some x → zG w f 6 6 ([some (pR 10 0), some (pL x1), none, some (pI x3), some (pI x4), some (pI x5)], [], (m, n)) := by
  intro k
  induction k with
  | zero => intro x1 x3 x4 x5 m hm h; exact zno h
  | succ k ih =>
    intro x1 x3 x4 x5 m hm h
    unfold s_X2_pairAt_L6 at h
    refine zrun hF [(.iload 5, 2, pI 0), (.aload_n 0, 1, pI 0), (.getfield 34, 3, pR 10 7)] 6 _ (by decide +kernel) ?_
    refine (And.intro rfl (And.intro rfl ?_))
    show zG w f 6 12 ([some (pR 10 0), some (pL x1), none, some (pI x3), some (pI x4), some (pI x5)], [pI (m.1 10 0 7), pI x5], (m, n))
    refine zicmp_ge (tgt := 42) (pc := 12) hF (by decide +kernel) (fun b1 => ?_) (fun b1 => ?_)
    · replace h := zit b1 h
      refine zrun hF [(.iconst (-1), 1, pI (-1))] 42 _ (by decide +kernel) ?_
      show zG w f 6 43 ([some (pR 10 0), some (pL x1), none, some (pI x3), some (pI x4), some (pI x5)], [pI (-1)], (m, n))
      exact zretI (pc := 43) hF hR (by decide +kernel) rfl (Option.some.inj h) (congrArg (fun q => (q, n)) hm)
    · replace h := zif b1 h
      refine zrun hF [(.lload_n 1, 1, pI 0), (.iload 5, 2, pI 0)] 15 _ (by decide +kernel) ?_
      show zG w f 6 18 ([some (pR 10 0), some (pL x1), none, some (pI x3), some (pI x4), some (pI x5)], [pI x5, pL x1], (m, n))
      obtain ⟨r3, q2, h⟩ := zr_k h
      refine zcallSI (pc := 18) (As := [pL x1, pI x5]) (st := []) hF (m_X2_isIn  q2) w_X2_isIn k_2_78 (by decide +kernel) rfl rfl rfl rfl ?_
      refine zif_eq (tgt := 36) (pc := 21) hF (by decide +kernel) (fun b4 => ?_) (fun b4 => ?_)
      · replace h := zit b4 h
        exact m_X2_pairAt_L36 hl hF hR ih _ _ _ _ _  hm h
      · replace h := zif b4 h
        refine zrun hF [(.iload 4, 2, pI 0), (.iload_n 3, 1, pI 0)] 24 _ (by decide +kernel) ?_
        show zG w f 6 27 ([some (pR 10 0), some (pL x1), none, some (pI x3), some (pI x4), some (pI x5)], [pI x3, pI x4], (m, n))
        refine zicmp_ne (tgt := 33) (pc := 27) hF (by decide +kernel) (fun b5 => ?_) (fun b5 => ?_)
        · replace h := zit b5 h
          refine zrun hF [(.iload 5, 2, pI 0)] 30 _ (by decide +kernel) ?_
          show zG w f 6 32 ([some (pR 10 0), some (pL x1), none, some (pI x3), some (pI x4), some (pI x5)], [pI x5], (m, n))
          exact zretI (pc := 32) hF hR (by decide +kernel) rfl (Option.some.inj h) (congrArg (fun q => (q, n)) hm)
        · replace h := zif b5 h
          refine zrun hF [(.iinc 4 1, 3, pI 1)] 33 _ (by decide +kernel) ?_
          refine (And.intro rfl ?_)
          show zG w f 6 36 ([some (pR 10 0), some (pL x1), none, some (pI x3), some (pI (x4 + 1)), some (pI x5)], [], (m, n))
          exact m_X2_pairAt_L36 hl hF hR ih _ _ _ _ _  hm h

set_option maxHeartbeats 4000000 in
set_option maxRecDepth 100000 in
theorem m_X2_pairAt {w : zWd} {lc : Launch} {n : zMem} {a1 : Int64} {a2 : Int32} {m : zMem} {x : Int32}  (h : s_X2_pairAt a1 a2 m = some x) : zMet w lc 2 yX2_pairAt cX2_pairAt 6 (some .int) [pR 10 0, pL a1, pI a2] (m, n) (zQI w x (m, n)) := by
  refine zmet (o := 2) (by decide +kernel) rfl (Nat.le_of_ble_eq_true rfl) rfl (fun f hl hF hR => ?_)
  unfold s_X2_pairAt at h
  show zG w f 6 0 ([some (pR 10 0), some (pL a1), none, some (pI a2), none, none], [], (m, n))
  refine zrun hF [(.iconst 0, 1, pI 0), (.istore 4, 2, pI 0), (.iconst 0, 1, pI 0), (.istore 5, 2, pI 0)] 0 _ (by decide +kernel) ?_
  refine (And.intro rfl (And.intro rfl ?_))
  show zG w f 6 6 ([some (pR 10 0), some (pL a1), none, some (pI a2), some (pI 0), some (pI 0)], [], (m, n))
  exact m_X2_pairAt_L6 hl hF hR  zF _ _ _ _ _  rfl h

set_option maxHeartbeats 4000000 in
set_option maxRecDepth 100000 in
theorem m_J13_bitCount_95d88 {w : zWd} {lc : Launch} {M : zWM} {a1 : Int64} {x : Int32}  (h : s_J13_bitCount_95d88 a1 = some x) : zMet w lc 1 yJ13_bitCount_95d88 cJ13_bitCount_95d88 2 (some .int) [pL a1] M (zQI w x M) := by
  refine zmet (o := 10) (by decide +kernel) rfl (Nat.le_of_ble_eq_true rfl) rfl (fun f hl hF hR => ?_)
  unfold s_J13_bitCount_95d88 at h
  show zG w f 2 0 ([some (pL a1), none], [], M)
  refine zrun hF [(.lload_n 0, 1, pI 0), (.lload_n 0, 1, pI 0), (.iconst 1, 1, pI 1), (.lushr, 1, pI 0), (.ldc2_w 314, 3, pL 6148914691236517205), (.land, 1, pI 0), (.lsub, 1, pI 0), (.lstore_n 0, 1, pI 0)] 0 _ (by decide +kernel) ?_
  refine (And.intro rfl ?_)
  refine zlet_k (P := fun (v1 : Int64) => zG w f 2 10 ([some (pL v1), none], [], M)) h (fun v1 h => ?_)
  refine zrun hF [(.lload_n 0, 1, pI 0), (.ldc2_w 316, 3, pL 3689348814741910323), (.land, 1, pI 0), (.lload_n 0, 1, pI 0), (.iconst 2, 1, pI 2), (.lushr, 1, pI 0), (.ldc2_w 316, 3, pL 3689348814741910323), (.land, 1, pI 0), (.ladd, 1, pI 0), (.lstore_n 0, 1, pI 0)] 10 _ (by decide +kernel) ?_
  refine (And.intro rfl ?_)
  refine zlet_k (P := fun (v2 : Int64) => zG w f 2 24 ([some (pL v2), none], [], M)) h (fun v2 h => ?_)
  refine zrun hF [(.lload_n 0, 1, pI 0), (.lload_n 0, 1, pI 0), (.iconst 4, 1, pI 4), (.lushr, 1, pI 0), (.ladd, 1, pI 0), (.ldc2_w 318, 3, pL 1085102592571150095), (.land, 1, pI 0), (.lstore_n 0, 1, pI 0)] 24 _ (by decide +kernel) ?_
  refine (And.intro rfl ?_)
  refine zlet_k (P := fun (v3 : Int64) => zG w f 2 34 ([some (pL v3), none], [], M)) h (fun v3 h => ?_)
  refine zrun hF [(.lload_n 0, 1, pI 0), (.lload_n 0, 1, pI 0), (.bipush 8, 2, pI 8), (.lushr, 1, pI 0), (.ladd, 1, pI 0), (.lstore_n 0, 1, pI 0)] 34 _ (by decide +kernel) ?_
  refine (And.intro rfl ?_)
  refine zlet_k (P := fun (v4 : Int64) => zG w f 2 41 ([some (pL v4), none], [], M)) h (fun v4 h => ?_)
  refine zrun hF [(.lload_n 0, 1, pI 0), (.lload_n 0, 1, pI 0), (.bipush 16, 2, pI 16), (.lushr, 1, pI 0), (.ladd, 1, pI 0), (.lstore_n 0, 1, pI 0)] 41 _ (by decide +kernel) ?_
  refine (And.intro rfl ?_)
  refine zlet_k (P := fun (v5 : Int64) => zG w f 2 48 ([some (pL v5), none], [], M)) h (fun v5 h => ?_)
  refine zrun hF [(.lload_n 0, 1, pI 0), (.lload_n 0, 1, pI 0), (.bipush 32, 2, pI 32), (.lushr, 1, pI 0), (.ladd, 1, pI 0), (.lstore_n 0, 1, pI 0)] 48 _ (by decide +kernel) ?_
  refine (And.intro rfl ?_)
  refine zlet_k (P := fun (v6 : Int64) => zG w f 2 55 ([some (pL v6), none], [], M)) h (fun v6 h => ?_)
  refine zrun hF [(.lload_n 0, 1, pI 0), (.l2i, 1, pI 0), (.bipush 127, 2, pI 127), (.iand, 1, pI 0)] 55 _ (by decide +kernel) ?_
  show zG w f 2 60 ([some (pL v6), none], [pI ((Int64.toInt32 v6) &&& 127)], M)
  exact zretI (pc := 60) hF hR (by decide +kernel) rfl (Option.some.inj h) rfl

set_option maxHeartbeats 4000000 in
set_option maxRecDepth 100000 in
theorem m_X6_pairOrCount {w : zWd} {lc : Launch} {n : zMem} {a1 : Int64} {a2 : Int32} {m : zMem} {x : Int32} {m0 : zMem}  (h : s_X6_pairOrCount a1 a2 m = some (x, m0)) : zMet w lc 3 yX6_pairOrCount cX6_pairOrCount 5 (some .int) [pR 0 0, pL a1, pI a2] (m, n) (zQI w x (m0, n)) := by
  refine zmet (o := 6) (by decide +kernel) rfl (Nat.le_of_ble_eq_true rfl) rfl (fun f hl hF hR => ?_)
  unfold s_X6_pairOrCount at h
  show zG w f 5 0 ([some (pR 0 0), some (pL a1), none, some (pI a2), none], [], (m, n))
  refine zrun hF [(.iload_n 3, 1, pI 0), (.iconst (-1), 1, pI (-1))] 0 _ (by decide +kernel) ?_
  show zG w f 5 2 ([some (pR 0 0), some (pL a1), none, some (pI a2), none], [pI (-1), pI a2], (m, n))
  refine zicmp_ne (tgt := 10) (pc := 2) hF (by decide +kernel) (fun b1 => ?_) (fun b1 => ?_)
  · replace h := zit b1 h
    refine zrun hF [(.lload_n 1, 1, pI 0)] 5 _ (by decide +kernel) ?_
    show zG w f 5 6 ([some (pR 0 0), some (pL a1), none, some (pI a2), none], [pL a1], (m, n))
    obtain ⟨r3, q2, h⟩ := zr_k h
    refine zcallSI (pc := 6) (As := [pL a1]) (st := []) hF (m_J13_bitCount_95d88  q2) w_J13_bitCount_95d88 k_6_286 (by decide +kernel) rfl rfl rfl rfl ?_
    exact zretI (pc := 9) hF hR (by decide +kernel) rfl (congrArg Prod.fst (Option.some.inj h)) (congrArg (fun (q : Int32 × zMem) => (q.2, n)) (Option.some.inj h))
  · replace h := zif b1 h
    refine zrun hF [(.aload_n 0, 1, pI 0), (.getfield 35, 3, pR 0 5), (.lload_n 1, 1, pI 0), (.iload_n 3, 1, pI 0)] 10 _ (by decide +kernel) ?_
    refine (And.intro rfl (And.intro rfl ?_))
    show zG w f 5 16 ([some (pR 0 0), some (pL a1), none, some (pI a2), none], [pI a2, pL a1, pR 10 0], (m, n))
    obtain ⟨r5, q4, h⟩ := zr_k h
    refine zcallVI (pc := 16) (As := [pL a1, pI a2]) (st := []) (c := 10) (j := 0) hF (m_X2_pairAt  q4) w_X2_pairAt k_6_366 (by decide +kernel) rfl rfl rfl rfl rfl rfl rfl ?_
    refine zrun hF [(.istore 4, 2, pI 0), (.iload 4, 2, pI 0), (.iconst (-1), 1, pI (-1))] 19 _ (by decide +kernel) ?_
    refine (And.intro rfl ?_)
    show zG w f 5 24 ([some (pR 0 0), some (pL a1), none, some (pI a2), some (pI r5)], [pI (-1), pI r5], (m, n))
    refine zicmp_ne (tgt := 36) (pc := 24) hF (by decide +kernel) (fun b6 => ?_) (fun b6 => ?_)
    · replace h := zit b6 h
      refine zrun hF [(.aload_n 0, 1, pI 0), (.bipush (-5), 2, pI (-5))] 27 _ (by decide +kernel) ?_
      show zG w f 5 30 ([some (pR 0 0), some (pL a1), none, some (pI a2), some (pI r5)], [pI (-5), pR 0 0], (m, n))
      obtain ⟨r8, m9, q7, h⟩ := zb_k h
      refine zcallVI (pc := 30) (As := [pI (-5)]) (st := []) (c := 0) (j := 0) hF (m_X6_refuse  q7) w_X6_refuse k_6_73 (by decide +kernel) rfl rfl rfl rfl rfl rfl rfl ?_
      refine zgoto (tgt := 45) (pc := 33) hF (by decide +kernel) ?_
      exact zretI (pc := 45) hF hR (by decide +kernel) rfl (congrArg Prod.fst (Option.some.inj h)) (congrArg (fun (q : Int32 × zMem) => (q.2, n)) (Option.some.inj h))
    · replace h := zif b6 h
      refine zrun hF [(.aload_n 0, 1, pI 0), (.getfield 35, 3, pR 0 5), (.iload 4, 2, pI 0)] 36 _ (by decide +kernel) ?_
      refine (And.intro rfl (And.intro rfl ?_))
      show zG w f 5 42 ([some (pR 0 0), some (pL a1), none, some (pI a2), some (pI r5)], [pI r5, pR 10 0], (m, n))
      obtain ⟨r11, q10, h⟩ := zr_k h
      refine zcallVI (pc := 42) (As := [pI r5]) (st := []) (c := 10) (j := 0) hF (m_X2_codeOf  q10) w_X2_codeOf k_6_215 (by decide +kernel) rfl rfl rfl rfl rfl rfl rfl ?_
      exact zretI (pc := 45) hF hR (by decide +kernel) rfl (congrArg Prod.fst (Option.some.inj h)) (congrArg (fun (q : Int32 × zMem) => (q.2, n)) (Option.some.inj h))

set_option maxHeartbeats 4000000 in
set_option maxRecDepth 100000 in
theorem m_X6_most {w : zWd} {lc : Launch} {n : zMem} {a1 : Int32} {m : zMem} {x : Int32} {m0 : zMem}  (h : s_X6_most a1 m = some (x, m0)) : zMet w lc 25 yX6_most cX6_most 2 (some .int) [pR 0 0, pI a1] (m, n) (zQI w x (m0, n)) := by
  refine zmet (o := 6) (by decide +kernel) rfl (Nat.le_of_ble_eq_true rfl) rfl (fun f hl hF hR => ?_)
  unfold s_X6_most at h
  show zG w f 2 0 ([some (pR 0 0), some (pI a1)], [], (m, n))
  refine zrun hF [(.aload_n 0, 1, pI 0), (.getfield 35, 3, pR 0 5), (.aload_n 0, 1, pI 0), (.getfield 10, 3, pR 0 0)] 0 _ (by decide +kernel) ?_
  refine (And.intro rfl (And.intro rfl (And.intro rfl (And.intro rfl ?_))))
  show zG w f 2 8 ([some (pR 0 0), some (pI a1)], [pR 1 0, pR 10 0], (m, n))
  obtain ⟨m3, q1, h⟩ := zr_k h
  refine zcallVV (pc := 8) (As := [pR 1 0]) (st := []) (c := 10) (j := 0) hF (m_X2_draw rfl q1) w_X2_draw k_6_211 (by decide +kernel) rfl rfl rfl rfl rfl rfl rfl ?_
  refine zrun hF [(.aload_n 0, 1, pI 0), (.aload_n 0, 1, pI 0), (.getfield 35, 3, pR 0 5), (.aload_n 0, 1, pI 0), (.getfield 35, 3, pR 0 5)] 11 _ (by decide +kernel) ?_
  refine (And.intro rfl (And.intro rfl (And.intro rfl (And.intro rfl ?_))))
  show zG w f 2 20 ([some (pR 0 0), some (pI a1)], [pR 10 0, pR 10 0, pR 0 0], (m3, n))
  obtain ⟨r5, q4, h⟩ := zr_k h
  refine zcallVL (pc := 20) (As := []) (st := [pR 10 0, pR 0 0]) (c := 10) (j := 0) hF (m_X2_all  q4) w_X2_all k_6_218 (by decide +kernel) rfl rfl rfl rfl rfl rfl rfl ?_
  refine zrun hF [(.iconst 0, 1, pI 0)] 23 _ (by decide +kernel) ?_
  show zG w f 2 24 ([some (pR 0 0), some (pI a1)], [pI 0, pL r5, pR 10 0, pR 0 0], (m3, n))
  obtain ⟨r7, m8, q6, h⟩ := zb_k h
  refine zcallVL (pc := 24) (As := [pL r5, pI 0]) (st := [pR 0 0]) (c := 10) (j := 0) hF (m_X2_largest  q6) w_X2_largest k_6_222 (by decide +kernel) rfl rfl rfl rfl rfl rfl rfl ?_
  refine zrun hF [(.iload_n 1, 1, pI 0)] 27 _ (by decide +kernel) ?_
  show zG w f 2 28 ([some (pR 0 0), some (pI a1)], [pI a1, pL r7, pR 0 0], (m8, n))
  obtain ⟨r10, m11, q9, h⟩ := zb_k h
  refine zcallVI (pc := 28) (As := [pL r7, pI a1]) (st := []) (c := 0) (j := 0) hF (m_X6_pairOrCount  q9) w_X6_pairOrCount k_6_226 (by decide +kernel) rfl rfl rfl rfl rfl rfl rfl ?_
  exact zretI (pc := 31) hF hR (by decide +kernel) rfl (congrArg Prod.fst (Option.some.inj h)) (congrArg (fun (q : Int32 × zMem) => (q.2, n)) (Option.some.inj h))

set_option maxHeartbeats 4000000 in
set_option maxRecDepth 100000 in
theorem m_X7_fits_L2 {w : zWd} {f : zFr} {n : zMem} {x : Int32} {lc : Launch} {mr : zMem} (hl : f.2.1 = lc) (hF : zFOK w f 7 cX7_fits 5 3) (hR : zFin w f (some .boolean) (zQI w x (n, mr))) : ∀ (k : Nat) (x1 : Int32) (x2 : Int32) (x3 : Int32) (m : zMem), m = mr → s_X7_fits_L2 k x1 x2 x3 m = some x → zG w f 5 2 ([some (pR 64 0), some (pI x1), some (pI x2), some (pI x3), none], [], (n, m)) := by
  intro k
  induction k with
  | zero => intro x1 x2 x3 m hm h; exact zno h
  | succ k ih =>
    intro x1 x2 x3 m hm h
    unfold s_X7_fits_L2 at h
    refine zrun hF [(.iload_n 3, 1, pI 0), (.iload_n 2, 1, pI 0)] 2 _ (by decide +kernel) ?_
    show zG w f 5 4 ([some (pR 64 0), some (pI x1), some (pI x2), some (pI x3), none], [pI x2, pI x3], (n, m))
    refine zicmp_ge (tgt := 122) (pc := 4) hF (by decide +kernel) (fun b1 => ?_) (fun b1 => ?_)
    · replace h := zit b1 h
      refine zrun hF [(.iconst 1, 1, pI 1)] 122 _ (by decide +kernel) ?_
      show zG w f 5 123 ([some (pR 64 0), some (pI x1), some (pI x2), some (pI x3), none], [pI 1], (n, m))
      exact zretI (pc := 123) hF hR (by decide +kernel) (by decide +kernel) (Option.some.inj h) (congrArg (fun q => (n, q)) hm)
    · replace h := zif b1 h
      obtain ⟨c2, h⟩ := zchk h
      refine zrun hF [(.aload_n 0, 1, pI 0), (.getfield 75, 3, pR 64 31), (.iload_n 3, 1, pI 0), (.iaload, 1, pI 0), (.istore 4, 2, pI 0)] 7 _ (by decide +kernel) ?_
      refine (And.intro rfl (And.intro rfl (And.intro rfl (And.intro rfl (And.intro c2 (And.intro rfl ?_))))))
      refine zlet_k (P := fun (v3 : Int32) => zG w f 5 15 ([some (pR 64 0), some (pI x1), some (pI x2), some (pI x3), some (pI v3)], [], (n, m))) h (fun v3 h => ?_)
      obtain ⟨c4, h⟩ := zchk h
      obtain ⟨c5, h⟩ := zchk h
      refine zrun hF [(.aload_n 0, 1, pI 0), (.getfield 69, 3, pR 64 28), (.iload 4, 2, pI 0), (.iaload, 1, pI 0), (.aload_n 0, 1, pI 0), (.getfield 69, 3, pR 64 28), (.iload_n 1, 1, pI 0), (.iaload, 1, pI 0)] 15 _ (by decide +kernel) ?_
      refine (And.intro rfl (And.intro rfl (And.intro rfl (And.intro rfl (And.intro c4 (And.intro rfl (And.intro rfl (And.intro rfl (And.intro rfl (And.intro c5 ?_))))))))))
      show zG w f 5 28 ([some (pR 64 0), some (pI x1), some (pI x2), some (pI x3), some (pI v3)], [pI (m.1 81 0 (ix x1)), pI (m.1 81 0 (ix v3))], (n, m))
      refine zicmp_eq (tgt := 79) (pc := 28) hF (by decide +kernel) (fun b6 => ?_) (fun b6 => ?_)
      · replace h := zit b6 h
        refine zrun hF [(.iconst 0, 1, pI 0)] 79 _ (by decide +kernel) ?_
        show zG w f 5 80 ([some (pR 64 0), some (pI x1), some (pI x2), some (pI x3), some (pI v3)], [pI 0], (n, m))
        exact zretI (pc := 80) hF hR (by decide +kernel) (by decide +kernel) (Option.some.inj h) (congrArg (fun q => (n, q)) hm)
      · replace h := zif b6 h
        refine zrun hF [(.aload_n 0, 1, pI 0), (.getfield 69, 3, pR 64 28), (.iload 4, 2, pI 0), (.iaload, 1, pI 0), (.aload_n 0, 1, pI 0), (.getfield 72, 3, pR 64 29), (.iload_n 1, 1, pI 0), (.iaload, 1, pI 0)] 31 _ (by decide +kernel) ?_
        refine (And.intro rfl (And.intro rfl (And.intro rfl (And.intro rfl (And.intro c4 (And.intro rfl (And.intro rfl (And.intro rfl (And.intro rfl (And.intro c5 ?_))))))))))
        show zG w f 5 44 ([some (pR 64 0), some (pI x1), some (pI x2), some (pI x3), some (pI v3)], [pI (m.1 82 0 (ix x1)), pI (m.1 81 0 (ix v3))], (n, m))
        refine zicmp_eq (tgt := 79) (pc := 44) hF (by decide +kernel) (fun b7 => ?_) (fun b7 => ?_)
        · replace h := zit b7 h
          refine zrun hF [(.iconst 0, 1, pI 0)] 79 _ (by decide +kernel) ?_
          show zG w f 5 80 ([some (pR 64 0), some (pI x1), some (pI x2), some (pI x3), some (pI v3)], [pI 0], (n, m))
          exact zretI (pc := 80) hF hR (by decide +kernel) (by decide +kernel) (Option.some.inj h) (congrArg (fun q => (n, q)) hm)
        · replace h := zif b7 h
          refine zrun hF [(.aload_n 0, 1, pI 0), (.getfield 72, 3, pR 64 29), (.iload 4, 2, pI 0), (.iaload, 1, pI 0), (.aload_n 0, 1, pI 0), (.getfield 69, 3, pR 64 28), (.iload_n 1, 1, pI 0), (.iaload, 1, pI 0)] 47 _ (by decide +kernel) ?_
          refine (And.intro rfl (And.intro rfl (And.intro rfl (And.intro rfl (And.intro c4 (And.intro rfl (And.intro rfl (And.intro rfl (And.intro rfl (And.intro c5 ?_))))))))))
          show zG w f 5 60 ([some (pR 64 0), some (pI x1), some (pI x2), some (pI x3), some (pI v3)], [pI (m.1 81 0 (ix x1)), pI (m.1 82 0 (ix v3))], (n, m))
          refine zicmp_eq (tgt := 79) (pc := 60) hF (by decide +kernel) (fun b8 => ?_) (fun b8 => ?_)
          · replace h := zit b8 h
            refine zrun hF [(.iconst 0, 1, pI 0)] 79 _ (by decide +kernel) ?_
            show zG w f 5 80 ([some (pR 64 0), some (pI x1), some (pI x2), some (pI x3), some (pI v3)], [pI 0], (n, m))
            exact zretI (pc := 80) hF hR (by decide +kernel) (by decide +kernel) (Option.some.inj h) (congrArg (fun q => (n, q)) hm)
          · replace h := zif b8 h
            refine zrun hF [(.aload_n 0, 1, pI 0), (.getfield 72, 3, pR 64 29), (.iload 4, 2, pI 0), (.iaload, 1, pI 0), (.aload_n 0, 1, pI 0), (.getfield 72, 3, pR 64 29), (.iload_n 1, 1, pI 0), (.iaload, 1, pI 0)] 63 _ (by decide +kernel) ?_
            refine (And.intro rfl (And.intro rfl (And.intro rfl (And.intro rfl (And.intro c4 (And.intro rfl (And.intro rfl (And.intro rfl (And.intro rfl (And.intro c5 ?_))))))))))
            show zG w f 5 76 ([some (pR 64 0), some (pI x1), some (pI x2), some (pI x3), some (pI v3)], [pI (m.1 82 0 (ix x1)), pI (m.1 82 0 (ix v3))], (n, m))
            refine zicmp_ne (tgt := 81) (pc := 76) hF (by decide +kernel) (fun b9 => ?_) (fun b9 => ?_)
            · replace h := zit b9 h
              refine zrun hF [(.iconst 0, 1, pI 0)] 79 _ (by decide +kernel) ?_
              show zG w f 5 80 ([some (pR 64 0), some (pI x1), some (pI x2), some (pI x3), some (pI v3)], [pI 0], (n, m))
              exact zretI (pc := 80) hF hR (by decide +kernel) (by decide +kernel) (Option.some.inj h) (congrArg (fun q => (n, q)) hm)
            · replace h := zif b9 h
              refine zrun hF [(.aload_n 0, 1, pI 0), (.aload_n 0, 1, pI 0), (.getfield 69, 3, pR 64 28), (.iload 4, 2, pI 0), (.iaload, 1, pI 0), (.aload_n 0, 1, pI 0), (.getfield 72, 3, pR 64 29), (.iload 4, 2, pI 0), (.iaload, 1, pI 0), (.aload_n 0, 1, pI 0), (.getfield 69, 3, pR 64 28), (.iload_n 1, 1, pI 0), (.iaload, 1, pI 0), (.aload_n 0, 1, pI 0), (.getfield 72, 3, pR 64 29), (.iload_n 1, 1, pI 0), (.iaload, 1, pI 0)] 81 _ (by decide +kernel) ?_
              refine (And.intro rfl (And.intro rfl (And.intro rfl (And.intro rfl (And.intro c4 (And.intro rfl (And.intro rfl (And.intro rfl (And.intro rfl (And.intro c4 (And.intro rfl (And.intro rfl (And.intro rfl (And.intro rfl (And.intro c5 (And.intro rfl (And.intro rfl (And.intro rfl (And.intro rfl (And.intro c5 ?_))))))))))))))))))))
              show zG w f 5 108 ([some (pR 64 0), some (pI x1), some (pI x2), some (pI x3), some (pI v3)], [pI (m.1 82 0 (ix x1)), pI (m.1 81 0 (ix x1)), pI (m.1 82 0 (ix v3)), pI (m.1 81 0 (ix v3)), pR 64 0], (n, m))
              obtain ⟨r11, q10, h⟩ := zr_k h
              refine zcallVI (pc := 108) (As := [pI (m.1 81 0 (ix v3)), pI (m.1 82 0 (ix v3)), pI (m.1 81 0 (ix x1)), pI (m.1 82 0 (ix x1))]) (st := []) (c := 64) (j := 0) hF (m_X7_crosses  q10) w_X7_crosses k_7_215 (by decide +kernel) rfl rfl rfl rfl rfl rfl rfl ?_
              refine zif_eq (tgt := 116) (pc := 111) hF (by decide +kernel) (fun b12 => ?_) (fun b12 => ?_)
              · replace h := zit b12 h
                refine zrun hF [(.iinc 3 1, 3, pI 1)] 116 _ (by decide +kernel) ?_
                refine (And.intro rfl ?_)
                show zG w f 5 119 ([some (pR 64 0), some (pI x1), some (pI x2), some (pI (x3 + 1)), some (pI v3)], [], (n, m))
                refine zgoto (tgt := 2) (pc := 119) hF (by decide +kernel) ?_
                refine zcut [true, true, true, true, false] ?_
                exact ih _ _ _ _  hm h
              · replace h := zif b12 h
                refine zrun hF [(.iconst 0, 1, pI 0)] 114 _ (by decide +kernel) ?_
                show zG w f 5 115 ([some (pR 64 0), some (pI x1), some (pI x2), some (pI x3), some (pI v3)], [pI 0], (n, m))
                exact zretI (pc := 115) hF hR (by decide +kernel) (by decide +kernel) (Option.some.inj h) (congrArg (fun q => (n, q)) hm)

set_option maxHeartbeats 4000000 in
set_option maxRecDepth 100000 in
theorem m_X7_fits {w : zWd} {lc : Launch} {n : zMem} {a1 : Int32} {a2 : Int32} {m : zMem} {x : Int32}  (h : s_X7_fits a1 a2 m = some x) : zMet w lc 3 yX7_fits cX7_fits 5 (some .boolean) [pR 64 0, pI a1, pI a2] (n, m) (zQI w x (n, m)) := by
  refine zmet (o := 7) (by decide +kernel) rfl (Nat.le_of_ble_eq_true rfl) rfl (fun f hl hF hR => ?_)
  unfold s_X7_fits at h
  show zG w f 5 0 ([some (pR 64 0), some (pI a1), some (pI a2), none, none], [], (n, m))
  refine zrun hF [(.iconst 0, 1, pI 0), (.istore_n 3, 1, pI 0)] 0 _ (by decide +kernel) ?_
  refine (And.intro rfl ?_)
  show zG w f 5 2 ([some (pR 64 0), some (pI a1), some (pI a2), some (pI 0), none], [], (n, m))
  exact m_X7_fits_L2 hl hF hR  zF _ _ _ _  rfl h

set_option maxHeartbeats 4000000 in
set_option maxRecDepth 100000 in
theorem m_X7_chooses_L100 {w : zWd} {f : zFr} {n : zMem} {m0 : zMem} {lc : Launch} {kd : Nat} (hl : f.2.1 = lc) (hF : zFOK w f 7 cX7_chooses 4 (kd + 4)) (hR : zFin w f none (zQV w (n, m0))) {slf : Int32 → Int32 → zMem → Option zMem} (hslf : ∀ (a1 : Int32) (a2 : Int32) (m : zMem) (m1 : zMem), slf a1 a2 m = some m1 → zMet w lc (kd + 4 - 1) yX7_chooses cX7_chooses 4 none [pR 64 0, pI a1, pI a2] (n, m) (zQV w (n, m1))) {k63 : Int32 → Int32 → zMem → Option zMem} (hk63 : ∀ (x2 : Int32) (x3 : Int32) (m : zMem), k63 x2 x3 m = some m0 → zG w f 4 63 ([some (pR 64 0), none, some (pI x2), some (pI x3)], [], (n, m))) : ∀ (x2 : Int32) (x3 : Int32) (m : zMem), s_X7_chooses_L100 slf k63 x2 x3 m = some m0 → zG w f 4 100 ([some (pR 64 0), none, some (pI x2), some (pI x3)], [], (n, m)) := by
  subst hl
  intro x2 x3 m h
  unfold s_X7_chooses_L100 at h
  refine zrun hF [(.iinc 3 1, 3, pI 1)] 100 _ (by decide +kernel) ?_
  refine (And.intro rfl ?_)
  show zG w f 4 103 ([some (pR 64 0), none, some (pI x2), some (pI (x3 + 1))], [], (n, m))
  refine zgoto (tgt := 63) (pc := 103) hF (by decide +kernel) ?_
  exact hk63 _ _ _  h

set_option maxHeartbeats 4000000 in
set_option maxRecDepth 100000 in
theorem m_X7_chooses_L63 {w : zWd} {f : zFr} {n : zMem} {m0 : zMem} {lc : Launch} {kd : Nat} (hl : f.2.1 = lc) (hF : zFOK w f 7 cX7_chooses 4 (kd + 4)) (hR : zFin w f none (zQV w (n, m0))) {slf : Int32 → Int32 → zMem → Option zMem} (hslf : ∀ (a1 : Int32) (a2 : Int32) (m : zMem) (m1 : zMem), slf a1 a2 m = some m1 → zMet w lc (kd + 4 - 1) yX7_chooses cX7_chooses 4 none [pR 64 0, pI a1, pI a2] (n, m) (zQV w (n, m1))) : ∀ (k : Nat) (x2 : Int32) (x3 : Int32) (m : zMem), s_X7_chooses_L63 slf k x2 x3 m = some m0 → zG w f 4 63 ([some (pR 64 0), none, some (pI x2), some (pI x3)], [], (n, m)) := by
  subst hl
  intro k
  induction k with
  | zero => intro x2 x3 m h; exact zno h
  | succ k ih =>
    intro x2 x3 m h
    unfold s_X7_chooses_L63 at h
    refine zrun hF [(.iload_n 3, 1, pI 0), (.aload_n 0, 1, pI 0), (.getfield 222, 3, pR 64 30)] 63 _ (by decide +kernel) ?_
    refine (And.intro rfl (And.intro rfl ?_))
    show zG w f 4 68 ([some (pR 64 0), none, some (pI x2), some (pI x3)], [pI (m.1 64 0 30), pI x3], (n, m))
    refine zicmp_ge (tgt := 106) (pc := 68) hF (by decide +kernel) (fun b9 => ?_) (fun b9 => ?_)
    · replace h := zit b9 h
      exact zretV (pc := 106) hF hR (by decide +kernel) (congrArg (fun q => (n, q)) (Option.some.inj h))
    · replace h := zif b9 h
      refine zrun hF [(.aload_n 0, 1, pI 0), (.iload_n 3, 1, pI 0), (.iload_n 2, 1, pI 0)] 71 _ (by decide +kernel) ?_
      show zG w f 4 74 ([some (pR 64 0), none, some (pI x2), some (pI x3)], [pI x2, pI x3, pR 64 0], (n, m))
      obtain ⟨r11, q10, h⟩ := zr_k h
      refine zcallVI (pc := 74) (As := [pI x3, pI x2]) (st := []) (c := 64) (j := 0) hF (m_X7_fits  q10) w_X7_fits k_7_237 (by decide +kernel) rfl rfl rfl rfl rfl rfl (Nat.blt_eq.mpr (by omega)) ?_
      refine zif_ne (tgt := 83) (pc := 77) hF (by decide +kernel) (fun b12 => ?_) (fun b12 => ?_)
      · replace h := zit b12 h
        refine zgoto (tgt := 100) (pc := 80) hF (by decide +kernel) ?_
        exact m_X7_chooses_L100 rfl hF hR hslf ih _ _ _  h
      · replace h := zif b12 h
        obtain ⟨c13, h⟩ := zchk h
        refine zrun hF [(.aload_n 0, 1, pI 0), (.getfield 75, 3, pR 64 31), (.iload_n 2, 1, pI 0), (.iload_n 3, 1, pI 0), (.iastore, 1, pI 0)] 83 _ (by decide +kernel) ?_
        refine (And.intro rfl (And.intro rfl (And.intro rfl (And.intro rfl (And.intro c13 ?_)))))
        refine zlet_k (P := fun (m14 : zMem) => zG w f 4 90 ([some (pR 64 0), none, some (pI x2), some (pI x3)], [], (n, m14))) h (fun m14 h => ?_)
        refine zrun hF [(.aload_n 0, 1, pI 0), (.iload_n 3, 1, pI 0), (.iconst 1, 1, pI 1), (.iadd, 1, pI 0), (.iload_n 2, 1, pI 0), (.iconst 1, 1, pI 1), (.iadd, 1, pI 0)] 90 _ (by decide +kernel) ?_
        show zG w f 4 97 ([some (pR 64 0), none, some (pI x2), some (pI x3)], [pI (x2 + 1), pI (x3 + 1), pR 64 0], (n, m14))
        obtain ⟨m17, q15, h⟩ := zr_k h
        refine zcallVV (pc := 97) (As := [pI (x3 + 1), pI (x2 + 1)]) (st := []) (c := 64) (j := 0) hF (hslf _ _ _  _ q15) w_X7_chooses k_7_240 (by decide +kernel) rfl rfl rfl rfl rfl rfl (Nat.blt_eq.mpr (by omega)) ?_
        exact m_X7_chooses_L100 rfl hF hR hslf ih _ _ _  h

set_option maxHeartbeats 4000000 in
set_option maxRecDepth 100000 in
theorem m_X7_chooses_L61 {w : zWd} {f : zFr} {n : zMem} {m0 : zMem} {lc : Launch} {kd : Nat} (hl : f.2.1 = lc) (hF : zFOK w f 7 cX7_chooses 4 (kd + 4)) (hR : zFin w f none (zQV w (n, m0))) {slf : Int32 → Int32 → zMem → Option zMem} (hslf : ∀ (a1 : Int32) (a2 : Int32) (m : zMem) (m1 : zMem), slf a1 a2 m = some m1 → zMet w lc (kd + 4 - 1) yX7_chooses cX7_chooses 4 none [pR 64 0, pI a1, pI a2] (n, m) (zQV w (n, m1))) : ∀ (x1 : Int32) (x2 : Int32) (m : zMem), s_X7_chooses_L61 slf x1 x2 m = some m0 → zG w f 4 61 ([some (pR 64 0), some (pI x1), some (pI x2), none], [], (n, m)) := by
  subst hl
  intro x1 x2 m h
  unfold s_X7_chooses_L61 at h
  refine zrun hF [(.iload_n 1, 1, pI 0), (.istore_n 3, 1, pI 0)] 61 _ (by decide +kernel) ?_
  refine (And.intro rfl ?_)
  show zG w f 4 63 ([some (pR 64 0), some (pI x1), some (pI x2), some (pI x1)], [], (n, m))
  refine zcut [true, false, true, true] ?_
  exact m_X7_chooses_L63 rfl hF hR hslf  zF _ _ _  h

set_option maxHeartbeats 4000000 in
set_option maxRecDepth 100000 in
theorem m_X7_chooses_L43 {w : zWd} {f : zFr} {n : zMem} {m0 : zMem} {lc : Launch} {kd : Nat} (hl : f.2.1 = lc) (hF : zFOK w f 7 cX7_chooses 4 (kd + 4)) (hR : zFin w f none (zQV w (n, m0))) {slf : Int32 → Int32 → zMem → Option zMem} (hslf : ∀ (a1 : Int32) (a2 : Int32) (m : zMem) (m1 : zMem), slf a1 a2 m = some m1 → zMet w lc (kd + 4 - 1) yX7_chooses cX7_chooses 4 none [pR 64 0, pI a1, pI a2] (n, m) (zQV w (n, m1))) : ∀ (x1 : Int32) (x2 : Int32) (m : zMem), s_X7_chooses_L43 slf x1 x2 m = some m0 → zG w f 4 43 ([some (pR 64 0), some (pI x1), some (pI x2), none], [], (n, m)) := by
  subst hl
  intro x1 x2 m h
  unfold s_X7_chooses_L43 at h
  refine zrun hF [(.iload_n 2, 1, pI 0), (.aload_n 0, 1, pI 0), (.getfield 231, 3, pR 64 33)] 43 _ (by decide +kernel) ?_
  refine (And.intro rfl (And.intro rfl ?_))
  show zG w f 4 48 ([some (pR 64 0), some (pI x1), some (pI x2), none], [pI (m.1 64 0 33), pI x2], (n, m))
  refine zicmp_ne (tgt := 61) (pc := 48) hF (by decide +kernel) (fun b4 => ?_) (fun b4 => ?_)
  · replace h := zit b4 h
    refine zrun hF [(.aload_n 0, 1, pI 0), (.dup, 1, pI 0), (.getfield 234, 3, pR 64 34), (.iconst 1, 1, pI 1), (.iadd, 1, pI 0), (.putfield 234, 3, pR 64 34)] 51 _ (by decide +kernel) ?_
    refine (And.intro rfl (And.intro rfl (And.intro rfl (And.intro rfl (And.intro rfl (And.intro trivial ?_))))))
    refine zlet_k (P := fun (m5 : zMem) => zG w f 4 61 ([some (pR 64 0), some (pI x1), some (pI x2), none], [], (n, m5))) h (fun m5 h => ?_)
    exact m_X7_chooses_L61 rfl hF hR hslf  _ _ _  h
  · replace h := zif b4 h
    exact m_X7_chooses_L61 rfl hF hR hslf  _ _ _  h

set_option maxHeartbeats 4000000 in
set_option maxRecDepth 100000 in
theorem m_X7_chooses_L20 {w : zWd} {f : zFr} {n : zMem} {m0 : zMem} {lc : Launch} {kd : Nat} (hl : f.2.1 = lc) (hF : zFOK w f 7 cX7_chooses 4 (kd + 4)) (hR : zFin w f none (zQV w (n, m0))) {slf : Int32 → Int32 → zMem → Option zMem} (hslf : ∀ (a1 : Int32) (a2 : Int32) (m : zMem) (m1 : zMem), slf a1 a2 m = some m1 → zMet w lc (kd + 4 - 1) yX7_chooses cX7_chooses 4 none [pR 64 0, pI a1, pI a2] (n, m) (zQV w (n, m1))) : ∀ (k : Nat) (x1 : Int32) (x2 : Int32) (x3 : Int32) (m : zMem), s_X7_chooses_L20 slf k x1 x2 x3 m = some m0 → zG w f 4 20 ([some (pR 64 0), some (pI x1), some (pI x2), some (pI x3)], [], (n, m)) := by
  subst hl
  intro k
  induction k with
  | zero => intro x1 x2 x3 m h; exact zno h
  | succ k ih =>
    intro x1 x2 x3 m h
    unfold s_X7_chooses_L20 at h
    refine zrun hF [(.iload_n 3, 1, pI 0), (.iload_n 2, 1, pI 0)] 20 _ (by decide +kernel) ?_
    show zG w f 4 22 ([some (pR 64 0), some (pI x1), some (pI x2), some (pI x3)], [pI x2, pI x3], (n, m))
    refine zicmp_ge (tgt := 43) (pc := 22) hF (by decide +kernel) (fun b6 => ?_) (fun b6 => ?_)
    · replace h := zit b6 h
      refine zcut [true, true, true, false] ?_
      exact m_X7_chooses_L43 rfl hF hR hslf  _ _ _  h
    · replace h := zif b6 h
      obtain ⟨c7, h⟩ := zchk h
      refine zrun hF [(.aload_n 0, 1, pI 0), (.getfield 78, 3, pR 64 32), (.iload_n 3, 1, pI 0), (.aload_n 0, 1, pI 0), (.getfield 75, 3, pR 64 31), (.iload_n 3, 1, pI 0), (.iaload, 1, pI 0), (.iastore, 1, pI 0)] 25 _ (by decide +kernel) ?_
      refine (And.intro rfl (And.intro rfl (And.intro rfl (And.intro rfl (And.intro rfl (And.intro rfl (And.intro c7 (And.intro rfl (And.intro rfl (And.intro c7 ?_))))))))))
      refine zlet_k (P := fun (m8 : zMem) => zG w f 4 37 ([some (pR 64 0), some (pI x1), some (pI x2), some (pI x3)], [], (n, m8))) h (fun m8 h => ?_)
      refine zrun hF [(.iinc 3 1, 3, pI 1)] 37 _ (by decide +kernel) ?_
      refine (And.intro rfl ?_)
      show zG w f 4 40 ([some (pR 64 0), some (pI x1), some (pI x2), some (pI (x3 + 1))], [], (n, m8))
      refine zgoto (tgt := 20) (pc := 40) hF (by decide +kernel) ?_
      exact ih _ _ _ _  h

set_option maxHeartbeats 4000000 in
set_option maxRecDepth 100000 in
theorem m_X7_chooses {w : zWd} {lc : Launch} {n : zMem} : ∀ (kd : Nat) (a1 : Int32) (a2 : Int32) (m : zMem) (m0 : zMem), s_X7_chooses kd a1 a2 m = some m0 → zMet w lc (kd + 4 - 1) yX7_chooses cX7_chooses 4 none [pR 64 0, pI a1, pI a2] (n, m) (zQV w (n, m0)) := by
  intro kd
  induction kd with
  | zero => intro a1 a2 m m0 h; exact zno h
  | succ kd hslf =>
    intro a1 a2 m m0 h
    refine zmet (o := 7) (by decide +kernel) rfl (by omega) rfl (fun f hl hF hR => ?_)
    unfold s_X7_chooses at h
    replace hF : zFOK w f 7 cX7_chooses 4 (kd + 4) := hF
    subst hl
    generalize hs : s_X7_chooses kd = slf at h hslf
    dsimp only at h
    show zG w f 4 0 ([some (pR 64 0), some (pI a1), some (pI a2), none], [], (n, m))
    refine zrun hF [(.iload_n 2, 1, pI 0), (.aload_n 0, 1, pI 0), (.getfield 231, 3, pR 64 33)] 0 _ (by decide +kernel) ?_
    refine (And.intro rfl (And.intro rfl ?_))
    show zG w f 4 5 ([some (pR 64 0), some (pI a1), some (pI a2), none], [pI (m.1 64 0 33), pI a2], (n, m))
    refine zicmp_le (tgt := 43) (pc := 5) hF (by decide +kernel) (fun b1 => ?_) (fun b1 => ?_)
    · replace h := zit b1 h
      exact m_X7_chooses_L43 rfl hF hR hslf  _ _ _  h
    · replace h := zif b1 h
      refine zrun hF [(.aload_n 0, 1, pI 0), (.iload_n 2, 1, pI 0), (.putfield 231, 3, pR 64 33)] 8 _ (by decide +kernel) ?_
      refine (And.intro rfl (And.intro rfl (And.intro trivial ?_)))
      refine zlet_k (P := fun (m2 : zMem) => zG w f 4 13 ([some (pR 64 0), some (pI a1), some (pI a2), none], [], (n, m2))) h (fun m2 h => ?_)
      refine zrun hF [(.aload_n 0, 1, pI 0), (.iconst 0, 1, pI 0), (.putfield 234, 3, pR 64 34)] 13 _ (by decide +kernel) ?_
      refine (And.intro rfl (And.intro rfl (And.intro trivial ?_)))
      refine zlet_k (P := fun (m3 : zMem) => zG w f 4 18 ([some (pR 64 0), some (pI a1), some (pI a2), none], [], (n, m3))) h (fun m3 h => ?_)
      refine zrun hF [(.iconst 0, 1, pI 0), (.istore_n 3, 1, pI 0)] 18 _ (by decide +kernel) ?_
      refine (And.intro rfl ?_)
      show zG w f 4 20 ([some (pR 64 0), some (pI a1), some (pI a2), some (pI 0)], [], (n, m3))
      exact m_X7_chooses_L20 rfl hF hR hslf  zF _ _ _ _  h

