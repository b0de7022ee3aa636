set_option maxHeartbeats 4000000 in
set_option maxRecDepth 100000 in
theorem m_X2_addPair_L151 {w : zWd} {f : zFr} {n : zMem} {m0 : zMem} {lc : Launch} (hl : f.2.1 = lc) (hF : zFOK w f 2 cX2_addPair 5 4) (hR : zFin w f none (zQV w (m0, n))) {k68 : Nat → Int32 → Int32 → Int32 → zMem → Option zMem} (hk68 : ∀ (x1 : Nat) (x2 : Int32) (x3 : Int32) (x4 : Int32) (m : zMem), Nat.blt x1 3 = true → k68 x1 x2 x3 x4 m = some m0 → zG w f 5 68 ([some (pR 10 0), some (pR 1 x1), some (pI x2), some (pI x3), some (pI x4)], [], (m, n))) : ∀ (x1 : Nat) (x2 : Int32) (x3 : Int32) (x4 : Int32) (m : zMem), Nat.blt x1 3 = true → s_X2_addPair_L151 k68 x1 x2 x3 x4 m = some m0 → zG w f 5 151 ([some (pR 10 0), some (pR 1 x1), some (pI x2), some (pI x3), some (pI x4)], [], (m, n)) := by
  intro x1 x2 x3 x4 m hx1 h
  unfold s_X2_addPair_L151 at h
  refine zrun hF [(.iinc 4 1, 3, pI 1)] 151 _ (by decide +kernel) ?_
  refine (And.intro rfl ?_)
  show zG w f 5 154 ([some (pR 10 0), some (pR 1 x1), some (pI x2), some (pI x3), some (pI (x4 + 1))], [], (m, n))
  refine zgoto (tgt := 68) (pc := 154) hF (by decide +kernel) ?_
  exact hk68 _ _ _ _ _ hx1 h

set_option maxHeartbeats 4000000 in
set_option maxRecDepth 100000 in
theorem m_X2_addPair_L68 {w : zWd} {f : zFr} {n : zMem} {m0 : zMem} {lc : Launch} (hl : f.2.1 = lc) (hF : zFOK w f 2 cX2_addPair 5 4) (hR : zFin w f none (zQV w (m0, n))) : ∀ (k : Nat) (x1 : Nat) (x2 : Int32) (x3 : Int32) (x4 : Int32) (m : zMem), Nat.blt x1 3 = true → s_X2_addPair_L68 k x1 x2 x3 x4 m = some m0 → zG w f 5 68 ([some (pR 10 0), some (pR 1 x1), some (pI x2), some (pI x3), some (pI x4)], [], (m, n)) := by
  intro k
  induction k with
  | zero => intro x1 x2 x3 x4 m hx1 h; exact zno h
  | succ k ih =>
    intro x1 x2 x3 x4 m hx1 h
    unfold s_X2_addPair_L68 at h
    refine zrun hF [(.iload 4, 2, pI 0), (.aload_n 0, 1, pI 0), (.getfield 34, 3, pR 10 7)] 68 _ (by decide +kernel) ?_
    refine (And.intro rfl (And.intro rfl ?_))
    show zG w f 5 74 ([some (pR 10 0), some (pR 1 x1), some (pI x2), some (pI x3), some (pI x4)], [pI (m.1 10 0 7), pI x4], (m, n))
    refine zicmp_ge (tgt := 157) (pc := 74) hF (by decide +kernel) (fun b14 => ?_) (fun b14 => ?_)
    · replace h := zit b14 h
      refine zrun hF [(.aload_n 0, 1, pI 0), (.dup, 1, pI 0), (.getfield 34, 3, pR 10 7), (.iconst 1, 1, pI 1), (.iadd, 1, pI 0), (.putfield 34, 3, pR 10 7)] 157 _ (by decide +kernel) ?_
      refine (And.intro rfl (And.intro rfl (And.intro rfl (And.intro rfl (And.intro rfl (And.intro trivial ?_))))))
      refine zlet_k (P := fun (m15 : zMem) => zG w f 5 167 ([some (pR 10 0), some (pR 1 x1), some (pI x2), some (pI x3), some (pI x4)], [], (m15, n))) h (fun m15 h => ?_)
      exact zretV (pc := 167) hF hR (by decide +kernel) (congrArg (fun q => (q, n)) (Option.some.inj h))
    · replace h := zif b14 h
      refine zrun hF [(.aload_n 0, 1, pI 0), (.iload 4, 2, pI 0)] 77 _ (by decide +kernel) ?_
      show zG w f 5 80 ([some (pR 10 0), some (pR 1 x1), some (pI x2), some (pI x3), some (pI x4)], [pI x4, pR 10 0], (m, n))
      obtain ⟨r17, q16, h⟩ := zr_k h
      refine zcallVI (pc := 80) (As := [pI x4]) (st := []) (c := 10) (j := 0) hF (m_X2_guestsOf  q16) w_X2_guestsOf k_2_60 (by decide +kernel) rfl rfl rfl rfl rfl rfl rfl ?_
      refine zrun hF [(.aload_n 0, 1, pI 0), (.aload_n 0, 1, pI 0), (.getfield 34, 3, pR 10 7)] 83 _ (by decide +kernel) ?_
      refine (And.intro rfl (And.intro rfl ?_))
      show zG w f 5 88 ([some (pR 10 0), some (pR 1 x1), some (pI x2), some (pI x3), some (pI x4)], [pI (m.1 10 0 7), pR 10 0, pI r17], (m, n))
      obtain ⟨r19, q18, h⟩ := zr_k h
      refine zcallVI (pc := 88) (As := [pI (m.1 10 0 7)]) (st := [pI r17]) (c := 10) (j := 0) hF (m_X2_guestsOf  q18) w_X2_guestsOf k_2_60 (by decide +kernel) rfl rfl rfl rfl rfl rfl rfl ?_
      refine zrun hF [(.iand, 1, pI 0)] 91 _ (by decide +kernel) ?_
      show zG w f 5 92 ([some (pR 10 0), some (pR 1 x1), some (pI x2), some (pI x3), some (pI x4)], [pI (r17 &&& r19)], (m, n))
      refine zif_eq (tgt := 108) (pc := 92) hF (by decide +kernel) (fun b20 => ?_) (fun b20 => ?_)
      · replace h := zit b20 h
        obtain ⟨c21, h⟩ := zchk h
        refine zrun hF [(.aload_n 1, 1, pI 0), (.aload_n 0, 1, pI 0), (.getfield 9, 3, pR 10 0), (.iload 4, 2, pI 0), (.iaload, 1, pI 0), (.aload_n 0, 1, pI 0), (.getfield 15, 3, pR 10 1), (.iload 4, 2, pI 0), (.iaload, 1, pI 0), (.iload_n 2, 1, pI 0), (.iload_n 3, 1, pI 0)] 108 _ (by decide +kernel) ?_
        refine (And.intro rfl (And.intro rfl (And.intro rfl (And.intro rfl (And.intro c21 (And.intro rfl (And.intro rfl (And.intro rfl (And.intro rfl (And.intro c21 ?_))))))))))
        show zG w f 5 125 ([some (pR 10 0), some (pR 1 x1), some (pI x2), some (pI x3), some (pI x4)], [pI x3, pI x2, pI (m.1 12 0 (ix x4)), pI (m.1 11 0 (ix x4)), pR 1 x1], (m, n))
        obtain ⟨r23, q22, h⟩ := zr_k h
        refine zcallVI (pc := 125) (As := [pI (m.1 11 0 (ix x4)), pI (m.1 12 0 (ix x4)), pI x2, pI x3]) (st := []) (c := 1) (j := x1) hF (m_X5_armsCross hx1 q22) w_X5_armsCross k_2_68 (by decide +kernel) rfl hx1 rfl rfl rfl rfl rfl ?_
        refine zif_eq (tgt := 151) (pc := 128) hF (by decide +kernel) (fun b24 => ?_) (fun b24 => ?_)
        · replace h := zit b24 h
          exact m_X2_addPair_L151 hl hF hR ih _ _ _ _ _ hx1 h
        · replace h := zif b24 h
          refine zrun hF [(.aload_n 0, 1, pI 0), (.aload_n 0, 1, pI 0), (.getfield 25, 3, pR 10 4), (.iload 4, 2, pI 0)] 131 _ (by decide +kernel) ?_
          refine (And.intro rfl (And.intro rfl ?_))
          show zG w f 5 138 ([some (pR 10 0), some (pR 1 x1), some (pI x2), some (pI x3), some (pI x4)], [pI x4, pR 15 0, pR 10 0], (m, n))
          obtain ⟨m27, q25, h⟩ := zr_k h
          refine zcallVV (pc := 138) (As := [pR 15 0, pI x4]) (st := []) (c := 10) (j := 0) hF (m_X2_note_15  q25) w_X2_note k_2_64 (by decide +kernel) rfl rfl rfl rfl rfl rfl rfl ?_
          refine zrun hF [(.aload_n 0, 1, pI 0), (.aload_n 0, 1, pI 0), (.getfield 21, 3, pR 10 3), (.iload 4, 2, pI 0)] 141 _ (by decide +kernel) ?_
          refine (And.intro rfl (And.intro rfl ?_))
          show zG w f 5 148 ([some (pR 10 0), some (pR 1 x1), some (pI x2), some (pI x3), some (pI x4)], [pI x4, pR 14 0, pR 10 0], (m27, n))
          obtain ⟨m30, q28, h⟩ := zr_k h
          refine zcallVV (pc := 148) (As := [pR 14 0, pI x4]) (st := []) (c := 10) (j := 0) hF (m_X2_note_14  q28) w_X2_note k_2_64 (by decide +kernel) rfl rfl rfl rfl rfl rfl rfl ?_
          exact m_X2_addPair_L151 hl hF hR ih _ _ _ _ _ hx1 h
      · replace h := zif b20 h
        refine zrun hF [(.aload_n 0, 1, pI 0), (.aload_n 0, 1, pI 0), (.getfield 25, 3, pR 10 4), (.iload 4, 2, pI 0)] 95 _ (by decide +kernel) ?_
        refine (And.intro rfl (And.intro rfl ?_))
        show zG w f 5 102 ([some (pR 10 0), some (pR 1 x1), some (pI x2), some (pI x3), some (pI x4)], [pI x4, pR 15 0, pR 10 0], (m, n))
        obtain ⟨m33, q31, h⟩ := zr_k h
        refine zcallVV (pc := 102) (As := [pR 15 0, pI x4]) (st := []) (c := 10) (j := 0) hF (m_X2_note_15  q31) w_X2_note k_2_64 (by decide +kernel) rfl rfl rfl rfl rfl rfl rfl ?_
        refine zgoto (tgt := 151) (pc := 105) hF (by decide +kernel) ?_
        exact m_X2_addPair_L151 hl hF hR ih _ _ _ _ _ hx1 h

set_option maxHeartbeats 4000000 in
set_option maxRecDepth 100000 in
theorem m_X2_addPair {w : zWd} {lc : Launch} {n : zMem} {a1 : Nat} {a2 : Int32} {a3 : Int32} {m : zMem} {m0 : zMem} (ha1 : Nat.blt a1 3 = true) (h : s_X2_addPair a1 a2 a3 m = some m0) : zMet w lc 4 yX2_addPair cX2_addPair 5 none [pR 10 0, pR 1 a1, pI a2, pI a3] (m, n) (zQV w (m0, n)) := by
  refine zmet (o := 2) (by decide +kernel) rfl (Nat.le_of_ble_eq_true rfl) rfl (fun f hl hF hR => ?_)
  unfold s_X2_addPair at h
  show zG w f 5 0 ([some (pR 10 0), some (pR 1 a1), some (pI a2), some (pI a3), none], [], (m, n))
  refine zrun hF [(.aload_n 0, 1, pI 0), (.getfield 34, 3, pR 10 7), (.bipush 45, 2, pI 45)] 0 _ (by decide +kernel) ?_
  refine (And.intro rfl (And.intro rfl ?_))
  show zG w f 5 6 ([some (pR 10 0), some (pR 1 a1), some (pI a2), some (pI a3), none], [pI 45, pI (m.1 10 0 7)], (m, n))
  refine zicmp_lt (tgt := 10) (pc := 6) hF (by decide +kernel) (fun b1 => ?_) (fun b1 => ?_)
  · replace h := zit b1 h
    obtain ⟨c2, h⟩ := zchk h
    refine zrun hF [(.aload_n 0, 1, pI 0), (.getfield 9, 3, pR 10 0), (.aload_n 0, 1, pI 0), (.getfield 34, 3, pR 10 7), (.iload_n 2, 1, pI 0), (.iastore, 1, pI 0)] 10 _ (by decide +kernel) ?_
    refine (And.intro rfl (And.intro rfl (And.intro rfl (And.intro rfl (And.intro rfl (And.intro rfl (And.intro c2 ?_)))))))
    refine zlet_k (P := fun (m3 : zMem) => zG w f 5 20 ([some (pR 10 0), some (pR 1 a1), some (pI a2), some (pI a3), none], [], (m3, n))) h (fun m3 h => ?_)
    obtain ⟨c4, h⟩ := zchk h
    refine zrun hF [(.aload_n 0, 1, pI 0), (.getfield 15, 3, pR 10 1), (.aload_n 0, 1, pI 0), (.getfield 34, 3, pR 10 7), (.iload_n 3, 1, pI 0), (.iastore, 1, pI 0)] 20 _ (by decide +kernel) ?_
    refine (And.intro rfl (And.intro rfl (And.intro rfl (And.intro rfl (And.intro rfl (And.intro rfl (And.intro c4 ?_)))))))
    refine zlet_k (P := fun (m5 : zMem) => zG w f 5 30 ([some (pR 10 0), some (pR 1 a1), some (pI a2), some (pI a3), none], [], (m5, n))) h (fun m5 h => ?_)
    refine zrun hF [(.aload_n 0, 1, pI 0), (.getfield 18, 3, pR 10 2), (.aload_n 0, 1, pI 0), (.getfield 34, 3, pR 10 7), (.aload_n 1, 1, pI 0), (.iload_n 2, 1, pI 0), (.iload_n 3, 1, pI 0)] 30 _ (by decide +kernel) ?_
    refine (And.intro rfl (And.intro rfl (And.intro rfl (And.intro rfl ?_))))
    show zG w f 5 41 ([some (pR 10 0), some (pR 1 a1), some (pI a2), some (pI a3), none], [pI a3, pI a2, pR 1 a1, pI (m5.1 10 0 7), pR 13 0], (m5, n))
    obtain ⟨r7, q6, h⟩ := zr_k h
    refine zcallVI (pc := 41) (As := [pI a2, pI a3]) (st := [pI (m5.1 10 0 7), pR 13 0]) (c := 1) (j := a1) hF (m_X5_secondsOf ha1 q6) w_X5_secondsOf k_2_56 (by decide +kernel) rfl ha1 rfl rfl rfl rfl rfl ?_
    obtain ⟨c8, h⟩ := zchk h
    refine zrun hF [(.iastore, 1, pI 0)] 44 _ (by decide +kernel) ?_
    refine (And.intro rfl (And.intro rfl (And.intro c8 ?_)))
    refine zlet_k (P := fun (m9 : zMem) => zG w f 5 45 ([some (pR 10 0), some (pR 1 a1), some (pI a2), some (pI a3), none], [], (m9, n))) h (fun m9 h => ?_)
    obtain ⟨c10, h⟩ := zchk h
    refine zrun hF [(.aload_n 0, 1, pI 0), (.getfield 21, 3, pR 10 3), (.aload_n 0, 1, pI 0), (.getfield 34, 3, pR 10 7), (.lconst 0, 1, pL 0), (.lastore, 1, pI 0)] 45 _ (by decide +kernel) ?_
    refine (And.intro rfl (And.intro rfl (And.intro rfl (And.intro rfl (And.intro rfl (And.intro rfl (And.intro c10 ?_)))))))
    refine zlet_k (P := fun (m11 : zMem) => zG w f 5 55 ([some (pR 10 0), some (pR 1 a1), some (pI a2), some (pI a3), none], [], (m11, n))) h (fun m11 h => ?_)
    obtain ⟨c12, h⟩ := zchk h
    refine zrun hF [(.aload_n 0, 1, pI 0), (.getfield 25, 3, pR 10 4), (.aload_n 0, 1, pI 0), (.getfield 34, 3, pR 10 7), (.lconst 0, 1, pL 0), (.lastore, 1, pI 0)] 55 _ (by decide +kernel) ?_
    refine (And.intro rfl (And.intro rfl (And.intro rfl (And.intro rfl (And.intro rfl (And.intro rfl (And.intro c12 ?_)))))))
    refine zlet_k (P := fun (m13 : zMem) => zG w f 5 65 ([some (pR 10 0), some (pR 1 a1), some (pI a2), some (pI a3), none], [], (m13, n))) h (fun m13 h => ?_)
    refine zrun hF [(.iconst 0, 1, pI 0), (.istore 4, 2, pI 0)] 65 _ (by decide +kernel) ?_
    refine (And.intro rfl ?_)
    show zG w f 5 68 ([some (pR 10 0), some (pR 1 a1), some (pI a2), some (pI a3), some (pI 0)], [], (m13, n))
    exact m_X2_addPair_L68 hl hF hR  zF _ _ _ _ _ ha1 h
  · replace h := zif b1 h
    exact zretV (pc := 9) hF hR (by decide +kernel) (congrArg (fun q => (q, n)) (Option.some.inj h))

set_option maxHeartbeats 4000000 in
set_option maxRecDepth 100000 in
theorem m_X2_draw_L43 {w : zWd} {f : zFr} {n : zMem} {m0 : zMem} {lc : Launch} (hl : f.2.1 = lc) (hF : zFOK w f 2 cX2_draw 4 5) (hR : zFin w f none (zQV w (m0, n))) {k7 : Nat → Int32 → zMem → Option zMem} (hk7 : ∀ (x1 : Nat) (x2 : Int32) (m : zMem), Nat.blt x1 3 = true → k7 x1 x2 m = some m0 → zG w f 4 7 ([some (pR 10 0), some (pR 1 x1), some (pI x2), none], [], (m, n))) {k19 : Nat → Int32 → Int32 → zMem → Option zMem} (hk19 : ∀ (x1 : Nat) (x2 : Int32) (x3 : Int32) (m : zMem), Nat.blt x1 3 = true → k19 x1 x2 x3 m = some m0 → zG w f 4 19 ([some (pR 10 0), some (pR 1 x1), some (pI x2), some (pI x3)], [], (m, n))) : ∀ (x1 : Nat) (x2 : Int32) (x3 : Int32) (m : zMem), Nat.blt x1 3 = true → s_X2_draw_L43 k7 k19 x1 x2 x3 m = some m0 → zG w f 4 43 ([some (pR 10 0), some (pR 1 x1), some (pI x2), some (pI x3)], [], (m, n)) := by
  intro x1 x2 x3 m hx1 h
  unfold s_X2_draw_L43 at h
  refine zrun hF [(.iinc 3 1, 3, pI 1)] 43 _ (by decide +kernel) ?_
  refine (And.intro rfl ?_)
  show zG w f 4 46 ([some (pR 10 0), some (pR 1 x1), some (pI x2), some (pI (x3 + 1))], [], (m, n))
  refine zgoto (tgt := 19) (pc := 46) hF (by decide +kernel) ?_
  exact hk19 _ _ _ _ hx1 h

set_option maxHeartbeats 4000000 in
set_option maxRecDepth 100000 in
theorem m_X2_draw_L19 {w : zWd} {f : zFr} {n : zMem} {m0 : zMem} {lc : Launch} (hl : f.2.1 = lc) (hF : zFOK w f 2 cX2_draw 4 5) (hR : zFin w f none (zQV w (m0, n))) {k7 : Nat → Int32 → zMem → Option zMem} (hk7 : ∀ (x1 : Nat) (x2 : Int32) (m : zMem), Nat.blt x1 3 = true → k7 x1 x2 m = some m0 → zG w f 4 7 ([some (pR 10 0), some (pR 1 x1), some (pI x2), none], [], (m, n))) : ∀ (k : Nat) (x1 : Nat) (x2 : Int32) (x3 : Int32) (m : zMem), Nat.blt x1 3 = true → s_X2_draw_L19 k7 k x1 x2 x3 m = some m0 → zG w f 4 19 ([some (pR 10 0), some (pR 1 x1), some (pI x2), some (pI x3)], [], (m, n)) := by
  intro k
  induction k with
  | zero => intro x1 x2 x3 m hx1 h; exact zno h
  | succ k ih =>
    intro x1 x2 x3 m hx1 h
    unfold s_X2_draw_L19 at h
    refine zrun hF [(.iload_n 3, 1, pI 0), (.aload_n 1, 1, pI 0), (.getfield 45, 3, pR 1 6)] 19 _ (by decide +kernel) ?_
    refine (And.intro rfl (And.intro hx1 ?_))
    show zG w f 4 24 ([some (pR 10 0), some (pR 1 x1), some (pI x2), some (pI x3)], [pI (m.1 1 x1 6), pI x3], (m, n))
    refine zicmp_ge (tgt := 49) (pc := 24) hF (by decide +kernel) (fun b3 => ?_) (fun b3 => ?_)
    · replace h := zit b3 h
      refine zrun hF [(.iinc 2 1, 3, pI 1)] 49 _ (by decide +kernel) ?_
      refine (And.intro rfl ?_)
      show zG w f 4 52 ([some (pR 10 0), some (pR 1 x1), some (pI (x2 + 1)), some (pI x3)], [], (m, n))
      refine zgoto (tgt := 7) (pc := 52) hF (by decide +kernel) ?_
      refine zcut [true, true, true, false] ?_
      exact hk7 _ _ _ hx1 h
    · replace h := zif b3 h
      refine zrun hF [(.aload_n 1, 1, pI 0), (.iload_n 2, 1, pI 0), (.iload_n 3, 1, pI 0)] 27 _ (by decide +kernel) ?_
      show zG w f 4 30 ([some (pR 10 0), some (pR 1 x1), some (pI x2), some (pI x3)], [pI x3, pI x2, pR 1 x1], (m, n))
      obtain ⟨r5, q4, h⟩ := zr_k h
      refine zcallVI (pc := 30) (As := [pI x2, pI x3]) (st := []) (c := 1) (j := x1) hF (m_X5_isWanted hx1 q4) w_X5_isWanted k_2_48 (by decide +kernel) rfl hx1 rfl rfl rfl rfl rfl ?_
      refine zif_eq (tgt := 43) (pc := 33) hF (by decide +kernel) (fun b6 => ?_) (fun b6 => ?_)
      · replace h := zit b6 h
        exact m_X2_draw_L43 hl hF hR hk7 ih _ _ _ _ hx1 h
      · replace h := zif b6 h
        refine zrun hF [(.aload_n 0, 1, pI 0), (.aload_n 1, 1, pI 0), (.iload_n 2, 1, pI 0), (.iload_n 3, 1, pI 0)] 36 _ (by decide +kernel) ?_
        show zG w f 4 40 ([some (pR 10 0), some (pR 1 x1), some (pI x2), some (pI x3)], [pI x3, pI x2, pR 1 x1, pR 10 0], (m, n))
        obtain ⟨m9, q7, h⟩ := zr_k h
        refine zcallVV (pc := 40) (As := [pR 1 x1, pI x2, pI x3]) (st := []) (c := 10) (j := 0) hF (m_X2_addPair hx1 q7) w_X2_addPair k_2_52 (by decide +kernel) rfl rfl rfl rfl rfl rfl rfl ?_
        exact m_X2_draw_L43 hl hF hR hk7 ih _ _ _ _ hx1 h

set_option maxHeartbeats 4000000 in
set_option maxRecDepth 100000 in
theorem m_X2_draw_L7 {w : zWd} {f : zFr} {n : zMem} {m0 : zMem} {lc : Launch} (hl : f.2.1 = lc) (hF : zFOK w f 2 cX2_draw 4 5) (hR : zFin w f none (zQV w (m0, n))) : ∀ (k : Nat) (x1 : Nat) (x2 : Int32) (m : zMem), Nat.blt x1 3 = true → s_X2_draw_L7 k x1 x2 m = some m0 → zG w f 4 7 ([some (pR 10 0), some (pR 1 x1), some (pI x2), none], [], (m, n)) := by
  intro k
  induction k with
  | zero => intro x1 x2 m hx1 h; exact zno h
  | succ k ih =>
    intro x1 x2 m hx1 h
    unfold s_X2_draw_L7 at h
    refine zrun hF [(.iload_n 2, 1, pI 0), (.aload_n 1, 1, pI 0), (.getfield 45, 3, pR 1 6)] 7 _ (by decide +kernel) ?_
    refine (And.intro rfl (And.intro hx1 ?_))
    show zG w f 4 12 ([some (pR 10 0), some (pR 1 x1), some (pI x2), none], [pI (m.1 1 x1 6), pI x2], (m, n))
    refine zicmp_ge (tgt := 55) (pc := 12) hF (by decide +kernel) (fun b2 => ?_) (fun b2 => ?_)
    · replace h := zit b2 h
      exact zretV (pc := 55) hF hR (by decide +kernel) (congrArg (fun q => (q, n)) (Option.some.inj h))
    · replace h := zif b2 h
      refine zrun hF [(.iload_n 2, 1, pI 0), (.iconst 1, 1, pI 1), (.iadd, 1, pI 0), (.istore_n 3, 1, pI 0)] 15 _ (by decide +kernel) ?_
      refine (And.intro rfl ?_)
      show zG w f 4 19 ([some (pR 10 0), some (pR 1 x1), some (pI x2), some (pI (x2 + 1))], [], (m, n))
      exact m_X2_draw_L19 hl hF hR ih zF _ _ _ _ hx1 h

set_option maxHeartbeats 4000000 in
set_option maxRecDepth 100000 in
theorem m_X2_draw {w : zWd} {lc : Launch} {n : zMem} {a1 : Nat} {m : zMem} {m0 : zMem} (ha1 : Nat.blt a1 3 = true) (h : s_X2_draw a1 m = some m0) : zMet w lc 5 yX2_draw cX2_draw 4 none [pR 10 0, pR 1 a1] (m, n) (zQV w (m0, n)) := by
  refine zmet (o := 2) (by decide +kernel) rfl (Nat.le_of_ble_eq_true rfl) rfl (fun f hl hF hR => ?_)
  unfold s_X2_draw at h
  show zG w f 4 0 ([some (pR 10 0), some (pR 1 a1), none, none], [], (m, n))
  refine zrun hF [(.aload_n 0, 1, pI 0), (.iconst 0, 1, pI 0), (.putfield 34, 3, pR 10 7)] 0 _ (by decide +kernel) ?_
  refine (And.intro rfl (And.intro rfl (And.intro trivial ?_)))
  refine zlet_k (P := fun (m1 : zMem) => zG w f 4 5 ([some (pR 10 0), some (pR 1 a1), none, none], [], (m1, n))) h (fun m1 h => ?_)
  refine zrun hF [(.iconst 0, 1, pI 0), (.istore_n 2, 1, pI 0)] 5 _ (by decide +kernel) ?_
  refine (And.intro rfl ?_)
  show zG w f 4 7 ([some (pR 10 0), some (pR 1 a1), some (pI 0), none], [], (m1, n))
  exact m_X2_draw_L7 hl hF hR  zF _ _ _ ha1 h

set_option maxHeartbeats 4000000 in
set_option maxRecDepth 100000 in
theorem m_X6_codeOfPair {w : zWd} {lc : Launch} {M : zWM} {a1 : Int32} {a2 : Int32} {x : Int32}  (h : s_X6_codeOfPair a1 a2 = some x) : zMet w lc 1 yX6_codeOfPair cX6_codeOfPair 2 (some .int) [pI a1, pI a2] M (zQI w x M) := by
  refine zmet (o := 6) (by decide +kernel) rfl (Nat.le_of_ble_eq_true rfl) rfl (fun f hl hF hR => ?_)
  unfold s_X6_codeOfPair at h
  show zG w f 2 0 ([some (pI a1), some (pI a2)], [], M)
  refine zrun hF [(.bipush 100, 2, pI 100), (.iload_n 0, 1, pI 0), (.imul, 1, pI 0), (.iload_n 1, 1, pI 0), (.iadd, 1, pI 0)] 0 _ (by decide +kernel) ?_
  show zG w f 2 6 ([some (pI a1), some (pI a2)], [pI ((100 * a1) + a2)], M)
  exact zretI (pc := 6) hF hR (by decide +kernel) rfl (Option.some.inj h) rfl

set_option maxHeartbeats 4000000 in
set_option maxRecDepth 100000 in
theorem m_X2_codeOf {w : zWd} {lc : Launch} {n : zMem} {a1 : Int32} {m : zMem} {x : Int32}  (h : s_X2_codeOf a1 m = some x) : zMet w lc 2 yX2_codeOf cX2_codeOf 2 (some .int) [pR 10 0, pI a1] (m, n) (zQI w x (m, n)) := by
  refine zmet (o := 2) (by decide +kernel) rfl (Nat.le_of_ble_eq_true rfl) rfl (fun f hl hF hR => ?_)
  unfold s_X2_codeOf at h
  show zG w f 2 0 ([some (pR 10 0), some (pI a1)], [], (m, n))
  obtain ⟨c1, h⟩ := zchk h
  refine zrun hF [(.aload_n 0, 1, pI 0), (.getfield 9, 3, pR 10 0), (.iload_n 1, 1, pI 0), (.iaload, 1, pI 0), (.aload_n 0, 1, pI 0), (.getfield 15, 3, pR 10 1), (.iload_n 1, 1, pI 0), (.iaload, 1, pI 0)] 0 _ (by decide +kernel) ?_
  refine (And.intro rfl (And.intro rfl (And.intro rfl (And.intro rfl (And.intro c1 (And.intro rfl (And.intro rfl (And.intro rfl (And.intro rfl (And.intro c1 ?_))))))))))
  show zG w f 2 12 ([some (pR 10 0), some (pI a1)], [pI (m.1 12 0 (ix a1)), pI (m.1 11 0 (ix a1))], (m, n))
  obtain ⟨r3, q2, h⟩ := zr_k h
  refine zcallNI (pc := 12) (As := [pI (m.1 11 0 (ix a1)), pI (m.1 12 0 (ix a1))]) (st := []) hF (m_X6_codeOfPair  q2) w_X6_codeOfPair k_2_72 (by decide +kernel) rfl rfl rfl rfl ?_
  exact zretI (pc := 15) hF hR (by decide +kernel) rfl (Option.some.inj h) rfl

set_option maxHeartbeats 4000000 in
set_option maxRecDepth 100000 in
theorem m_X6_wanted_L50 {w : zWd} {f : zFr} {n : zMem} {x : Int32} {m0 : zMem} {lc : Launch} (hl : f.2.1 = lc) (hF : zFOK w f 6 cX6_wanted 2 6) (hR : zFin w f (some .int) (zQI w x (m0, n))) : ∀ (m : zMem), s_X6_wanted_L50 m = some (x, m0) → zG w f 2 50 ([some (pR 0 0), none], [], (m, n)) := by
  intro m h
  unfold s_X6_wanted_L50 at h
  refine zrun hF [(.aload_n 0, 1, pI 0), (.bipush (-5), 2, pI (-5))] 50 _ (by decide +kernel) ?_
  show zG w f 2 53 ([some (pR 0 0), none], [pI (-5), pR 0 0], (m, n))
  obtain ⟨r10, m11, q9, h⟩ := zb_k h
  refine zcallVI (pc := 53) (As := [pI (-5)]) (st := []) (c := 0) (j := 0) hF (m_X6_refuse  q9) w_X6_refuse k_6_73 (by decide +kernel) rfl rfl rfl rfl rfl rfl rfl ?_
  exact zretI (pc := 56) hF hR (by decide +kernel) rfl (congrArg Prod.fst (Option.some.inj h)) (congrArg (fun (q : Int32 × zMem) => (q.2, n)) (Option.some.inj h))

set_option maxHeartbeats 4000000 in
set_option maxRecDepth 100000 in
theorem m_X6_wanted {w : zWd} {lc : Launch} {n : zMem} {a1 : Int32} {m : zMem} {x : Int32} {m0 : zMem}  (h : s_X6_wanted a1 m = some (x, m0)) : zMet w lc 6 yX6_wanted cX6_wanted 2 (some .int) [pR 0 0, pI a1] (m, n) (zQI w x (m0, n)) := by
  refine zmet (o := 6) (by decide +kernel) rfl (Nat.le_of_ble_eq_true rfl) rfl (fun f hl hF hR => ?_)
  unfold s_X6_wanted at h
  show zG w f 2 0 ([some (pR 0 0), some (pI a1)], [], (m, n))
  refine zrun hF [(.aload_n 0, 1, pI 0), (.getfield 35, 3, pR 0 5), (.aload_n 0, 1, pI 0), (.getfield 10, 3, pR 0 0)] 0 _ (by decide +kernel) ?_
  refine (And.intro rfl (And.intro rfl (And.intro rfl (And.intro rfl ?_))))
  show zG w f 2 8 ([some (pR 0 0), some (pI a1)], [pR 1 0, pR 10 0], (m, n))
  obtain ⟨m3, q1, h⟩ := zr_k h
  refine zcallVV (pc := 8) (As := [pR 1 0]) (st := []) (c := 10) (j := 0) hF (m_X2_draw rfl q1) w_X2_draw k_6_211 (by decide +kernel) rfl rfl rfl rfl rfl rfl rfl ?_
  refine zrun hF [(.iload_n 1, 1, pI 0), (.iconst (-1), 1, pI (-1))] 11 _ (by decide +kernel) ?_
  show zG w f 2 13 ([some (pR 0 0), some (pI a1)], [pI (-1), pI a1], (m3, n))
  refine zicmp_ne (tgt := 24) (pc := 13) hF (by decide +kernel) (fun b4 => ?_) (fun b4 => ?_)
  · replace h := zit b4 h
    refine zrun hF [(.aload_n 0, 1, pI 0), (.getfield 35, 3, pR 0 5), (.getfield 214, 3, pR 10 7)] 16 _ (by decide +kernel) ?_
    refine (And.intro rfl (And.intro rfl (And.intro rfl (And.intro rfl ?_))))
    show zG w f 2 23 ([some (pR 0 0), some (pI a1)], [pI (m3.1 10 0 7)], (m3, n))
    exact zretI (pc := 23) hF hR (by decide +kernel) rfl (congrArg Prod.fst (Option.some.inj h)) (congrArg (fun (q : Int32 × zMem) => (q.2, n)) (Option.some.inj h))
  · replace h := zif b4 h
    refine zrun hF [(.iload_n 1, 1, pI 0)] 24 _ (by decide +kernel) ?_
    show zG w f 2 25 ([some (pR 0 0), some (pI a1)], [pI a1], (m3, n))
    refine zif_lt (tgt := 50) (pc := 25) hF (by decide +kernel) (fun b5 => ?_) (fun b5 => ?_)
    · replace h := zit b5 h
      refine zcut [true, false] ?_
      exact m_X6_wanted_L50 hl hF hR  _  h
    · replace h := zif b5 h
      refine zrun hF [(.iload_n 1, 1, pI 0), (.aload_n 0, 1, pI 0), (.getfield 35, 3, pR 0 5), (.getfield 214, 3, pR 10 7)] 28 _ (by decide +kernel) ?_
      refine (And.intro rfl (And.intro rfl (And.intro rfl (And.intro rfl ?_))))
      show zG w f 2 36 ([some (pR 0 0), some (pI a1)], [pI (m3.1 10 0 7), pI a1], (m3, n))
      refine zicmp_ge (tgt := 50) (pc := 36) hF (by decide +kernel) (fun b6 => ?_) (fun b6 => ?_)
      · replace h := zit b6 h
        refine zcut [true, false] ?_
        exact m_X6_wanted_L50 hl hF hR  _  h
      · replace h := zif b6 h
        refine zrun hF [(.aload_n 0, 1, pI 0), (.getfield 35, 3, pR 0 5), (.iload_n 1, 1, pI 0)] 39 _ (by decide +kernel) ?_
        refine (And.intro rfl (And.intro rfl ?_))
        show zG w f 2 44 ([some (pR 0 0), some (pI a1)], [pI a1, pR 10 0], (m3, n))
        obtain ⟨r8, q7, h⟩ := zr_k h
        refine zcallVI (pc := 44) (As := [pI a1]) (st := []) (c := 10) (j := 0) hF (m_X2_codeOf  q7) w_X2_codeOf k_6_215 (by decide +kernel) rfl rfl rfl rfl rfl rfl rfl ?_
        refine zgoto (tgt := 56) (pc := 47) hF (by decide +kernel) ?_
        exact zretI (pc := 56) hF hR (by decide +kernel) rfl (congrArg Prod.fst (Option.some.inj h)) (congrArg (fun (q : Int32 × zMem) => (q.2, n)) (Option.some.inj h))

set_option maxHeartbeats 4000000 in
set_option maxRecDepth 100000 in
theorem m_X7_lists_L69 {w : zWd} {f : zFr} {n : zMem} {x : Int32} {m0 : zMem} {lc : Launch} (hl : f.2.1 = lc) (hF : zFOK w f 7 cX7_lists 3 4) (hR : zFin w f (some .int) (zQI w x (n, m0))) {k7 : Int32 → zMem → Option (Int32 × zMem)} (hk7 : ∀ (x1 : Int32) (m : zMem), k7 x1 m = some (x, m0) → zG w f 3 7 ([some (pR 64 0), some (pI x1), none], [], (n, m))) {k19 : Int32 → Int32 → zMem → Option (Int32 × zMem)} (hk19 : ∀ (x1 : Int32) (x2 : Int32) (m : zMem), k19 x1 x2 m = some (x, m0) → zG w f 3 19 ([some (pR 64 0), some (pI x1), some (pI x2)], [], (n, m))) : ∀ (x1 : Int32) (x2 : Int32) (m : zMem), s_X7_lists_L69 k7 k19 x1 x2 m = some (x, m0) → zG w f 3 69 ([some (pR 64 0), some (pI x1), some (pI x2)], [], (n, m)) := by
  intro x1 x2 m h
  unfold s_X7_lists_L69 at h
  refine zrun hF [(.iinc 2 1, 3, pI 1)] 69 _ (by decide +kernel) ?_
  refine (And.intro rfl ?_)
  show zG w f 3 72 ([some (pR 64 0), some (pI x1), some (pI (x2 + 1))], [], (n, m))
  refine zgoto (tgt := 19) (pc := 72) hF (by decide +kernel) ?_
  exact hk19 _ _ _  h

set_option maxHeartbeats 4000000 in
set_option maxRecDepth 100000 in
theorem m_X7_lists_L19 {w : zWd} {f : zFr} {n : zMem} {x : Int32} {m0 : zMem} {lc : Launch} (hl : f.2.1 = lc) (hF : zFOK w f 7 cX7_lists 3 4) (hR : zFin w f (some .int) (zQI w x (n, m0))) {k7 : Int32 → zMem → Option (Int32 × zMem)} (hk7 : ∀ (x1 : Int32) (m : zMem), k7 x1 m = some (x, m0) → zG w f 3 7 ([some (pR 64 0), some (pI x1), none], [], (n, m))) : ∀ (k : Nat) (x1 : Int32) (x2 : Int32) (m : zMem), s_X7_lists_L19 k7 k x1 x2 m = some (x, m0) → zG w f 3 19 ([some (pR 64 0), some (pI x1), some (pI x2)], [], (n, m)) := by
  intro k
  induction k with
  | zero => intro x1 x2 m h; exact zno h
  | succ k ih =>
    intro x1 x2 m h
    unfold s_X7_lists_L19 at h
    refine zrun hF [(.iload_n 2, 1, pI 0), (.aload_n 0, 1, pI 0), (.getfield 93, 3, pR 64 0)] 19 _ (by decide +kernel) ?_
    refine (And.intro rfl (And.intro rfl ?_))
    show zG w f 3 24 ([some (pR 64 0), some (pI x1), some (pI x2)], [pI (m.1 64 0 0), pI x2], (n, m))
    refine zicmp_ge (tgt := 75) (pc := 24) hF (by decide +kernel) (fun b3 => ?_) (fun b3 => ?_)
    · replace h := zit b3 h
      refine zrun hF [(.iinc 1 1, 3, pI 1)] 75 _ (by decide +kernel) ?_
      refine (And.intro rfl ?_)
      show zG w f 3 78 ([some (pR 64 0), some (pI (x1 + 1)), some (pI x2)], [], (n, m))
      refine zgoto (tgt := 7) (pc := 78) hF (by decide +kernel) ?_
      refine zcut [true, true, false] ?_
      exact hk7 _ _  h
    · replace h := zif b3 h
      refine zrun hF [(.aload_n 0, 1, pI 0), (.iload_n 1, 1, pI 0), (.iload_n 2, 1, pI 0)] 27 _ (by decide +kernel) ?_
      show zG w f 3 30 ([some (pR 64 0), some (pI x1), some (pI x2)], [pI x2, pI x1, pR 64 0], (n, m))
      obtain ⟨r5, q4, h⟩ := zr_k h
      refine zcallVI (pc := 30) (As := [pI x1, pI x2]) (st := []) (c := 64) (j := 0) hF (m_X7_isWanted  q4) w_X7_isWanted k_7_219 (by decide +kernel) rfl rfl rfl rfl rfl rfl rfl ?_
      refine zif_ne (tgt := 39) (pc := 33) hF (by decide +kernel) (fun b6 => ?_) (fun b6 => ?_)
      · replace h := zit b6 h
        refine zgoto (tgt := 69) (pc := 36) hF (by decide +kernel) ?_
        exact m_X7_lists_L69 hl hF hR hk7 ih _ _ _  h
      · replace h := zif b6 h
        obtain ⟨c7, h⟩ := zchk h
        refine zrun hF [(.aload_n 0, 1, pI 0), (.getfield 69, 3, pR 64 28), (.aload_n 0, 1, pI 0), (.getfield 222, 3, pR 64 30), (.iload_n 1, 1, pI 0), (.iastore, 1, pI 0)] 39 _ (by decide +kernel) ?_
        refine (And.intro rfl (And.intro rfl (And.intro rfl (And.intro rfl (And.intro rfl (And.intro rfl (And.intro c7 ?_)))))))
        refine zlet_k (P := fun (m8 : zMem) => zG w f 3 49 ([some (pR 64 0), some (pI x1), some (pI x2)], [], (n, m8))) h (fun m8 h => ?_)
        obtain ⟨c9, h⟩ := zchk h
        refine zrun hF [(.aload_n 0, 1, pI 0), (.getfield 72, 3, pR 64 29), (.aload_n 0, 1, pI 0), (.getfield 222, 3, pR 64 30), (.iload_n 2, 1, pI 0), (.iastore, 1, pI 0)] 49 _ (by decide +kernel) ?_
        refine (And.intro rfl (And.intro rfl (And.intro rfl (And.intro rfl (And.intro rfl (And.intro rfl (And.intro c9 ?_)))))))
        refine zlet_k (P := fun (m10 : zMem) => zG w f 3 59 ([some (pR 64 0), some (pI x1), some (pI x2)], [], (n, m10))) h (fun m10 h => ?_)
        refine zrun hF [(.aload_n 0, 1, pI 0), (.dup, 1, pI 0), (.getfield 222, 3, pR 64 30), (.iconst 1, 1, pI 1), (.iadd, 1, pI 0), (.putfield 222, 3, pR 64 30)] 59 _ (by decide +kernel) ?_
        refine (And.intro rfl (And.intro rfl (And.intro rfl (And.intro rfl (And.intro rfl (And.intro trivial ?_))))))
        refine zlet_k (P := fun (m11 : zMem) => zG w f 3 69 ([some (pR 64 0), some (pI x1), some (pI x2)], [], (n, m11))) h (fun m11 h => ?_)
        exact m_X7_lists_L69 hl hF hR hk7 ih _ _ _  h

set_option maxHeartbeats 4000000 in
set_option maxRecDepth 100000 in
theorem m_X7_lists_L7 {w : zWd} {f : zFr} {n : zMem} {x : Int32} {m0 : zMem} {lc : Launch} (hl : f.2.1 = lc) (hF : zFOK w f 7 cX7_lists 3 4) (hR : zFin w f (some .int) (zQI w x (n, m0))) : ∀ (k : Nat) (x1 : Int32) (m : zMem), s_X7_lists_L7 k x1 m = some (x, m0) → zG w f 3 7 ([some (pR 64 0), some (pI x1), none], [], (n, m)) := by
  intro k
  induction k with
  | zero => intro x1 m h; exact zno h
  | succ k ih =>
    intro x1 m h
    unfold s_X7_lists_L7 at h
    refine zrun hF [(.iload_n 1, 1, pI 0), (.aload_n 0, 1, pI 0), (.getfield 93, 3, pR 64 0)] 7 _ (by decide +kernel) ?_
    refine (And.intro rfl (And.intro rfl ?_))
    show zG w f 3 12 ([some (pR 64 0), some (pI x1), none], [pI (m.1 64 0 0), pI x1], (n, m))
    refine zicmp_ge (tgt := 81) (pc := 12) hF (by decide +kernel) (fun b2 => ?_) (fun b2 => ?_)
    · replace h := zit b2 h
      refine zrun hF [(.aload_n 0, 1, pI 0), (.getfield 222, 3, pR 64 30)] 81 _ (by decide +kernel) ?_
      refine (And.intro rfl (And.intro rfl ?_))
      show zG w f 3 85 ([some (pR 64 0), some (pI x1), none], [pI (m.1 64 0 30)], (n, m))
      exact zretI (pc := 85) hF hR (by decide +kernel) rfl (congrArg Prod.fst (Option.some.inj h)) (congrArg (fun (q : Int32 × zMem) => (n, q.2)) (Option.some.inj h))
    · replace h := zif b2 h
      refine zrun hF [(.iload_n 1, 1, pI 0), (.iconst 1, 1, pI 1), (.iadd, 1, pI 0), (.istore_n 2, 1, pI 0)] 15 _ (by decide +kernel) ?_
      refine (And.intro rfl ?_)
      show zG w f 3 19 ([some (pR 64 0), some (pI x1), some (pI (x1 + 1))], [], (n, m))
      exact m_X7_lists_L19 hl hF hR ih zF _ _ _  h

set_option maxHeartbeats 4000000 in
set_option maxRecDepth 100000 in
theorem m_X7_lists {w : zWd} {lc : Launch} {n : zMem}  {m : zMem} {x : Int32} {m0 : zMem}  (h : s_X7_lists m = some (x, m0)) : zMet w lc 4 yX7_lists cX7_lists 3 (some .int) [pR 64 0] (n, m) (zQI w x (n, m0)) := by
  refine zmet (o := 7) (by decide +kernel) rfl (Nat.le_of_ble_eq_true rfl) rfl (fun f hl hF hR => ?_)
  unfold s_X7_lists at h
  show zG w f 3 0 ([some (pR 64 0), none, none], [], (n, m))
  refine zrun hF [(.aload_n 0, 1, pI 0), (.iconst 0, 1, pI 0), (.putfield 222, 3, pR 64 30)] 0 _ (by decide +kernel) ?_
  refine (And.intro rfl (And.intro rfl (And.intro trivial ?_)))
  refine zlet_k (P := fun (m1 : zMem) => zG w f 3 5 ([some (pR 64 0), none, none], [], (n, m1))) h (fun m1 h => ?_)
  refine zrun hF [(.iconst 0, 1, pI 0), (.istore_n 1, 1, pI 0)] 5 _ (by decide +kernel) ?_
  refine (And.intro rfl ?_)
  show zG w f 3 7 ([some (pR 64 0), some (pI 0), none], [], (n, m1))
  exact m_X7_lists_L7 hl hF hR  zF _ _  h

set_option maxHeartbeats 4000000 in
set_option maxRecDepth 100000 in
theorem m_X7_codeOf {w : zWd} {lc : Launch} {n : zMem} {a1 : Int32} {m : zMem} {x : Int32}  (h : s_X7_codeOf a1 m = some x) : zMet w lc 1 yX7_codeOf cX7_codeOf 2 (some .int) [pR 64 0, pI a1] (n, m) (zQI w x (n, m)) := by
  refine zmet (o := 7) (by decide +kernel) rfl (Nat.le_of_ble_eq_true rfl) rfl (fun f hl hF hR => ?_)
  unfold s_X7_codeOf at h
  show zG w f 2 0 ([some (pR 64 0), some (pI a1)], [], (n, m))
  obtain ⟨c1, h⟩ := zchk h
  refine zrun hF [(.bipush 100, 2, pI 100), (.aload_n 0, 1, pI 0), (.getfield 69, 3, pR 64 28), (.iload_n 1, 1, pI 0), (.iaload, 1, pI 0), (.imul, 1, pI 0), (.aload_n 0, 1, pI 0), (.getfield 72, 3, pR 64 29), (.iload_n 1, 1, pI 0), (.iaload, 1, pI 0), (.iadd, 1, pI 0)] 0 _ (by decide +kernel) ?_
  refine (And.intro rfl (And.intro rfl (And.intro rfl (And.intro rfl (And.intro c1 (And.intro rfl (And.intro rfl (And.intro rfl (And.intro rfl (And.intro c1 ?_))))))))))
  show zG w f 2 16 ([some (pR 64 0), some (pI a1)], [pI ((100 * (m.1 81 0 (ix a1))) + (m.1 82 0 (ix a1)))], (n, m))
  exact zretI (pc := 16) hF hR (by decide +kernel) rfl (Option.some.inj h) rfl

set_option maxHeartbeats 4000000 in
set_option maxRecDepth 100000 in
theorem m_X7_wanted_L29 {w : zWd} {f : zFr} {n : zMem} {x : Int32} {m0 : zMem} {lc : Launch} (hl : f.2.1 = lc) (hF : zFOK w f 7 cX7_wanted 3 5) (hR : zFin w f (some .int) (zQI w x (n, m0))) : ∀ (m : zMem), s_X7_wanted_L29 m = some (x, m0) → zG w f 3 29 ([some (pR 64 0), none, none], [], (n, m)) := by
  intro m h
  unfold s_X7_wanted_L29 at h
  refine zrun hF [(.aload_n 0, 1, pI 0), (.bipush (-5), 2, pI (-5))] 29 _ (by decide +kernel) ?_
  show zG w f 3 32 ([some (pR 64 0), none, none], [pI (-5), pR 64 0], (n, m))
  obtain ⟨r10, m11, q9, h⟩ := zb_k h
  refine zcallVI (pc := 32) (As := [pI (-5)]) (st := []) (c := 64) (j := 0) hF (m_X7_no  q9) w_X7_no k_7_100 (by decide +kernel) rfl rfl rfl rfl rfl rfl rfl ?_
  exact zretI (pc := 35) hF hR (by decide +kernel) rfl (congrArg Prod.fst (Option.some.inj h)) (congrArg (fun (q : Int32 × zMem) => (n, q.2)) (Option.some.inj h))

set_option maxHeartbeats 4000000 in
set_option maxRecDepth 100000 in
theorem m_X7_wanted {w : zWd} {lc : Launch} {n : zMem} {a1 : Int32} {m : zMem} {x : Int32} {m0 : zMem}  (h : s_X7_wanted a1 m = some (x, m0)) : zMet w lc 5 yX7_wanted cX7_wanted 3 (some .int) [pR 64 0, pI a1] (n, m) (zQI w x (n, m0)) := by
  refine zmet (o := 7) (by decide +kernel) rfl (Nat.le_of_ble_eq_true rfl) rfl (fun f hl hF hR => ?_)
  unfold s_X7_wanted at h
  show zG w f 3 0 ([some (pR 64 0), some (pI a1), none], [], (n, m))
  refine zrun hF [(.aload_n 0, 1, pI 0)] 0 _ (by decide +kernel) ?_
  show zG w f 3 1 ([some (pR 64 0), some (pI a1), none], [pR 64 0], (n, m))
  obtain ⟨r2, m3, q1, h⟩ := zb_k h
  refine zcallVI (pc := 1) (As := []) (st := []) (c := 64) (j := 0) hF (m_X7_lists  q1) w_X7_lists k_7_225 (by decide +kernel) rfl rfl rfl rfl rfl rfl rfl ?_
  refine zrun hF [(.istore_n 2, 1, pI 0), (.iload_n 1, 1, pI 0), (.iconst (-1), 1, pI (-1))] 4 _ (by decide +kernel) ?_
  refine (And.intro rfl ?_)
  show zG w f 3 7 ([some (pR 64 0), some (pI a1), some (pI r2)], [pI (-1), pI a1], (n, m3))
  refine zicmp_ne (tgt := 12) (pc := 7) hF (by decide +kernel) (fun b4 => ?_) (fun b4 => ?_)
  · replace h := zit b4 h
    refine zrun hF [(.iload_n 2, 1, pI 0)] 10 _ (by decide +kernel) ?_
    show zG w f 3 11 ([some (pR 64 0), some (pI a1), some (pI r2)], [pI r2], (n, m3))
    exact zretI (pc := 11) hF hR (by decide +kernel) rfl (congrArg Prod.fst (Option.some.inj h)) (congrArg (fun (q : Int32 × zMem) => (n, q.2)) (Option.some.inj h))
  · replace h := zif b4 h
    refine zrun hF [(.iload_n 1, 1, pI 0)] 12 _ (by decide +kernel) ?_
    show zG w f 3 13 ([some (pR 64 0), some (pI a1), some (pI r2)], [pI a1], (n, m3))
    refine zif_lt (tgt := 29) (pc := 13) hF (by decide +kernel) (fun b5 => ?_) (fun b5 => ?_)
    · replace h := zit b5 h
      refine zcut [true, false, false] ?_
      exact m_X7_wanted_L29 hl hF hR  _  h
    · replace h := zif b5 h
      refine zrun hF [(.iload_n 1, 1, pI 0), (.iload_n 2, 1, pI 0)] 16 _ (by decide +kernel) ?_
      show zG w f 3 18 ([some (pR 64 0), some (pI a1), some (pI r2)], [pI r2, pI a1], (n, m3))
      refine zicmp_ge (tgt := 29) (pc := 18) hF (by decide +kernel) (fun b6 => ?_) (fun b6 => ?_)
      · replace h := zit b6 h
        refine zcut [true, false, false] ?_
        exact m_X7_wanted_L29 hl hF hR  _  h
      · replace h := zif b6 h
        refine zrun hF [(.aload_n 0, 1, pI 0), (.iload_n 1, 1, pI 0)] 21 _ (by decide +kernel) ?_
        show zG w f 3 23 ([some (pR 64 0), some (pI a1), some (pI r2)], [pI a1, pR 64 0], (n, m3))
        obtain ⟨r8, q7, h⟩ := zr_k h
        refine zcallVI (pc := 23) (As := [pI a1]) (st := []) (c := 64) (j := 0) hF (m_X7_codeOf  q7) w_X7_codeOf k_7_228 (by decide +kernel) rfl rfl rfl rfl rfl rfl rfl ?_
        refine zgoto (tgt := 35) (pc := 26) hF (by decide +kernel) ?_
        exact zretI (pc := 35) hF hR (by decide +kernel) rfl (congrArg Prod.fst (Option.some.inj h)) (congrArg (fun (q : Int32 × zMem) => (n, q.2)) (Option.some.inj h))

set_option maxHeartbeats 4000000 in
set_option maxRecDepth 100000 in
theorem m_X2_all {w : zWd} {lc : Launch} {n : zMem}  {m : zMem} {x : Int64}  (h : s_X2_all m = some x) : zMet w lc 1 yX2_all cX2_all 1 (some .long) [pR 10 0] (m, n) (zQL w x (m, n)) := by
  refine zmet (o := 2) (by decide +kernel) rfl (Nat.le_of_ble_eq_true rfl) rfl (fun f hl hF hR => ?_)
  unfold s_X2_all at h
  show zG w f 1 0 ([some (pR 10 0)], [], (m, n))
  refine zrun hF [(.lconst 1, 1, pL 1), (.aload_n 0, 1, pI 0), (.getfield 34, 3, pR 10 7), (.lshl, 1, pI 0), (.lconst 1, 1, pL 1), (.lsub, 1, pI 0)] 0 _ (by decide +kernel) ?_
  refine (And.intro rfl (And.intro rfl ?_))
  show zG w f 1 8 ([some (pR 10 0)], [pL ((jlshl 1 (m.1 10 0 7)) - 1)], (m, n))
  exact zretL (pc := 8) hF hR (by decide +kernel) (Option.some.inj h) rfl

set_option maxHeartbeats 4000000 in
set_option maxRecDepth 100000 in
theorem m_X2_isIn {w : zWd} {lc : Launch} {M : zWM} {a1 : Int64} {a2 : Int32} {x : Int32}  (h : s_X2_isIn a1 a2 = some x) : zMet w lc 1 yX2_isIn cX2_isIn 3 (some .boolean) [pL a1, pI a2] M (zQI w x M) := by
  refine zmet (o := 2) (by decide +kernel) rfl (Nat.le_of_ble_eq_true rfl) rfl (fun f hl hF hR => ?_)
  unfold s_X2_isIn at h
  show zG w f 3 0 ([some (pL a1), none, some (pI a2)], [], M)
  refine zrun hF [(.lload_n 0, 1, pI 0), (.iload_n 2, 1, pI 0), (.lshr, 1, pI 0), (.lconst 1, 1, pL 1), (.land, 1, pI 0), (.lconst 0, 1, pL 0), (.lcmp, 1, pI 0)] 0 _ (by decide +kernel) ?_
  show zG w f 3 7 ([some (pL a1), none, some (pI a2)], [pI (lg_cmp ((jlshr a1 a2) &&& 1) 0)], M)
  refine zif_eq (tgt := 14) (pc := 7) hF (by decide +kernel) (fun b1 => ?_) (fun b1 => ?_)
  · replace h := zit b1 h
    refine zrun hF [(.iconst 0, 1, pI 0)] 14 _ (by decide +kernel) ?_
    show zG w f 3 15 ([some (pL a1), none, some (pI a2)], [pI 0], M)
    exact zretI (pc := 15) hF hR (by decide +kernel) (by decide +kernel) (Option.some.inj h) rfl
  · replace h := zif b1 h
    refine zrun hF [(.iconst 1, 1, pI 1)] 10 _ (by decide +kernel) ?_
    show zG w f 3 11 ([some (pL a1), none, some (pI a2)], [pI 1], M)
    refine zgoto (tgt := 15) (pc := 11) hF (by decide +kernel) ?_
    exact zretI (pc := 15) hF hR (by decide +kernel) (by decide +kernel) (Option.some.inj h) rfl

set_option maxHeartbeats 4000000 in
set_option maxRecDepth 100000 in
theorem m_X2_guestsIn_L34 {w : zWd} {f : zFr} {n : zMem} {x : Int32} {lc : Launch} {mr : zMem} (hl : f.2.1 = lc) (hF : zFOK w f 2 cX2_guestsIn 5 3) (hR : zFin w f (some .int) (zQI w x (mr, n))) {k5 : Int64 → Int32 → Int32 → zMem → Option Int32} (hk5 : ∀ (x1 : Int64) (x3 : Int32) (x4 : Int32) (m : zMem), m = mr → k5 x1 x3 x4 m = some x → zG w f 5 5 ([some (pR 10 0), some (pL x1), none, some (pI x3), some (pI x4)], [], (m, n))) : ∀ (x1 : Int64) (x4 : Int32) (y0 : Int32) (y1 : Int32) (m : zMem), m = mr → s_X2_guestsIn_L34 k5 x1 x4 y0 y1 m = some x → zG w f 5 34 ([some (pR 10 0), some (pL x1), none, none, some (pI x4)], [pI y1, pI y0], (m, n)) := by
  intro x1 x4 y0 y1 m hm h
  unfold s_X2_guestsIn_L34 at h
  refine zrun hF [(.ior, 1, pI 0), (.istore_n 3, 1, pI 0), (.iinc 4 1, 3, pI 1)] 34 _ (by decide +kernel) ?_
  refine (And.intro rfl (And.intro rfl ?_))
  show zG w f 5 39 ([some (pR 10 0), some (pL x1), none, some (pI (y0 ||| y1)), some (pI (x4 + 1))], [], (m, n))
  refine zgoto (tgt := 5) (pc := 39) hF (by decide +kernel) ?_
  exact hk5 _ _ _ _  hm h

set_option maxHeartbeats 4000000 in
set_option maxRecDepth 100000 in
theorem m_X2_guestsIn_L5 {w : zWd} {f : zFr} {n : zMem} {x : Int32} {lc : Launch} {mr : zMem} (hl : f.2.1 = lc) (hF : zFOK w f 2 cX2_guestsIn 5 3) (hR : zFin w f (some .int) (zQI w x (mr, n))) : ∀ (k : Nat) (x1 : Int64) (x3 : Int32) (x4 : Int32) (m : zMem), m = mr → s_X2_guestsIn_L5 k x1 x3 x4 m = some x → zG w f 5 5 ([some (pR 10 0), some (pL x1), none, some (pI x3), some (pI x4)], [], (m, n)) := by
  intro k
  induction k with
  | zero => intro x1 x3 x4 m hm h; exact zno h
  | succ k ih =>
    intro x1 x3 x4 m hm h
    unfold s_X2_guestsIn_L5 at h
    refine zrun hF [(.iload 4, 2, pI 0), (.aload_n 0, 1, pI 0), (.getfield 34, 3, pR 10 7)] 5 _ (by decide +kernel) ?_
    refine (And.intro rfl (And.intro rfl ?_))
    show zG w f 5 11 ([some (pR 10 0), some (pL x1), none, some (pI x3), some (pI x4)], [pI (m.1 10 0 7), pI x4], (m, n))
    refine zicmp_ge (tgt := 42) (pc := 11) hF (by decide +kernel) (fun b1 => ?_) (fun b1 => ?_)
    · replace h := zit b1 h
      refine zrun hF [(.iload_n 3, 1, pI 0)] 42 _ (by decide +kernel) ?_
      show zG w f 5 43 ([some (pR 10 0), some (pL x1), none, some (pI x3), some (pI x4)], [pI x3], (m, n))
      exact zretI (pc := 43) hF hR (by decide +kernel) rfl (Option.some.inj h) (congrArg (fun q => (q, n)) hm)
    · replace h := zif b1 h
      refine zrun hF [(.iload_n 3, 1, pI 0), (.lload_n 1, 1, pI 0), (.iload 4, 2, pI 0)] 14 _ (by decide +kernel) ?_
      show zG w f 5 18 ([some (pR 10 0), some (pL x1), none, some (pI x3), some (pI x4)], [pI x4, pL x1, pI x3], (m, n))
      obtain ⟨r3, q2, h⟩ := zr_k h
      refine zcallSI (pc := 18) (As := [pL x1, pI x4]) (st := [pI x3]) hF (m_X2_isIn  q2) w_X2_isIn k_2_78 (by decide +kernel) rfl rfl rfl rfl ?_
      refine zif_eq (tgt := 33) (pc := 21) hF (by decide +kernel) (fun b4 => ?_) (fun b4 => ?_)
      · replace h := zit b4 h
        refine zrun hF [(.iconst 0, 1, pI 0)] 33 _ (by decide +kernel) ?_
        show zG w f 5 34 ([some (pR 10 0), some (pL x1), none, some (pI x3), some (pI x4)], [pI 0, pI x3], (m, n))
        refine zcut [true, true, true, false, true] ?_
        exact m_X2_guestsIn_L34 hl hF hR ih _ _ _ _ _  hm h
      · replace h := zif b4 h
        refine zrun hF [(.aload_n 0, 1, pI 0), (.iload 4, 2, pI 0)] 24 _ (by decide +kernel) ?_
        show zG w f 5 27 ([some (pR 10 0), some (pL x1), none, some (pI x3), some (pI x4)], [pI x4, pR 10 0, pI x3], (m, n))
        obtain ⟨r6, q5, h⟩ := zr_k h
        refine zcallVI (pc := 27) (As := [pI x4]) (st := [pI x3]) (c := 10) (j := 0) hF (m_X2_guestsOf  q5) w_X2_guestsOf k_2_60 (by decide +kernel) rfl rfl rfl rfl rfl rfl rfl ?_
        refine zgoto (tgt := 34) (pc := 30) hF (by decide +kernel) ?_
        refine zcut [true, true, true, false, true] ?_
        exact m_X2_guestsIn_L34 hl hF hR ih _ _ _ _ _  hm h

set_option maxHeartbeats 4000000 in
set_option maxRecDepth 100000 in
theorem m_X2_guestsIn {w : zWd} {lc : Launch} {n : zMem} {a1 : Int64} {m : zMem} {x : Int32}  (h : s_X2_guestsIn a1 m = some x) : zMet w lc 3 yX2_guestsIn cX2_guestsIn 5 (some .int) [pR 10 0, pL a1] (m, n) (zQI w x (m, n)) := by
  refine zmet (o := 2) (by decide +kernel) rfl (Nat.le_of_ble_eq_true rfl) rfl (fun f hl hF hR => ?_)
  unfold s_X2_guestsIn at h
  show zG w f 5 0 ([some (pR 10 0), some (pL a1), none, none, none], [], (m, n))
  refine zrun hF [(.iconst 0, 1, pI 0), (.istore_n 3, 1, pI 0), (.iconst 0, 1, pI 0), (.istore 4, 2, pI 0)] 0 _ (by decide +kernel) ?_
  refine (And.intro rfl (And.intro rfl ?_))
  show zG w f 5 5 ([some (pR 10 0), some (pL a1), none, some (pI 0), some (pI 0)], [], (m, n))
  exact m_X2_guestsIn_L5 hl hF hR  zF _ _ _ _  rfl h

