set_option maxHeartbeats 4000000 in
set_option maxRecDepth 100000 in
theorem m_X7_mayBe_L56 {w : zWd} {f : zFr} {n : zMem} {x : Int32} {lc : Launch} {mr : zMem} (hl : f.2.1 = lc) (hF : zFOK w f 7 cX7_mayBe 4 2) (hR : zFin w f (some .boolean) (zQI w x (n, mr))) : ∀ (x1 : Int32) (x2 : Int32) (m : zMem), m = mr → s_X7_mayBe_L56 x1 x2 m = some x → zG w f 4 56 ([some (pR 64 0), some (pI x1), some (pI x2), none], [], (n, m)) := by
  intro x1 x2 m hm h
  unfold s_X7_mayBe_L56 at h
  refine zrun hF [(.aload_n 0, 1, pI 0), (.iload_n 1, 1, pI 0), (.iload_n 2, 1, pI 0)] 56 _ (by decide +kernel) ?_
  show zG w f 4 59 ([some (pR 64 0), some (pI x1), some (pI x2), none], [pI x2, pI x1, pR 64 0], (n, m))
  obtain ⟨r11, q10, h⟩ := zr_k h
  refine zcallVI (pc := 59) (As := [pI x1, pI x2]) (st := []) (c := 64) (j := 0) hF (m_X7_farOf  q10) w_X7_farOf k_7_196 (by decide +kernel) rfl rfl rfl rfl rfl rfl rfl ?_
  refine zrun hF [(.istore_n 3, 1, pI 0), (.aload_n 0, 1, pI 0), (.iload_n 1, 1, pI 0), (.iload_n 3, 1, pI 0)] 62 _ (by decide +kernel) ?_
  refine (And.intro rfl ?_)
  show zG w f 4 66 ([some (pR 64 0), some (pI x1), some (pI x2), some (pI r11)], [pI r11, pI x1, pR 64 0], (n, m))
  obtain ⟨r13, q12, h⟩ := zr_k h
  refine zcallVI (pc := 66) (As := [pI x1, pI r11]) (st := []) (c := 64) (j := 0) hF (m_X7_reaches  q12) w_X7_reaches k_7_199 (by decide +kernel) rfl rfl rfl rfl rfl rfl rfl ?_
  refine zif_eq (tgt := 85) (pc := 69) hF (by decide +kernel) (fun b14 => ?_) (fun b14 => ?_)
  · replace h := zit b14 h
    refine zrun hF [(.iconst 0, 1, pI 0)] 85 _ (by decide +kernel) ?_
    show zG w f 4 86 ([some (pR 64 0), some (pI x1), some (pI x2), some (pI r11)], [pI 0], (n, m))
    exact zretI (pc := 86) hF hR (by decide +kernel) (by decide +kernel) (Option.some.inj h) (congrArg (fun q => (n, q)) hm)
  · replace h := zif b14 h
    refine zrun hF [(.aload_n 0, 1, pI 0), (.iload_n 2, 1, pI 0), (.iload_n 3, 1, pI 0)] 72 _ (by decide +kernel) ?_
    show zG w f 4 75 ([some (pR 64 0), some (pI x1), some (pI x2), some (pI r11)], [pI r11, pI x2, pR 64 0], (n, m))
    obtain ⟨r16, q15, h⟩ := zr_k h
    refine zcallVI (pc := 75) (As := [pI x2, pI r11]) (st := []) (c := 64) (j := 0) hF (m_X7_reaches  q15) w_X7_reaches k_7_199 (by decide +kernel) rfl rfl rfl rfl rfl rfl rfl ?_
    refine zif_eq (tgt := 85) (pc := 78) hF (by decide +kernel) (fun b17 => ?_) (fun b17 => ?_)
    · replace h := zit b17 h
      refine zrun hF [(.iconst 0, 1, pI 0)] 85 _ (by decide +kernel) ?_
      show zG w f 4 86 ([some (pR 64 0), some (pI x1), some (pI x2), some (pI r11)], [pI 0], (n, m))
      exact zretI (pc := 86) hF hR (by decide +kernel) (by decide +kernel) (Option.some.inj h) (congrArg (fun q => (n, q)) hm)
    · replace h := zif b17 h
      refine zrun hF [(.iconst 1, 1, pI 1)] 81 _ (by decide +kernel) ?_
      show zG w f 4 82 ([some (pR 64 0), some (pI x1), some (pI x2), some (pI r11)], [pI 1], (n, m))
      refine zgoto (tgt := 86) (pc := 82) hF (by decide +kernel) ?_
      exact zretI (pc := 86) hF hR (by decide +kernel) (by decide +kernel) (Option.some.inj h) (congrArg (fun q => (n, q)) hm)

set_option maxHeartbeats 4000000 in
set_option maxRecDepth 100000 in
theorem m_X7_mayBe {w : zWd} {lc : Launch} {n : zMem} {a1 : Int32} {a2 : Int32} {m : zMem} {x : Int32}  (h : s_X7_mayBe a1 a2 m = some x) : zMet w lc 2 yX7_mayBe cX7_mayBe 4 (some .boolean) [pR 64 0, pI a1, pI a2] (n, m) (zQI w x (n, m)) := by
  refine zmet (o := 7) (by decide +kernel) rfl (Nat.le_of_ble_eq_true rfl) rfl (fun f hl hF hR => ?_)
  unfold s_X7_mayBe at h
  show zG w f 4 0 ([some (pR 64 0), some (pI a1), some (pI a2), none], [], (n, m))
  obtain ⟨c1, h⟩ := zchk h
  refine zrun hF [(.aload_n 0, 1, pI 0), (.aload_n 0, 1, pI 0), (.getfield 32, 3, pR 64 11), (.iload_n 1, 1, pI 0), (.iaload, 1, pI 0), (.iload_n 2, 1, pI 0)] 0 _ (by decide +kernel) ?_
  refine (And.intro rfl (And.intro rfl (And.intro rfl (And.intro rfl (And.intro c1 ?_)))))
  show zG w f 4 8 ([some (pR 64 0), some (pI a1), some (pI a2), none], [pI a2, pI (m.1 69 0 (ix a1)), pR 64 0], (n, m))
  obtain ⟨r3, q2, h⟩ := zr_k h
  refine zcallVI (pc := 8) (As := [pI (m.1 69 0 (ix a1)), pI a2]) (st := []) (c := 64) (j := 0) hF (m_X7_isIn  q2) w_X7_isIn k_7_130 (by decide +kernel) rfl rfl rfl rfl rfl rfl rfl ?_
  refine zif_ne (tgt := 54) (pc := 11) hF (by decide +kernel) (fun b4 => ?_) (fun b4 => ?_)
  · replace h := zit b4 h
    refine zrun hF [(.aload_n 0, 1, pI 0), (.getfield 23, 3, pR 64 8), (.iload_n 1, 1, pI 0), (.iaload, 1, pI 0), (.iconst 5, 1, pI 5)] 14 _ (by decide +kernel) ?_
    refine (And.intro rfl (And.intro rfl (And.intro rfl (And.intro rfl (And.intro c1 ?_)))))
    show zG w f 4 21 ([some (pR 64 0), some (pI a1), some (pI a2), none], [pI 5, pI (m.1 66 0 (ix a1))], (n, m))
    refine zicmp_eq (tgt := 54) (pc := 21) hF (by decide +kernel) (fun b5 => ?_) (fun b5 => ?_)
    · replace h := zit b5 h
      refine zrun hF [(.iconst 0, 1, pI 0)] 54 _ (by decide +kernel) ?_
      show zG w f 4 55 ([some (pR 64 0), some (pI a1), some (pI a2), none], [pI 0], (n, m))
      exact zretI (pc := 55) hF hR (by decide +kernel) (by decide +kernel) (Option.some.inj h) rfl
    · replace h := zif b5 h
      obtain ⟨c6, h⟩ := zchk h
      refine zrun hF [(.aload_n 0, 1, pI 0), (.getfield 23, 3, pR 64 8), (.iload_n 2, 1, pI 0), (.iaload, 1, pI 0), (.iconst 5, 1, pI 5)] 24 _ (by decide +kernel) ?_
      refine (And.intro rfl (And.intro rfl (And.intro rfl (And.intro rfl (And.intro c6 ?_)))))
      show zG w f 4 31 ([some (pR 64 0), some (pI a1), some (pI a2), none], [pI 5, pI (m.1 66 0 (ix a2))], (n, m))
      refine zicmp_eq (tgt := 54) (pc := 31) hF (by decide +kernel) (fun b7 => ?_) (fun b7 => ?_)
      · replace h := zit b7 h
        refine zrun hF [(.iconst 0, 1, pI 0)] 54 _ (by decide +kernel) ?_
        show zG w f 4 55 ([some (pR 64 0), some (pI a1), some (pI a2), none], [pI 0], (n, m))
        exact zretI (pc := 55) hF hR (by decide +kernel) (by decide +kernel) (Option.some.inj h) rfl
      · replace h := zif b7 h
        refine zrun hF [(.aload_n 0, 1, pI 0), (.getfield 23, 3, pR 64 8), (.iload_n 1, 1, pI 0), (.iaload, 1, pI 0), (.iconst 3, 1, pI 3)] 34 _ (by decide +kernel) ?_
        refine (And.intro rfl (And.intro rfl (And.intro rfl (And.intro rfl (And.intro c1 ?_)))))
        show zG w f 4 41 ([some (pR 64 0), some (pI a1), some (pI a2), none], [pI 3, pI (m.1 66 0 (ix a1))], (n, m))
        refine zicmp_ne (tgt := 56) (pc := 41) hF (by decide +kernel) (fun b8 => ?_) (fun b8 => ?_)
        · replace h := zit b8 h
          refine zrun hF [(.aload_n 0, 1, pI 0), (.getfield 23, 3, pR 64 8), (.iload_n 2, 1, pI 0), (.iaload, 1, pI 0), (.iconst 3, 1, pI 3)] 44 _ (by decide +kernel) ?_
          refine (And.intro rfl (And.intro rfl (And.intro rfl (And.intro rfl (And.intro c6 ?_)))))
          show zG w f 4 51 ([some (pR 64 0), some (pI a1), some (pI a2), none], [pI 3, pI (m.1 66 0 (ix a2))], (n, m))
          refine zicmp_ne (tgt := 56) (pc := 51) hF (by decide +kernel) (fun b9 => ?_) (fun b9 => ?_)
          · replace h := zit b9 h
            refine zrun hF [(.iconst 0, 1, pI 0)] 54 _ (by decide +kernel) ?_
            show zG w f 4 55 ([some (pR 64 0), some (pI a1), some (pI a2), none], [pI 0], (n, m))
            exact zretI (pc := 55) hF hR (by decide +kernel) (by decide +kernel) (Option.some.inj h) rfl
          · replace h := zif b9 h
            exact m_X7_mayBe_L56 hl hF hR  _ _ _  rfl h
        · replace h := zif b8 h
          exact m_X7_mayBe_L56 hl hF hR  _ _ _  rfl h
  · replace h := zif b4 h
    refine zrun hF [(.iconst 0, 1, pI 0)] 54 _ (by decide +kernel) ?_
    show zG w f 4 55 ([some (pR 64 0), some (pI a1), some (pI a2), none], [pI 0], (n, m))
    exact zretI (pc := 55) hF hR (by decide +kernel) (by decide +kernel) (Option.some.inj h) rfl

set_option maxHeartbeats 4000000 in
set_option maxRecDepth 100000 in
theorem m_X7_isWanted {w : zWd} {lc : Launch} {n : zMem} {a1 : Int32} {a2 : Int32} {m : zMem} {x : Int32}  (h : s_X7_isWanted a1 a2 m = some x) : zMet w lc 3 yX7_isWanted cX7_isWanted 3 (some .boolean) [pR 64 0, pI a1, pI a2] (n, m) (zQI w x (n, m)) := by
  refine zmet (o := 7) (by decide +kernel) rfl (Nat.le_of_ble_eq_true rfl) rfl (fun f hl hF hR => ?_)
  unfold s_X7_isWanted at h
  show zG w f 3 0 ([some (pR 64 0), some (pI a1), some (pI a2)], [], (n, m))
  refine zrun hF [(.iload_n 1, 1, pI 0), (.iload_n 2, 1, pI 0)] 0 _ (by decide +kernel) ?_
  show zG w f 3 2 ([some (pR 64 0), some (pI a1), some (pI a2)], [pI a2, pI a1], (n, m))
  refine zicmp_eq (tgt := 32) (pc := 2) hF (by decide +kernel) (fun b1 => ?_) (fun b1 => ?_)
  · replace h := zit b1 h
    refine zrun hF [(.iconst 0, 1, pI 0)] 32 _ (by decide +kernel) ?_
    show zG w f 3 33 ([some (pR 64 0), some (pI a1), some (pI a2)], [pI 0], (n, m))
    exact zretI (pc := 33) hF hR (by decide +kernel) (by decide +kernel) (Option.some.inj h) rfl
  · replace h := zif b1 h
    obtain ⟨c2, h⟩ := zchk h
    refine zrun hF [(.aload_n 0, 1, pI 0), (.aload_n 0, 1, pI 0), (.getfield 35, 3, pR 64 12), (.iload_n 1, 1, pI 0), (.iaload, 1, pI 0), (.iload_n 2, 1, pI 0)] 5 _ (by decide +kernel) ?_
    refine (And.intro rfl (And.intro rfl (And.intro rfl (And.intro rfl (And.intro c2 ?_)))))
    show zG w f 3 13 ([some (pR 64 0), some (pI a1), some (pI a2)], [pI a2, pI (m.1 70 0 (ix a1)), pR 64 0], (n, m))
    obtain ⟨r4, q3, h⟩ := zr_k h
    refine zcallVI (pc := 13) (As := [pI (m.1 70 0 (ix a1)), pI a2]) (st := []) (c := 64) (j := 0) hF (m_X7_isIn  q3) w_X7_isIn k_7_130 (by decide +kernel) rfl rfl rfl rfl rfl rfl rfl ?_
    refine zif_ne (tgt := 32) (pc := 16) hF (by decide +kernel) (fun b5 => ?_) (fun b5 => ?_)
    · replace h := zit b5 h
      refine zrun hF [(.aload_n 0, 1, pI 0), (.iload_n 1, 1, pI 0), (.iload_n 2, 1, pI 0)] 19 _ (by decide +kernel) ?_
      show zG w f 3 22 ([some (pR 64 0), some (pI a1), some (pI a2)], [pI a2, pI a1, pR 64 0], (n, m))
      obtain ⟨r7, q6, h⟩ := zr_k h
      refine zcallVI (pc := 22) (As := [pI a1, pI a2]) (st := []) (c := 64) (j := 0) hF (m_X7_mayBe  q6) w_X7_mayBe k_7_107 (by decide +kernel) rfl rfl rfl rfl rfl rfl rfl ?_
      refine zif_eq (tgt := 32) (pc := 25) hF (by decide +kernel) (fun b8 => ?_) (fun b8 => ?_)
      · replace h := zit b8 h
        refine zrun hF [(.iconst 0, 1, pI 0)] 32 _ (by decide +kernel) ?_
        show zG w f 3 33 ([some (pR 64 0), some (pI a1), some (pI a2)], [pI 0], (n, m))
        exact zretI (pc := 33) hF hR (by decide +kernel) (by decide +kernel) (Option.some.inj h) rfl
      · replace h := zif b8 h
        refine zrun hF [(.iconst 1, 1, pI 1)] 28 _ (by decide +kernel) ?_
        show zG w f 3 29 ([some (pR 64 0), some (pI a1), some (pI a2)], [pI 1], (n, m))
        refine zgoto (tgt := 33) (pc := 29) hF (by decide +kernel) ?_
        exact zretI (pc := 33) hF hR (by decide +kernel) (by decide +kernel) (Option.some.inj h) rfl
    · replace h := zif b5 h
      refine zrun hF [(.iconst 0, 1, pI 0)] 32 _ (by decide +kernel) ?_
      show zG w f 3 33 ([some (pR 64 0), some (pI a1), some (pI a2)], [pI 0], (n, m))
      exact zretI (pc := 33) hF hR (by decide +kernel) (by decide +kernel) (Option.some.inj h) rfl

set_option maxHeartbeats 4000000 in
set_option maxRecDepth 100000 in
theorem m_X7_lacks_L27 {w : zWd} {f : zFr} {n : zMem} {x : Int32} {lc : Launch} {mr : zMem} (hl : f.2.1 = lc) (hF : zFOK w f 7 cX7_lacks 4 4) (hR : zFin w f (some .int) (zQI w x (n, mr))) {k4 : Int32 → Int32 → Int32 → zMem → Option Int32} (hk4 : ∀ (x1 : Int32) (x2 : Int32) (x3 : Int32) (m : zMem), m = mr → k4 x1 x2 x3 m = some x → zG w f 4 4 ([some (pR 64 0), some (pI x1), some (pI x2), some (pI x3)], [], (n, m))) : ∀ (x1 : Int32) (x2 : Int32) (x3 : Int32) (m : zMem), m = mr → s_X7_lacks_L27 k4 x1 x2 x3 m = some x → zG w f 4 27 ([some (pR 64 0), some (pI x1), some (pI x2), some (pI x3)], [], (n, m)) := by
  intro x1 x2 x3 m hm h
  unfold s_X7_lacks_L27 at h
  refine zrun hF [(.iinc 3 1, 3, pI 1)] 27 _ (by decide +kernel) ?_
  refine (And.intro rfl ?_)
  show zG w f 4 30 ([some (pR 64 0), some (pI x1), some (pI x2), some (pI (x3 + 1))], [], (n, m))
  refine zgoto (tgt := 4) (pc := 30) hF (by decide +kernel) ?_
  exact hk4 _ _ _ _  hm h

set_option maxHeartbeats 4000000 in
set_option maxRecDepth 100000 in
theorem m_X7_lacks_L4 {w : zWd} {f : zFr} {n : zMem} {x : Int32} {lc : Launch} {mr : zMem} (hl : f.2.1 = lc) (hF : zFOK w f 7 cX7_lacks 4 4) (hR : zFin w f (some .int) (zQI w x (n, mr))) : ∀ (k : Nat) (x1 : Int32) (x2 : Int32) (x3 : Int32) (m : zMem), m = mr → s_X7_lacks_L4 k x1 x2 x3 m = some x → zG w f 4 4 ([some (pR 64 0), some (pI x1), some (pI x2), some (pI x3)], [], (n, m)) := by
  intro k
  induction k with
  | zero => intro x1 x2 x3 m hm h; exact zno h
  | succ k ih =>
    intro x1 x2 x3 m hm h
    unfold s_X7_lacks_L4 at h
    refine zrun hF [(.iload_n 3, 1, pI 0), (.aload_n 0, 1, pI 0), (.getfield 93, 3, pR 64 0)] 4 _ (by decide +kernel) ?_
    refine (And.intro rfl (And.intro rfl ?_))
    show zG w f 4 9 ([some (pR 64 0), some (pI x1), some (pI x2), some (pI x3)], [pI (m.1 64 0 0), pI x3], (n, m))
    refine zicmp_ge (tgt := 33) (pc := 9) hF (by decide +kernel) (fun b1 => ?_) (fun b1 => ?_)
    · replace h := zit b1 h
      refine zrun hF [(.iload_n 2, 1, pI 0)] 33 _ (by decide +kernel) ?_
      show zG w f 4 34 ([some (pR 64 0), some (pI x1), some (pI x2), some (pI x3)], [pI x2], (n, m))
      exact zretI (pc := 34) hF hR (by decide +kernel) rfl (Option.some.inj h) (congrArg (fun q => (n, q)) hm)
    · replace h := zif b1 h
      refine zrun hF [(.aload_n 0, 1, pI 0), (.iload_n 1, 1, pI 0), (.iload_n 3, 1, pI 0)] 12 _ (by decide +kernel) ?_
      show zG w f 4 15 ([some (pR 64 0), some (pI x1), some (pI x2), some (pI x3)], [pI x3, pI x1, pR 64 0], (n, m))
      obtain ⟨r3, q2, h⟩ := zr_k h
      refine zcallVI (pc := 15) (As := [pI x1, pI x3]) (st := []) (c := 64) (j := 0) hF (m_X7_isWanted  q2) w_X7_isWanted k_7_219 (by decide +kernel) rfl rfl rfl rfl rfl rfl rfl ?_
      refine zif_eq (tgt := 27) (pc := 18) hF (by decide +kernel) (fun b4 => ?_) (fun b4 => ?_)
      · replace h := zit b4 h
        exact m_X7_lacks_L27 hl hF hR ih _ _ _ _  hm h
      · replace h := zif b4 h
        refine zrun hF [(.iload_n 2, 1, pI 0), (.iconst 1, 1, pI 1), (.iload_n 3, 1, pI 0), (.ishl, 1, pI 0), (.ior, 1, pI 0), (.istore_n 2, 1, pI 0)] 21 _ (by decide +kernel) ?_
        refine (And.intro rfl ?_)
        refine zlet_k (P := fun (v5 : Int32) => zG w f 4 27 ([some (pR 64 0), some (pI x1), some (pI v5), some (pI x3)], [], (n, m))) h (fun v5 h => ?_)
        exact m_X7_lacks_L27 hl hF hR ih _ _ _ _  hm h

set_option maxHeartbeats 4000000 in
set_option maxRecDepth 100000 in
theorem m_X7_lacks {w : zWd} {lc : Launch} {n : zMem} {a1 : Int32} {m : zMem} {x : Int32}  (h : s_X7_lacks a1 m = some x) : zMet w lc 4 yX7_lacks cX7_lacks 4 (some .int) [pR 64 0, pI a1] (n, m) (zQI w x (n, m)) := by
  refine zmet (o := 7) (by decide +kernel) rfl (Nat.le_of_ble_eq_true rfl) rfl (fun f hl hF hR => ?_)
  unfold s_X7_lacks at h
  show zG w f 4 0 ([some (pR 64 0), some (pI a1), none, none], [], (n, m))
  refine zrun hF [(.iconst 0, 1, pI 0), (.istore_n 2, 1, pI 0), (.iconst 0, 1, pI 0), (.istore_n 3, 1, pI 0)] 0 _ (by decide +kernel) ?_
  refine (And.intro rfl (And.intro rfl ?_))
  show zG w f 4 4 ([some (pR 64 0), some (pI a1), some (pI 0), some (pI 0)], [], (n, m))
  exact m_X7_lacks_L4 hl hF hR  zF _ _ _ _  rfl h

set_option maxHeartbeats 4000000 in
set_option maxRecDepth 100000 in
theorem m_X7_count_L4 {w : zWd} {f : zFr} {M : zWM} {x : Int32} {lc : Launch} (hl : f.2.1 = lc) (hF : zFOK w f 7 cX7_count 4 1) (hR : zFin w f (some .int) (zQI w x M)) : ∀ (k : Nat) (x1 : Int32) (x2 : Int32) (x3 : Int32), s_X7_count_L4 k x1 x2 x3 = some x → zG w f 4 4 ([none, some (pI x1), some (pI x2), some (pI x3)], [], M) := by
  intro k
  induction k with
  | zero => intro x1 x2 x3 h; exact zno h
  | succ k ih =>
    intro x1 x2 x3 h
    unfold s_X7_count_L4 at h
    refine zrun hF [(.iload_n 3, 1, pI 0), (.bipush 10, 2, pI 10)] 4 _ (by decide +kernel) ?_
    show zG w f 4 7 ([none, some (pI x1), some (pI x2), some (pI x3)], [pI 10, pI x3], M)
    refine zicmp_ge (tgt := 24) (pc := 7) hF (by decide +kernel) (fun b1 => ?_) (fun b1 => ?_)
    · replace h := zit b1 h
      refine zrun hF [(.iload_n 2, 1, pI 0)] 24 _ (by decide +kernel) ?_
      show zG w f 4 25 ([none, some (pI x1), some (pI x2), some (pI x3)], [pI x2], M)
      exact zretI (pc := 25) hF hR (by decide +kernel) rfl (Option.some.inj h) rfl
    · replace h := zif b1 h
      refine zrun hF [(.iload_n 2, 1, pI 0), (.iload_n 1, 1, pI 0), (.iload_n 3, 1, pI 0), (.ishr, 1, pI 0), (.iconst 1, 1, pI 1), (.iand, 1, pI 0), (.iadd, 1, pI 0), (.istore_n 2, 1, pI 0)] 10 _ (by decide +kernel) ?_
      refine (And.intro rfl ?_)
      refine zlet_k (P := fun (v2 : Int32) => zG w f 4 18 ([none, some (pI x1), some (pI v2), some (pI x3)], [], M)) h (fun v2 h => ?_)
      refine zrun hF [(.iinc 3 1, 3, pI 1)] 18 _ (by decide +kernel) ?_
      refine (And.intro rfl ?_)
      show zG w f 4 21 ([none, some (pI x1), some (pI v2), some (pI (x3 + 1))], [], M)
      refine zgoto (tgt := 4) (pc := 21) hF (by decide +kernel) ?_
      exact ih _ _ _  h

set_option maxHeartbeats 4000000 in
set_option maxRecDepth 100000 in
theorem m_X7_count {w : zWd} {lc : Launch} {M : zWM} {a1 : Int32} {x : Int32}  (h : s_X7_count a1 = some x) : zMet w lc 1 yX7_count cX7_count 4 (some .int) [pR 64 0, pI a1] M (zQI w x M) := by
  refine zmet (o := 7) (by decide +kernel) rfl (Nat.le_of_ble_eq_true rfl) rfl (fun f hl hF hR => ?_)
  unfold s_X7_count at h
  show zG w f 4 0 ([some (pR 64 0), some (pI a1), none, none], [], M)
  refine zrun hF [(.iconst 0, 1, pI 0), (.istore_n 2, 1, pI 0), (.iconst 0, 1, pI 0), (.istore_n 3, 1, pI 0)] 0 _ (by decide +kernel) ?_
  refine (And.intro rfl (And.intro rfl ?_))
  show zG w f 4 4 ([some (pR 64 0), some (pI a1), some (pI 0), some (pI 0)], [], M)
  refine zcut [false, true, true, true] ?_
  exact m_X7_count_L4 hl hF hR  zF _ _ _  h

set_option maxHeartbeats 4000000 in
set_option maxRecDepth 100000 in
theorem m_X7_says_L18 {w : zWd} {f : zFr} {n : zMem} {x : Int32} {m0 : zMem} {lc : Launch} (hl : f.2.1 = lc) (hF : zFOK w f 7 cX7_says 8 5) (hR : zFin w f (some .int) (zQI w x (n, m0))) : ∀ (m : zMem), s_X7_says_L18 m = some (x, m0) → zG w f 8 18 ([some (pR 64 0), none, none, none, none, none, none, none], [], (n, m)) := by
  intro m h
  unfold s_X7_says_L18 at h
  refine zrun hF [(.aload_n 0, 1, pI 0), (.iconst (-1), 1, pI (-1))] 18 _ (by decide +kernel) ?_
  show zG w f 8 20 ([some (pR 64 0), none, none, none, none, none, none, none], [pI (-1), pR 64 0], (n, m))
  obtain ⟨r21, m22, q20, h⟩ := zb_k h
  refine zcallVI (pc := 20) (As := [pI (-1)]) (st := []) (c := 64) (j := 0) hF (m_X7_no  q20) w_X7_no k_7_100 (by decide +kernel) rfl rfl rfl rfl rfl rfl rfl ?_
  exact zretI (pc := 23) hF hR (by decide +kernel) rfl (congrArg Prod.fst (Option.some.inj h)) (congrArg (fun (q : Int32 × zMem) => (n, q.2)) (Option.some.inj h))

set_option maxHeartbeats 4000000 in
set_option maxRecDepth 100000 in
theorem m_X7_says_L214 {w : zWd} {f : zFr} {n : zMem} {x : Int32} {m0 : zMem} {lc : Launch} (hl : f.2.1 = lc) (hF : zFOK w f 7 cX7_says 8 5) (hR : zFin w f (some .int) (zQI w x (n, m0))) {k186 : Int32 → Int32 → Int32 → zMem → Option (Int32 × zMem)} (hk186 : ∀ (x3 : Int32) (x5 : Int32) (x7 : Int32) (m : zMem), k186 x3 x5 x7 m = some (x, m0) → zG w f 8 186 ([some (pR 64 0), none, none, some (pI x3), none, some (pI x5), none, some (pI x7)], [], (n, m))) : ∀ (x3 : Int32) (x5 : Int32) (x7 : Int32) (m : zMem), s_X7_says_L214 k186 x3 x5 x7 m = some (x, m0) → zG w f 8 214 ([some (pR 64 0), none, none, some (pI x3), none, some (pI x5), none, some (pI x7)], [], (n, m)) := by
  intro x3 x5 x7 m h
  unfold s_X7_says_L214 at h
  refine zrun hF [(.iinc 7 1, 3, pI 1)] 214 _ (by decide +kernel) ?_
  refine (And.intro rfl ?_)
  show zG w f 8 217 ([some (pR 64 0), none, none, some (pI x3), none, some (pI x5), none, some (pI (x7 + 1))], [], (n, m))
  refine zgoto (tgt := 186) (pc := 217) hF (by decide +kernel) ?_
  exact hk186 _ _ _ _  h

set_option maxHeartbeats 4000000 in
set_option maxRecDepth 100000 in
theorem m_X7_says_L186 {w : zWd} {f : zFr} {n : zMem} {x : Int32} {m0 : zMem} {lc : Launch} (hl : f.2.1 = lc) (hF : zFOK w f 7 cX7_says 8 5) (hR : zFin w f (some .int) (zQI w x (n, m0))) : ∀ (k : Nat) (x3 : Int32) (x5 : Int32) (x7 : Int32) (m : zMem), s_X7_says_L186 k x3 x5 x7 m = some (x, m0) → zG w f 8 186 ([some (pR 64 0), none, none, some (pI x3), none, some (pI x5), none, some (pI x7)], [], (n, m)) := by
  intro k
  induction k with
  | zero => intro x3 x5 x7 m h; exact zno h
  | succ k ih =>
    intro x3 x5 x7 m h
    unfold s_X7_says_L186 at h
    refine zrun hF [(.iload 7, 2, pI 0), (.aload_n 0, 1, pI 0), (.getfield 93, 3, pR 64 0)] 186 _ (by decide +kernel) ?_
    refine (And.intro rfl (And.intro rfl ?_))
    show zG w f 8 192 ([some (pR 64 0), none, none, some (pI x3), none, some (pI x5), none, some (pI x7)], [pI (m.1 64 0 0), pI x7], (n, m))
    refine zicmp_ge (tgt := 220) (pc := 192) hF (by decide +kernel) (fun b45 => ?_) (fun b45 => ?_)
    · replace h := zit b45 h
      refine zrun hF [(.iload 5, 2, pI 0)] 220 _ (by decide +kernel) ?_
      show zG w f 8 222 ([some (pR 64 0), none, none, some (pI x3), none, some (pI x5), none, some (pI x7)], [pI x5], (n, m))
      exact zretI (pc := 222) hF hR (by decide +kernel) rfl (congrArg Prod.fst (Option.some.inj h)) (congrArg (fun (q : Int32 × zMem) => (n, q.2)) (Option.some.inj h))
    · replace h := zif b45 h
      refine zrun hF [(.iload 7, 2, pI 0), (.iload_n 3, 1, pI 0)] 195 _ (by decide +kernel) ?_
      show zG w f 8 198 ([some (pR 64 0), none, none, some (pI x3), none, some (pI x5), none, some (pI x7)], [pI x3, pI x7], (n, m))
      refine zicmp_eq (tgt := 214) (pc := 198) hF (by decide +kernel) (fun b46 => ?_) (fun b46 => ?_)
      · replace h := zit b46 h
        exact m_X7_says_L214 hl hF hR ih _ _ _ _  h
      · replace h := zif b46 h
        refine zrun hF [(.aload_n 0, 1, pI 0), (.iload_n 3, 1, pI 0), (.iload 7, 2, pI 0)] 201 _ (by decide +kernel) ?_
        show zG w f 8 205 ([some (pR 64 0), none, none, some (pI x3), none, some (pI x5), none, some (pI x7)], [pI x7, pI x3, pR 64 0], (n, m))
        obtain ⟨r48, q47, h⟩ := zr_k h
        refine zcallVI (pc := 205) (As := [pI x3, pI x7]) (st := []) (c := 64) (j := 0) hF (m_X7_mayBe  q47) w_X7_mayBe k_7_107 (by decide +kernel) rfl rfl rfl rfl rfl rfl rfl ?_
        refine zif_eq (tgt := 214) (pc := 208) hF (by decide +kernel) (fun b49 => ?_) (fun b49 => ?_)
        · replace h := zit b49 h
          exact m_X7_says_L214 hl hF hR ih _ _ _ _  h
        · replace h := zif b49 h
          refine zrun hF [(.iinc 5 1, 3, pI 1)] 211 _ (by decide +kernel) ?_
          refine (And.intro rfl ?_)
          show zG w f 8 214 ([some (pR 64 0), none, none, some (pI x3), none, some (pI (x5 + 1)), none, some (pI x7)], [], (n, m))
          exact m_X7_says_L214 hl hF hR ih _ _ _ _  h

set_option maxHeartbeats 4000000 in
set_option maxRecDepth 100000 in
theorem m_X7_says_L138 {w : zWd} {f : zFr} {n : zMem} {x : Int32} {m0 : zMem} {lc : Launch} (hl : f.2.1 = lc) (hF : zFOK w f 7 cX7_says 8 5) (hR : zFin w f (some .int) (zQI w x (n, m0))) : ∀ (x2 : Int32) (x3 : Int32) (x5 : Int32) (m : zMem), s_X7_says_L138 x2 x3 x5 m = some (x, m0) → zG w f 8 138 ([some (pR 64 0), none, some (pI x2), some (pI x3), none, some (pI x5), none, none], [], (n, m)) := by
  intro x2 x3 x5 m h
  unfold s_X7_says_L138 at h
  refine zrun hF [(.iload_n 2, 1, pI 0)] 138 _ (by decide +kernel) ?_
  show zG w f 8 139 ([some (pR 64 0), none, some (pI x2), some (pI x3), none, some (pI x5), none, none], [pI x2], (n, m))
  refine zswitch (pc := 139) [(0, 176), (1, 183), (2, 223), (3, 183), (5, 232)] 239 hF (by decide +kernel) ?_
  refine And.intro (fun b33 => ?_) (fun b33 => ?_)
  · replace h := zit b33 h
    obtain ⟨c34, h⟩ := zchk h
    refine zrun hF [(.aload_n 0, 1, pI 0), (.getfield 29, 3, pR 64 10), (.iload_n 3, 1, pI 0), (.iaload, 1, pI 0)] 176 _ (by decide +kernel) ?_
    refine (And.intro rfl (And.intro rfl (And.intro rfl (And.intro rfl (And.intro c34 ?_)))))
    show zG w f 8 182 ([some (pR 64 0), none, some (pI x2), some (pI x3), none, some (pI x5), none, none], [pI (m.1 68 0 (ix x3))], (n, m))
    exact zretI (pc := 182) hF hR (by decide +kernel) rfl (congrArg Prod.fst (Option.some.inj h)) (congrArg (fun (q : Int32 × zMem) => (n, q.2)) (Option.some.inj h))
  · replace h := zif b33 h
    refine And.intro (fun b35 => ?_) (fun b35 => ?_)
    · replace h := zit b35 h
      refine zrun hF [(.iconst 0, 1, pI 0), (.istore 7, 2, pI 0)] 183 _ (by decide +kernel) ?_
      refine (And.intro rfl ?_)
      show zG w f 8 186 ([some (pR 64 0), none, some (pI x2), some (pI x3), none, some (pI x5), none, some (pI 0)], [], (n, m))
      refine zcut [true, true, false, true, true, true, true, true] ?_
      exact m_X7_says_L186 hl hF hR  zF _ _ _ _  h
    · replace h := zif b35 h
      refine And.intro (fun b36 => ?_) (fun b36 => ?_)
      · replace h := zit b36 h
        obtain ⟨c37, h⟩ := zchk h
        refine zrun hF [(.iconst 1, 1, pI 1), (.aload_n 0, 1, pI 0), (.getfield 26, 3, pR 64 9), (.iload_n 3, 1, pI 0), (.iaload, 1, pI 0), (.iadd, 1, pI 0)] 223 _ (by decide +kernel) ?_
        refine (And.intro rfl (And.intro rfl (And.intro rfl (And.intro rfl (And.intro c37 ?_)))))
        show zG w f 8 231 ([some (pR 64 0), none, some (pI x2), some (pI x3), none, some (pI x5), none, none], [pI (1 + (m.1 67 0 (ix x3)))], (n, m))
        exact zretI (pc := 231) hF hR (by decide +kernel) rfl (congrArg Prod.fst (Option.some.inj h)) (congrArg (fun (q : Int32 × zMem) => (n, q.2)) (Option.some.inj h))
      · replace h := zif b36 h
        refine And.intro (fun b38 => ?_) (fun b38 => ?_)
        · replace h := zit b38 h
          refine zrun hF [(.iconst 0, 1, pI 0), (.istore 7, 2, pI 0)] 183 _ (by decide +kernel) ?_
          refine (And.intro rfl ?_)
          show zG w f 8 186 ([some (pR 64 0), none, some (pI x2), some (pI x3), none, some (pI x5), none, some (pI 0)], [], (n, m))
          refine zcut [true, true, false, true, true, true, true, true] ?_
          exact m_X7_says_L186 hl hF hR  zF _ _ _ _  h
        · replace h := zif b38 h
          refine And.intro (fun b39 => ?_) (fun b39 => ?_)
          · replace h := zit b39 h
            obtain ⟨c40, h⟩ := zchk h
            refine zrun hF [(.aload_n 0, 1, pI 0), (.getfield 26, 3, pR 64 9), (.iload_n 3, 1, pI 0), (.iaload, 1, pI 0)] 232 _ (by decide +kernel) ?_
            refine (And.intro rfl (And.intro rfl (And.intro rfl (And.intro rfl (And.intro c40 ?_)))))
            show zG w f 8 238 ([some (pR 64 0), none, some (pI x2), some (pI x3), none, some (pI x5), none, none], [pI (m.1 67 0 (ix x3))], (n, m))
            exact zretI (pc := 238) hF hR (by decide +kernel) rfl (congrArg Prod.fst (Option.some.inj h)) (congrArg (fun (q : Int32 × zMem) => (n, q.2)) (Option.some.inj h))
          · replace h := zif b39 h
            refine zrun hF [(.aload_n 0, 1, pI 0), (.aload_n 0, 1, pI 0), (.iload_n 3, 1, pI 0)] 239 _ (by decide +kernel) ?_
            show zG w f 8 242 ([some (pR 64 0), none, some (pI x2), some (pI x3), none, some (pI x5), none, none], [pI x3, pR 64 0, pR 64 0], (n, m))
            obtain ⟨r42, q41, h⟩ := zr_k h
            refine zcallVI (pc := 242) (As := [pI x3]) (st := [pR 64 0]) (c := 64) (j := 0) hF (m_X7_lacks  q41) w_X7_lacks k_7_111 (by decide +kernel) rfl rfl rfl rfl rfl rfl rfl ?_
            obtain ⟨r44, q43, h⟩ := zr_k h
            refine zcallVI (pc := 245) (As := [pI r42]) (st := []) (c := 64) (j := 0) hF (m_X7_count  q43) w_X7_count k_7_114 (by decide +kernel) rfl rfl rfl rfl rfl rfl rfl ?_
            exact zretI (pc := 248) hF hR (by decide +kernel) rfl (congrArg Prod.fst (Option.some.inj h)) (congrArg (fun (q : Int32 × zMem) => (n, q.2)) (Option.some.inj h))

set_option maxHeartbeats 4000000 in
set_option maxRecDepth 100000 in
theorem m_X7_says_L114 {w : zWd} {f : zFr} {n : zMem} {x : Int32} {m0 : zMem} {lc : Launch} (hl : f.2.1 = lc) (hF : zFOK w f 7 cX7_says 8 5) (hR : zFin w f (some .int) (zQI w x (n, m0))) : ∀ (x2 : Int32) (x3 : Int32) (x4 : Int32) (x5 : Int32) (y0 : Int32) (m : zMem), s_X7_says_L114 x2 x3 x4 x5 y0 m = some (x, m0) → zG w f 8 114 ([some (pR 64 0), none, some (pI x2), some (pI x3), some (pI x4), some (pI x5), none, none], [pI y0], (n, m)) := by
  intro x2 x3 x4 x5 y0 m h
  unfold s_X7_says_L114 at h
  refine zrun hF [(.istore 6, 2, pI 0), (.iload_n 2, 1, pI 0)] 114 _ (by decide +kernel) ?_
  refine (And.intro rfl ?_)
  show zG w f 8 117 ([some (pR 64 0), none, some (pI x2), some (pI x3), some (pI x4), some (pI x5), some (pI y0), none], [pI x2], (n, m))
  refine zif_eq (tgt := 138) (pc := 117) hF (by decide +kernel) (fun b25 => ?_) (fun b25 => ?_)
  · replace h := zit b25 h
    refine zcut [true, true, true, true, false, true, false, true] ?_
    exact m_X7_says_L138 hl hF hR  _ _ _ _  h
  · replace h := zif b25 h
    refine zrun hF [(.iload_n 2, 1, pI 0), (.iload 4, 2, pI 0)] 120 _ (by decide +kernel) ?_
    show zG w f 8 123 ([some (pR 64 0), none, some (pI x2), some (pI x3), some (pI x4), some (pI x5), some (pI y0), none], [pI x4, pI x2], (n, m))
    refine zicmp_eq (tgt := 138) (pc := 123) hF (by decide +kernel) (fun b26 => ?_) (fun b26 => ?_)
    · replace h := zit b26 h
      refine zcut [true, true, true, true, false, true, false, true] ?_
      exact m_X7_says_L138 hl hF hR  _ _ _ _  h
    · replace h := zif b26 h
      refine zrun hF [(.iload 6, 2, pI 0)] 126 _ (by decide +kernel) ?_
      show zG w f 8 128 ([some (pR 64 0), none, some (pI x2), some (pI x3), some (pI x4), some (pI x5), some (pI y0), none], [pI y0], (n, m))
      refine zif_ne (tgt := 138) (pc := 128) hF (by decide +kernel) (fun b27 => ?_) (fun b27 => ?_)
      · replace h := zit b27 h
        refine zrun hF [(.aload_n 0, 1, pI 0), (.bipush (-2), 2, pI (-2))] 131 _ (by decide +kernel) ?_
        show zG w f 8 134 ([some (pR 64 0), none, some (pI x2), some (pI x3), some (pI x4), some (pI x5), some (pI y0), none], [pI (-2), pR 64 0], (n, m))
        obtain ⟨r29, m30, q28, h⟩ := zb_k h
        refine zcallVI (pc := 134) (As := [pI (-2)]) (st := []) (c := 64) (j := 0) hF (m_X7_no  q28) w_X7_no k_7_100 (by decide +kernel) rfl rfl rfl rfl rfl rfl rfl ?_
        exact zretI (pc := 137) hF hR (by decide +kernel) rfl (congrArg Prod.fst (Option.some.inj h)) (congrArg (fun (q : Int32 × zMem) => (n, q.2)) (Option.some.inj h))
      · replace h := zif b27 h
        refine zcut [true, true, true, true, false, true, false, true] ?_
        exact m_X7_says_L138 hl hF hR  _ _ _ _  h

set_option maxHeartbeats 4000000 in
set_option maxRecDepth 100000 in
theorem m_X7_says_L109 {w : zWd} {f : zFr} {n : zMem} {x : Int32} {m0 : zMem} {lc : Launch} (hl : f.2.1 = lc) (hF : zFOK w f 7 cX7_says 8 5) (hR : zFin w f (some .int) (zQI w x (n, m0))) : ∀ (x2 : Int32) (x3 : Int32) (x4 : Int32) (x5 : Int32) (m : zMem), s_X7_says_L109 x2 x3 x4 x5 m = some (x, m0) → zG w f 8 109 ([some (pR 64 0), none, some (pI x2), some (pI x3), some (pI x4), some (pI x5), none, none], [], (n, m)) := by
  intro x2 x3 x4 x5 m h
  unfold s_X7_says_L109 at h
  refine zrun hF [(.iconst 1, 1, pI 1)] 109 _ (by decide +kernel) ?_
  show zG w f 8 110 ([some (pR 64 0), none, some (pI x2), some (pI x3), some (pI x4), some (pI x5), none, none], [pI 1], (n, m))
  refine zgoto (tgt := 114) (pc := 110) hF (by decide +kernel) ?_
  exact m_X7_says_L114 hl hF hR  _ _ _ _ _ _  h

set_option maxHeartbeats 4000000 in
set_option maxRecDepth 100000 in
theorem m_X7_says_L113 {w : zWd} {f : zFr} {n : zMem} {x : Int32} {m0 : zMem} {lc : Launch} (hl : f.2.1 = lc) (hF : zFOK w f 7 cX7_says 8 5) (hR : zFin w f (some .int) (zQI w x (n, m0))) : ∀ (x2 : Int32) (x3 : Int32) (x4 : Int32) (x5 : Int32) (m : zMem), s_X7_says_L113 x2 x3 x4 x5 m = some (x, m0) → zG w f 8 113 ([some (pR 64 0), none, some (pI x2), some (pI x3), some (pI x4), some (pI x5), none, none], [], (n, m)) := by
  intro x2 x3 x4 x5 m h
  unfold s_X7_says_L113 at h
  refine zrun hF [(.iconst 0, 1, pI 0)] 113 _ (by decide +kernel) ?_
  show zG w f 8 114 ([some (pR 64 0), none, some (pI x2), some (pI x3), some (pI x4), some (pI x5), none, none], [pI 0], (n, m))
  exact m_X7_says_L114 hl hF hR  _ _ _ _ _ _  h

set_option maxHeartbeats 4000000 in
set_option maxRecDepth 100000 in
theorem m_X7_says_L97 {w : zWd} {f : zFr} {n : zMem} {x : Int32} {m0 : zMem} {lc : Launch} (hl : f.2.1 = lc) (hF : zFOK w f 7 cX7_says 8 5) (hR : zFin w f (some .int) (zQI w x (n, m0))) : ∀ (x2 : Int32) (x3 : Int32) (x4 : Int32) (x5 : Int32) (m : zMem), s_X7_says_L97 x2 x3 x4 x5 m = some (x, m0) → zG w f 8 97 ([some (pR 64 0), none, some (pI x2), some (pI x3), some (pI x4), some (pI x5), none, none], [], (n, m)) := by
  intro x2 x3 x4 x5 m h
  unfold s_X7_says_L97 at h
  refine zrun hF [(.iload_n 2, 1, pI 0), (.iconst 4, 1, pI 4)] 97 _ (by decide +kernel) ?_
  show zG w f 8 99 ([some (pR 64 0), none, some (pI x2), some (pI x3), some (pI x4), some (pI x5), none, none], [pI 4, pI x2], (n, m))
  refine zicmp_ne (tgt := 113) (pc := 99) hF (by decide +kernel) (fun b31 => ?_) (fun b31 => ?_)
  · replace h := zit b31 h
    refine zrun hF [(.iload 4, 2, pI 0), (.bipush 6, 2, pI 6)] 102 _ (by decide +kernel) ?_
    show zG w f 8 106 ([some (pR 64 0), none, some (pI x2), some (pI x3), some (pI x4), some (pI x5), none, none], [pI 6, pI x4], (n, m))
    refine zicmp_ne (tgt := 113) (pc := 106) hF (by decide +kernel) (fun b32 => ?_) (fun b32 => ?_)
    · replace h := zit b32 h
      exact m_X7_says_L109 hl hF hR  _ _ _ _ _  h
    · replace h := zif b32 h
      exact m_X7_says_L113 hl hF hR  _ _ _ _ _  h
  · replace h := zif b31 h
    exact m_X7_says_L113 hl hF hR  _ _ _ _ _  h

set_option maxHeartbeats 4000000 in
set_option maxRecDepth 100000 in
theorem m_X7_says_L86 {w : zWd} {f : zFr} {n : zMem} {x : Int32} {m0 : zMem} {lc : Launch} (hl : f.2.1 = lc) (hF : zFOK w f 7 cX7_says 8 5) (hR : zFin w f (some .int) (zQI w x (n, m0))) : ∀ (x2 : Int32) (x3 : Int32) (x4 : Int32) (x5 : Int32) (m : zMem), s_X7_says_L86 x2 x3 x4 x5 m = some (x, m0) → zG w f 8 86 ([some (pR 64 0), none, some (pI x2), some (pI x3), some (pI x4), some (pI x5), none, none], [], (n, m)) := by
  intro x2 x3 x4 x5 m h
  unfold s_X7_says_L86 at h
  refine zrun hF [(.iload_n 2, 1, pI 0), (.iconst 2, 1, pI 2)] 86 _ (by decide +kernel) ?_
  show zG w f 8 88 ([some (pR 64 0), none, some (pI x2), some (pI x3), some (pI x4), some (pI x5), none, none], [pI 2, pI x2], (n, m))
  refine zicmp_ne (tgt := 97) (pc := 88) hF (by decide +kernel) (fun b23 => ?_) (fun b23 => ?_)
  · replace h := zit b23 h
    refine zrun hF [(.iload 4, 2, pI 0), (.iconst 5, 1, pI 5)] 91 _ (by decide +kernel) ?_
    show zG w f 8 94 ([some (pR 64 0), none, some (pI x2), some (pI x3), some (pI x4), some (pI x5), none, none], [pI 5, pI x4], (n, m))
    refine zicmp_eq (tgt := 109) (pc := 94) hF (by decide +kernel) (fun b24 => ?_) (fun b24 => ?_)
    · replace h := zit b24 h
      exact m_X7_says_L109 hl hF hR  _ _ _ _ _  h
    · replace h := zif b24 h
      exact m_X7_says_L97 hl hF hR  _ _ _ _ _  h
  · replace h := zif b23 h
    exact m_X7_says_L97 hl hF hR  _ _ _ _ _  h

set_option maxHeartbeats 4000000 in
set_option maxRecDepth 100000 in
theorem m_X7_says {w : zWd} {lc : Launch} {n : zMem} {a1 : Int32} {a2 : Int32} {m : zMem} {x : Int32} {m0 : zMem}  (h : s_X7_says a1 a2 m = some (x, m0)) : zMet w lc 5 yX7_says cX7_says 8 (some .int) [pR 64 0, pI a1, pI a2] (n, m) (zQI w x (n, m0)) := by
  refine zmet (o := 7) (by decide +kernel) rfl (Nat.le_of_ble_eq_true rfl) rfl (fun f hl hF hR => ?_)
  unfold s_X7_says at h
  show zG w f 8 0 ([some (pR 64 0), some (pI a1), some (pI a2), none, none, none, none, none], [], (n, m))
  refine zrun hF [(.aload_n 0, 1, pI 0), (.iload_n 1, 1, pI 0)] 0 _ (by decide +kernel) ?_
  show zG w f 8 2 ([some (pR 64 0), some (pI a1), some (pI a2), none, none, none, none, none], [pI a1, pR 64 0], (n, m))
  obtain ⟨r2, q1, h⟩ := zr_k h
  refine zcallVI (pc := 2) (As := [pI a1]) (st := []) (c := 64) (j := 0) hF (m_X7_isShelf  q1) w_X7_isShelf k_7_96 (by decide +kernel) rfl rfl rfl rfl rfl rfl rfl ?_
  refine zif_eq (tgt := 18) (pc := 5) hF (by decide +kernel) (fun b3 => ?_) (fun b3 => ?_)
  · replace h := zit b3 h
    refine zcut [true, false, false, true, true, true, true, true] ?_
    exact m_X7_says_L18 hl hF hR  _  h
  · replace h := zif b3 h
    refine zrun hF [(.iload_n 2, 1, pI 0)] 8 _ (by decide +kernel) ?_
    show zG w f 8 9 ([some (pR 64 0), some (pI a1), some (pI a2), none, none, none, none, none], [pI a2], (n, m))
    refine zif_lt (tgt := 18) (pc := 9) hF (by decide +kernel) (fun b4 => ?_) (fun b4 => ?_)
    · replace h := zit b4 h
      refine zcut [true, false, false, true, true, true, true, true] ?_
      exact m_X7_says_L18 hl hF hR  _  h
    · replace h := zif b4 h
      refine zrun hF [(.iload_n 2, 1, pI 0), (.bipush 6, 2, pI 6)] 12 _ (by decide +kernel) ?_
      show zG w f 8 15 ([some (pR 64 0), some (pI a1), some (pI a2), none, none, none, none, none], [pI 6, pI a2], (n, m))
      refine zicmp_le (tgt := 24) (pc := 15) hF (by decide +kernel) (fun b5 => ?_) (fun b5 => ?_)
      · replace h := zit b5 h
        obtain ⟨c6, h⟩ := zchk h
        refine zrun hF [(.aload_n 0, 1, pI 0), (.getfield 38, 3, pR 64 13), (.iload_n 1, 1, pI 0), (.iaload, 1, pI 0), (.iconst 1, 1, pI 1)] 24 _ (by decide +kernel) ?_
        refine (And.intro rfl (And.intro rfl (And.intro rfl (And.intro rfl (And.intro c6 ?_)))))
        show zG w f 8 31 ([some (pR 64 0), some (pI a1), some (pI a2), none, none, none, none, none], [pI 1, pI (m.1 71 0 (ix a1))], (n, m))
        refine zicmp_ne (tgt := 41) (pc := 31) hF (by decide +kernel) (fun b7 => ?_) (fun b7 => ?_)
        · replace h := zit b7 h
          refine zrun hF [(.aload_n 0, 1, pI 0), (.bipush (-2), 2, pI (-2))] 34 _ (by decide +kernel) ?_
          show zG w f 8 37 ([some (pR 64 0), some (pI a1), some (pI a2), none, none, none, none, none], [pI (-2), pR 64 0], (n, m))
          obtain ⟨r9, m10, q8, h⟩ := zb_k h
          refine zcallVI (pc := 37) (As := [pI (-2)]) (st := []) (c := 64) (j := 0) hF (m_X7_no  q8) w_X7_no k_7_100 (by decide +kernel) rfl rfl rfl rfl rfl rfl rfl ?_
          exact zretI (pc := 40) hF hR (by decide +kernel) rfl (congrArg Prod.fst (Option.some.inj h)) (congrArg (fun (q : Int32 × zMem) => (n, q.2)) (Option.some.inj h))
        · replace h := zif b7 h
          refine zrun hF [(.aload_n 0, 1, pI 0), (.getfield 38, 3, pR 64 13), (.iload_n 1, 1, pI 0), (.iaload, 1, pI 0)] 41 _ (by decide +kernel) ?_
          refine (And.intro rfl (And.intro rfl (And.intro rfl (And.intro rfl (And.intro c6 ?_)))))
          show zG w f 8 47 ([some (pR 64 0), some (pI a1), some (pI a2), none, none, none, none, none], [pI (m.1 71 0 (ix a1))], (n, m))
          refine zif_ne (tgt := 57) (pc := 47) hF (by decide +kernel) (fun b11 => ?_) (fun b11 => ?_)
          · replace h := zit b11 h
            refine zrun hF [(.aload_n 0, 1, pI 0), (.bipush (-3), 2, pI (-3))] 50 _ (by decide +kernel) ?_
            show zG w f 8 53 ([some (pR 64 0), some (pI a1), some (pI a2), none, none, none, none, none], [pI (-3), pR 64 0], (n, m))
            obtain ⟨r13, m14, q12, h⟩ := zb_k h
            refine zcallVI (pc := 53) (As := [pI (-3)]) (st := []) (c := 64) (j := 0) hF (m_X7_no  q12) w_X7_no k_7_100 (by decide +kernel) rfl rfl rfl rfl rfl rfl rfl ?_
            exact zretI (pc := 56) hF hR (by decide +kernel) rfl (congrArg Prod.fst (Option.some.inj h)) (congrArg (fun (q : Int32 × zMem) => (n, q.2)) (Option.some.inj h))
          · replace h := zif b11 h
            refine zrun hF [(.aload_n 0, 1, pI 0), (.getfield 47, 3, pR 64 16), (.iload_n 1, 1, pI 0), (.iaload, 1, pI 0), (.istore_n 3, 1, pI 0)] 57 _ (by decide +kernel) ?_
            refine (And.intro rfl (And.intro rfl (And.intro rfl (And.intro rfl (And.intro c6 (And.intro rfl ?_))))))
            refine zlet_k (P := fun (v15 : Int32) => zG w f 8 64 ([some (pR 64 0), some (pI a1), some (pI a2), some (pI v15), none, none, none, none], [], (n, m))) h (fun v15 h => ?_)
            obtain ⟨c16, h⟩ := zchk h
            refine zrun hF [(.aload_n 0, 1, pI 0), (.getfield 23, 3, pR 64 8), (.iload_n 3, 1, pI 0), (.iaload, 1, pI 0), (.istore 4, 2, pI 0)] 64 _ (by decide +kernel) ?_
            refine (And.intro rfl (And.intro rfl (And.intro rfl (And.intro rfl (And.intro c16 (And.intro rfl ?_))))))
            refine zlet_k (P := fun (v17 : Int32) => zG w f 8 72 ([some (pR 64 0), some (pI a1), some (pI a2), some (pI v15), some (pI v17), none, none, none], [], (n, m))) h (fun v17 h => ?_)
            refine zrun hF [(.iconst 0, 1, pI 0), (.istore 5, 2, pI 0), (.iload_n 2, 1, pI 0), (.iconst 1, 1, pI 1)] 72 _ (by decide +kernel) ?_
            refine (And.intro rfl ?_)
            show zG w f 8 77 ([some (pR 64 0), some (pI a1), some (pI a2), some (pI v15), some (pI v17), some (pI 0), none, none], [pI 1, pI a2], (n, m))
            refine zicmp_ne (tgt := 86) (pc := 77) hF (by decide +kernel) (fun b18 => ?_) (fun b18 => ?_)
            · replace h := zit b18 h
              refine zrun hF [(.iload 4, 2, pI 0), (.iconst 3, 1, pI 3)] 80 _ (by decide +kernel) ?_
              show zG w f 8 83 ([some (pR 64 0), some (pI a1), some (pI a2), some (pI v15), some (pI v17), some (pI 0), none, none], [pI 3, pI v17], (n, m))
              refine zicmp_eq (tgt := 109) (pc := 83) hF (by decide +kernel) (fun b19 => ?_) (fun b19 => ?_)
              · replace h := zit b19 h
                refine zcut [true, false, true, true, true, true, true, true] ?_
                exact m_X7_says_L109 hl hF hR  _ _ _ _ _  h
              · replace h := zif b19 h
                refine zcut [true, false, true, true, true, true, true, true] ?_
                exact m_X7_says_L86 hl hF hR  _ _ _ _ _  h
            · replace h := zif b18 h
              refine zcut [true, false, true, true, true, true, true, true] ?_
              exact m_X7_says_L86 hl hF hR  _ _ _ _ _  h
      · replace h := zif b5 h
        refine zcut [true, false, false, true, true, true, true, true] ?_
        exact m_X7_says_L18 hl hF hR  _  h

