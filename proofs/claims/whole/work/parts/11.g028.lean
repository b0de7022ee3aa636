set_option maxHeartbeats 4000000 in
set_option maxRecDepth 100000 in
theorem m_X7_looking_L78 {w : zWd} {f : zFr} {n : zMem} {x : Int32} {m0 : zMem} {lc : Launch} (hl : f.2.1 = lc) (hF : zFOK w f 7 cX7_looking 5 4) (hR : zFin w f (some .int) (zQI w x (n, m0))) : ∀ (x4 : Int32) (m : zMem), s_X7_looking_L78 x4 m = some (x, m0) → zG w f 5 78 ([none, none, none, none, some (pI x4)], [], (n, m)) := by
  intro x4 m h
  unfold s_X7_looking_L78 at h
  refine zrun hF [(.iload 4, 2, pI 0), (.ineg, 1, pI 0)] 78 _ (by decide +kernel) ?_
  show zG w f 5 81 ([none, none, none, none, some (pI x4)], [pI (-x4)], (n, m))
  refine zgoto (tgt := 98) (pc := 81) hF (by decide +kernel) ?_
  exact zretI (pc := 98) hF hR (by decide +kernel) rfl (congrArg Prod.fst (Option.some.inj h)) (congrArg (fun (q : Int32 × zMem) => (n, q.2)) (Option.some.inj h))

set_option maxHeartbeats 4000000 in
set_option maxRecDepth 100000 in
theorem m_X7_looking_L35 {w : zWd} {f : zFr} {n : zMem} {x : Int32} {m0 : zMem} {lc : Launch} (hl : f.2.1 = lc) (hF : zFOK w f 7 cX7_looking 5 4) (hR : zFin w f (some .int) (zQI w x (n, m0))) : ∀ (x1 : Int32) (x2 : Int32) (x3 : Int32) (m : zMem), s_X7_looking_L35 x1 x2 x3 m = some (x, m0) → zG w f 5 35 ([some (pR 64 0), some (pI x1), some (pI x2), some (pI x3), none], [], (n, m)) := by
  intro x1 x2 x3 m h
  unfold s_X7_looking_L35 at h
  refine zrun hF [(.aload_n 0, 1, pI 0), (.bipush 12, 2, pI 12)] 35 _ (by decide +kernel) ?_
  show zG w f 5 38 ([some (pR 64 0), some (pI x1), some (pI x2), some (pI x3), none], [pI 12, pR 64 0], (n, m))
  obtain ⟨m14, q12, h⟩ := zr_k h
  refine zcallVV (pc := 38) (As := [pI 12]) (st := []) (c := 64) (j := 0) hF (m_X7_body  q12) w_X7_body k_7_299 (by decide +kernel) rfl rfl rfl rfl rfl rfl rfl ?_
  refine zrun hF [(.aload_n 0, 1, pI 0), (.iload_n 1, 1, pI 0), (.iload_n 2, 1, pI 0)] 41 _ (by decide +kernel) ?_
  show zG w f 5 44 ([some (pR 64 0), some (pI x1), some (pI x2), some (pI x3), none], [pI x2, pI x1, pR 64 0], (n, m14))
  obtain ⟨r16, m17, q15, h⟩ := zb_k h
  refine zcallVI (pc := 44) (As := [pI x1, pI x2]) (st := []) (c := 64) (j := 0) hF (m_X7_waiting  q15) w_X7_waiting k_7_306 (by decide +kernel) rfl rfl rfl rfl rfl rfl rfl ?_
  obtain ⟨c18, h⟩ := zchk h
  refine zrun hF [(.istore 4, 2, pI 0), (.iload 4, 2, pI 0), (.aload_n 0, 1, pI 0), (.iload_n 1, 1, pI 0), (.iload_n 2, 1, pI 0), (.aload_n 0, 1, pI 0), (.getfield 26, 3, pR 64 9), (.iload_n 1, 1, pI 0), (.iaload, 1, pI 0), (.isub, 1, pI 0)] 47 _ (by decide +kernel) ?_
  refine (And.intro rfl (And.intro rfl (And.intro rfl (And.intro rfl (And.intro rfl (And.intro c18 ?_))))))
  show zG w f 5 61 ([some (pR 64 0), some (pI x1), some (pI x2), some (pI x3), some (pI r16)], [pI (x2 - (m17.1 67 0 (ix x1))), pI x1, pR 64 0, pI r16], (n, m17))
  obtain ⟨r20, m21, q19, h⟩ := zb_k h
  refine zcallVI (pc := 61) (As := [pI x1, pI (x2 - (m17.1 67 0 (ix x1)))]) (st := [pI r16]) (c := 64) (j := 0) hF (m_X7_clinking  q19) w_X7_clinking k_7_303 (by decide +kernel) rfl rfl rfl rfl rfl rfl rfl ?_
  refine zrun hF [(.ixor, 1, pI 0), (.istore 4, 2, pI 0), (.iload_n 3, 1, pI 0), (.iconst 4, 1, pI 4)] 64 _ (by decide +kernel) ?_
  refine (And.intro rfl ?_)
  show zG w f 5 69 ([some (pR 64 0), some (pI x1), some (pI x2), some (pI x3), some (pI (r16 ^^^ r20))], [pI 4, pI x3], (n, m21))
  refine zicmp_eq (tgt := 78) (pc := 69) hF (by decide +kernel) (fun b22 => ?_) (fun b22 => ?_)
  · replace h := zit b22 h
    refine zcut [false, false, false, false, true] ?_
    exact m_X7_looking_L78 hl hF hR  _ _  h
  · replace h := zif b22 h
    refine zrun hF [(.iload_n 3, 1, pI 0), (.bipush 6, 2, pI 6)] 72 _ (by decide +kernel) ?_
    show zG w f 5 75 ([some (pR 64 0), some (pI x1), some (pI x2), some (pI x3), some (pI (r16 ^^^ r20))], [pI 6, pI x3], (n, m21))
    refine zicmp_ne (tgt := 84) (pc := 75) hF (by decide +kernel) (fun b23 => ?_) (fun b23 => ?_)
    · replace h := zit b23 h
      refine zcut [false, false, false, false, true] ?_
      exact m_X7_looking_L78 hl hF hR  _ _  h
    · replace h := zif b23 h
      refine zrun hF [(.iload_n 3, 1, pI 0), (.iconst 5, 1, pI 5)] 84 _ (by decide +kernel) ?_
      show zG w f 5 86 ([some (pR 64 0), some (pI x1), some (pI x2), some (pI x3), some (pI (r16 ^^^ r20))], [pI 5, pI x3], (n, m21))
      refine zicmp_ne (tgt := 96) (pc := 86) hF (by decide +kernel) (fun b24 => ?_) (fun b24 => ?_)
      · replace h := zit b24 h
        refine zrun hF [(.iload 4, 2, pI 0), (.iconst 5, 1, pI 5), (.ixor, 1, pI 0)] 89 _ (by decide +kernel) ?_
        show zG w f 5 93 ([some (pR 64 0), some (pI x1), some (pI x2), some (pI x3), some (pI (r16 ^^^ r20))], [pI ((r16 ^^^ r20) ^^^ 5)], (n, m21))
        refine zgoto (tgt := 98) (pc := 93) hF (by decide +kernel) ?_
        exact zretI (pc := 98) hF hR (by decide +kernel) rfl (congrArg Prod.fst (Option.some.inj h)) (congrArg (fun (q : Int32 × zMem) => (n, q.2)) (Option.some.inj h))
      · replace h := zif b24 h
        refine zrun hF [(.iload 4, 2, pI 0)] 96 _ (by decide +kernel) ?_
        show zG w f 5 98 ([some (pR 64 0), some (pI x1), some (pI x2), some (pI x3), some (pI (r16 ^^^ r20))], [pI (r16 ^^^ r20)], (n, m21))
        exact zretI (pc := 98) hF hR (by decide +kernel) rfl (congrArg Prod.fst (Option.some.inj h)) (congrArg (fun (q : Int32 × zMem) => (n, q.2)) (Option.some.inj h))

set_option maxHeartbeats 4000000 in
set_option maxRecDepth 100000 in
theorem m_X7_looking_L24 {w : zWd} {f : zFr} {n : zMem} {x : Int32} {m0 : zMem} {lc : Launch} (hl : f.2.1 = lc) (hF : zFOK w f 7 cX7_looking 5 4) (hR : zFin w f (some .int) (zQI w x (n, m0))) : ∀ (x1 : Int32) (x2 : Int32) (x3 : Int32) (m : zMem), s_X7_looking_L24 x1 x2 x3 m = some (x, m0) → zG w f 5 24 ([some (pR 64 0), some (pI x1), some (pI x2), some (pI x3), none], [], (n, m)) := by
  intro x1 x2 x3 m h
  unfold s_X7_looking_L24 at h
  refine zrun hF [(.iload_n 3, 1, pI 0), (.iconst 5, 1, pI 5)] 24 _ (by decide +kernel) ?_
  show zG w f 5 26 ([some (pR 64 0), some (pI x1), some (pI x2), some (pI x3), none], [pI 5, pI x3], (n, m))
  refine zicmp_ne (tgt := 35) (pc := 26) hF (by decide +kernel) (fun b8 => ?_) (fun b8 => ?_)
  · replace h := zit b8 h
    refine zrun hF [(.aload_n 0, 1, pI 0), (.bipush 60, 2, pI 60)] 29 _ (by decide +kernel) ?_
    show zG w f 5 32 ([some (pR 64 0), some (pI x1), some (pI x2), some (pI x3), none], [pI 60, pR 64 0], (n, m))
    obtain ⟨m11, q9, h⟩ := zr_k h
    refine zcallVV (pc := 32) (As := [pI 60]) (st := []) (c := 64) (j := 0) hF (m_X7_body  q9) w_X7_body k_7_299 (by decide +kernel) rfl rfl rfl rfl rfl rfl rfl ?_
    exact m_X7_looking_L35 hl hF hR  _ _ _ _  h
  · replace h := zif b8 h
    exact m_X7_looking_L35 hl hF hR  _ _ _ _  h

set_option maxHeartbeats 4000000 in
set_option maxRecDepth 100000 in
theorem m_X7_looking_L18 {w : zWd} {f : zFr} {n : zMem} {x : Int32} {m0 : zMem} {lc : Launch} (hl : f.2.1 = lc) (hF : zFOK w f 7 cX7_looking 5 4) (hR : zFin w f (some .int) (zQI w x (n, m0))) : ∀ (x1 : Int32) (x2 : Int32) (x3 : Int32) (m : zMem), s_X7_looking_L18 x1 x2 x3 m = some (x, m0) → zG w f 5 18 ([some (pR 64 0), some (pI x1), some (pI x2), some (pI x3), none], [], (n, m)) := by
  intro x1 x2 x3 m h
  unfold s_X7_looking_L18 at h
  refine zrun hF [(.aload_n 0, 1, pI 0), (.bipush 50, 2, pI 50)] 18 _ (by decide +kernel) ?_
  show zG w f 5 21 ([some (pR 64 0), some (pI x1), some (pI x2), some (pI x3), none], [pI 50, pR 64 0], (n, m))
  obtain ⟨m7, q5, h⟩ := zr_k h
  refine zcallVV (pc := 21) (As := [pI 50]) (st := []) (c := 64) (j := 0) hF (m_X7_body  q5) w_X7_body k_7_299 (by decide +kernel) rfl rfl rfl rfl rfl rfl rfl ?_
  exact m_X7_looking_L24 hl hF hR  _ _ _ _  h

set_option maxHeartbeats 4000000 in
set_option maxRecDepth 100000 in
theorem m_X7_looking {w : zWd} {lc : Launch} {n : zMem} {a1 : Int32} {a2 : Int32} {m : zMem} {x : Int32} {m0 : zMem}  (h : s_X7_looking a1 a2 m = some (x, m0)) : zMet w lc 4 yX7_looking cX7_looking 5 (some .int) [pR 64 0, pI a1, pI a2] (n, m) (zQI w x (n, m0)) := by
  refine zmet (o := 7) (by decide +kernel) rfl (Nat.le_of_ble_eq_true rfl) rfl (fun f hl hF hR => ?_)
  unfold s_X7_looking at h
  show zG w f 5 0 ([some (pR 64 0), some (pI a1), some (pI a2), none, none], [], (n, m))
  obtain ⟨c1, h⟩ := zchk h
  refine zrun hF [(.aload_n 0, 1, pI 0), (.getfield 23, 3, pR 64 8), (.iload_n 1, 1, pI 0), (.iaload, 1, pI 0), (.istore_n 3, 1, pI 0)] 0 _ (by decide +kernel) ?_
  refine (And.intro rfl (And.intro rfl (And.intro rfl (And.intro rfl (And.intro c1 (And.intro rfl ?_))))))
  refine zlet_k (P := fun (v2 : Int32) => zG w f 5 7 ([some (pR 64 0), some (pI a1), some (pI a2), some (pI v2), none], [], (n, m))) h (fun v2 h => ?_)
  refine zrun hF [(.iload_n 3, 1, pI 0), (.iconst 4, 1, pI 4)] 7 _ (by decide +kernel) ?_
  show zG w f 5 9 ([some (pR 64 0), some (pI a1), some (pI a2), some (pI v2), none], [pI 4, pI v2], (n, m))
  refine zicmp_eq (tgt := 18) (pc := 9) hF (by decide +kernel) (fun b3 => ?_) (fun b3 => ?_)
  · replace h := zit b3 h
    exact m_X7_looking_L18 hl hF hR  _ _ _ _  h
  · replace h := zif b3 h
    refine zrun hF [(.iload_n 3, 1, pI 0), (.bipush 6, 2, pI 6)] 12 _ (by decide +kernel) ?_
    show zG w f 5 15 ([some (pR 64 0), some (pI a1), some (pI a2), some (pI v2), none], [pI 6, pI v2], (n, m))
    refine zicmp_ne (tgt := 24) (pc := 15) hF (by decide +kernel) (fun b4 => ?_) (fun b4 => ?_)
    · replace h := zit b4 h
      exact m_X7_looking_L18 hl hF hR  _ _ _ _  h
    · replace h := zif b4 h
      exact m_X7_looking_L24 hl hF hR  _ _ _ _  h

set_option maxHeartbeats 4000000 in
set_option maxRecDepth 100000 in
theorem m_X7_act {w : zWd} {lc : Launch} {n : zMem} {a1 : Int32} {a2 : Int32} {a3 : Int32} {m : zMem} {x : Int32} {m0 : zMem}  (h : s_X7_act a1 a2 a3 m = some (x, m0)) : zMet w lc 5 yX7_act cX7_act 4 (some .int) [pR 64 0, pI a1, pI a2, pI a3] (n, m) (zQI w x (n, m0)) := by
  refine zmet (o := 7) (by decide +kernel) rfl (Nat.le_of_ble_eq_true rfl) rfl (fun f hl hF hR => ?_)
  unfold s_X7_act at h
  show zG w f 4 0 ([some (pR 64 0), some (pI a1), some (pI a2), some (pI a3)], [], (n, m))
  refine zrun hF [(.aload_n 0, 1, pI 0), (.iconst 0, 1, pI 0), (.putfield 296, 3, pR 64 40)] 0 _ (by decide +kernel) ?_
  refine (And.intro rfl (And.intro rfl (And.intro trivial ?_)))
  refine zlet_k (P := fun (m1 : zMem) => zG w f 4 5 ([some (pR 64 0), some (pI a1), some (pI a2), some (pI a3)], [], (n, m1))) h (fun m1 h => ?_)
  refine zrun hF [(.aload_n 0, 1, pI 0), (.iload_n 1, 1, pI 0)] 5 _ (by decide +kernel) ?_
  show zG w f 4 7 ([some (pR 64 0), some (pI a1), some (pI a2), some (pI a3)], [pI a1, pR 64 0], (n, m1))
  obtain ⟨r3, q2, h⟩ := zr_k h
  refine zcallVI (pc := 7) (As := [pI a1]) (st := []) (c := 64) (j := 0) hF (m_X7_isGuest  q2) w_X7_isGuest k_7_104 (by decide +kernel) rfl rfl rfl rfl rfl rfl rfl ?_
  refine zif_eq (tgt := 22) (pc := 10) hF (by decide +kernel) (fun b4 => ?_) (fun b4 => ?_)
  · replace h := zit b4 h
    refine zrun hF [(.iconst 0, 1, pI 0)] 22 _ (by decide +kernel) ?_
    show zG w f 4 23 ([some (pR 64 0), some (pI a1), some (pI a2), some (pI a3)], [pI 0], (n, m1))
    exact zretI (pc := 23) hF hR (by decide +kernel) rfl (congrArg Prod.fst (Option.some.inj h)) (congrArg (fun (q : Int32 × zMem) => (n, q.2)) (Option.some.inj h))
  · replace h := zif b4 h
    refine zrun hF [(.iload_n 2, 1, pI 0)] 13 _ (by decide +kernel) ?_
    show zG w f 4 14 ([some (pR 64 0), some (pI a1), some (pI a2), some (pI a3)], [pI a2], (n, m1))
    refine zif_lt (tgt := 22) (pc := 14) hF (by decide +kernel) (fun b5 => ?_) (fun b5 => ?_)
    · replace h := zit b5 h
      refine zrun hF [(.iconst 0, 1, pI 0)] 22 _ (by decide +kernel) ?_
      show zG w f 4 23 ([some (pR 64 0), some (pI a1), some (pI a2), some (pI a3)], [pI 0], (n, m1))
      exact zretI (pc := 23) hF hR (by decide +kernel) rfl (congrArg Prod.fst (Option.some.inj h)) (congrArg (fun (q : Int32 × zMem) => (n, q.2)) (Option.some.inj h))
    · replace h := zif b5 h
      refine zrun hF [(.iload_n 2, 1, pI 0), (.iconst 2, 1, pI 2)] 17 _ (by decide +kernel) ?_
      show zG w f 4 19 ([some (pR 64 0), some (pI a1), some (pI a2), some (pI a3)], [pI 2, pI a2], (n, m1))
      refine zicmp_le (tgt := 24) (pc := 19) hF (by decide +kernel) (fun b6 => ?_) (fun b6 => ?_)
      · replace h := zit b6 h
        refine zrun hF [(.iload_n 2, 1, pI 0)] 24 _ (by decide +kernel) ?_
        show zG w f 4 25 ([some (pR 64 0), some (pI a1), some (pI a2), some (pI a3)], [pI a2], (n, m1))
        refine zif_ne (tgt := 37) (pc := 25) hF (by decide +kernel) (fun b7 => ?_) (fun b7 => ?_)
        · replace h := zit b7 h
          refine zrun hF [(.aload_n 0, 1, pI 0), (.iload_n 1, 1, pI 0), (.iload_n 3, 1, pI 0)] 28 _ (by decide +kernel) ?_
          show zG w f 4 31 ([some (pR 64 0), some (pI a1), some (pI a2), some (pI a3)], [pI a3, pI a1, pR 64 0], (n, m1))
          obtain ⟨r9, m10, q8, h⟩ := zb_k h
          refine zcallVI (pc := 31) (As := [pI a1, pI a3]) (st := []) (c := 64) (j := 0) hF (m_X7_clinking  q8) w_X7_clinking k_7_303 (by decide +kernel) rfl rfl rfl rfl rfl rfl rfl ?_
          refine zgoto (tgt := 57) (pc := 34) hF (by decide +kernel) ?_
          exact zretI (pc := 57) hF hR (by decide +kernel) rfl (congrArg Prod.fst (Option.some.inj h)) (congrArg (fun (q : Int32 × zMem) => (n, q.2)) (Option.some.inj h))
        · replace h := zif b7 h
          refine zrun hF [(.iload_n 2, 1, pI 0), (.iconst 1, 1, pI 1)] 37 _ (by decide +kernel) ?_
          show zG w f 4 39 ([some (pR 64 0), some (pI a1), some (pI a2), some (pI a3)], [pI 1, pI a2], (n, m1))
          refine zicmp_ne (tgt := 51) (pc := 39) hF (by decide +kernel) (fun b11 => ?_) (fun b11 => ?_)
          · replace h := zit b11 h
            refine zrun hF [(.aload_n 0, 1, pI 0), (.iload_n 1, 1, pI 0), (.iload_n 3, 1, pI 0)] 42 _ (by decide +kernel) ?_
            show zG w f 4 45 ([some (pR 64 0), some (pI a1), some (pI a2), some (pI a3)], [pI a3, pI a1, pR 64 0], (n, m1))
            obtain ⟨r13, m14, q12, h⟩ := zb_k h
            refine zcallVI (pc := 45) (As := [pI a1, pI a3]) (st := []) (c := 64) (j := 0) hF (m_X7_waiting  q12) w_X7_waiting k_7_306 (by decide +kernel) rfl rfl rfl rfl rfl rfl rfl ?_
            refine zgoto (tgt := 57) (pc := 48) hF (by decide +kernel) ?_
            exact zretI (pc := 57) hF hR (by decide +kernel) rfl (congrArg Prod.fst (Option.some.inj h)) (congrArg (fun (q : Int32 × zMem) => (n, q.2)) (Option.some.inj h))
          · replace h := zif b11 h
            refine zrun hF [(.aload_n 0, 1, pI 0), (.iload_n 1, 1, pI 0), (.iload_n 3, 1, pI 0)] 51 _ (by decide +kernel) ?_
            show zG w f 4 54 ([some (pR 64 0), some (pI a1), some (pI a2), some (pI a3)], [pI a3, pI a1, pR 64 0], (n, m1))
            obtain ⟨r16, m17, q15, h⟩ := zb_k h
            refine zcallVI (pc := 54) (As := [pI a1, pI a3]) (st := []) (c := 64) (j := 0) hF (m_X7_looking  q15) w_X7_looking k_7_309 (by decide +kernel) rfl rfl rfl rfl rfl rfl rfl ?_
            exact zretI (pc := 57) hF hR (by decide +kernel) rfl (congrArg Prod.fst (Option.some.inj h)) (congrArg (fun (q : Int32 × zMem) => (n, q.2)) (Option.some.inj h))
      · replace h := zif b6 h
        refine zrun hF [(.iconst 0, 1, pI 0)] 22 _ (by decide +kernel) ?_
        show zG w f 4 23 ([some (pR 64 0), some (pI a1), some (pI a2), some (pI a3)], [pI 0], (n, m1))
        exact zretI (pc := 23) hF hR (by decide +kernel) rfl (congrArg Prod.fst (Option.some.inj h)) (congrArg (fun (q : Int32 × zMem) => (n, q.2)) (Option.some.inj h))

set_option maxHeartbeats 4000000 in
set_option maxRecDepth 100000 in
theorem m_X0_bodyAt {w : zWd} {lc : Launch} {n : zMem} {a1 : Int32} {m : zMem} {x : Int32}  (h : s_X0_bodyAt a1 m = some x) : zMet w lc 1 yX0_bodyAt cX0_bodyAt 2 (some .int) [pR 20 0, pI a1] (m, n) (zQI w x (m, n)) := by
  refine zmet (o := 0) (by decide +kernel) rfl (Nat.le_of_ble_eq_true rfl) rfl (fun f hl hF hR => ?_)
  unfold s_X0_bodyAt at h
  show zG w f 2 0 ([some (pR 20 0), some (pI a1)], [], (m, n))
  refine zrun hF [(.iload_n 1, 1, pI 0)] 0 _ (by decide +kernel) ?_
  show zG w f 2 1 ([some (pR 20 0), some (pI a1)], [pI a1], (m, n))
  refine zif_lt (tgt := 27) (pc := 1) hF (by decide +kernel) (fun b1 => ?_) (fun b1 => ?_)
  · replace h := zit b1 h
    refine zrun hF [(.iconst (-1), 1, pI (-1))] 27 _ (by decide +kernel) ?_
    show zG w f 2 28 ([some (pR 20 0), some (pI a1)], [pI (-1)], (m, n))
    exact zretI (pc := 28) hF hR (by decide +kernel) rfl (Option.some.inj h) rfl
  · replace h := zif b1 h
    refine zrun hF [(.iload_n 1, 1, pI 0), (.aload_n 0, 1, pI 0), (.getfield 15, 3, pR 20 1)] 4 _ (by decide +kernel) ?_
    refine (And.intro rfl (And.intro rfl ?_))
    show zG w f 2 9 ([some (pR 20 0), some (pI a1)], [pI (m.1 20 0 1), pI a1], (m, n))
    refine zicmp_ge (tgt := 27) (pc := 9) hF (by decide +kernel) (fun b2 => ?_) (fun b2 => ?_)
    · replace h := zit b2 h
      refine zrun hF [(.iconst (-1), 1, pI (-1))] 27 _ (by decide +kernel) ?_
      show zG w f 2 28 ([some (pR 20 0), some (pI a1)], [pI (-1)], (m, n))
      exact zretI (pc := 28) hF hR (by decide +kernel) rfl (Option.some.inj h) rfl
    · replace h := zif b2 h
      refine zrun hF [(.iload_n 1, 1, pI 0), (.bipush 20, 2, pI 20)] 12 _ (by decide +kernel) ?_
      show zG w f 2 15 ([some (pR 20 0), some (pI a1)], [pI 20, pI a1], (m, n))
      refine zicmp_ge (tgt := 27) (pc := 15) hF (by decide +kernel) (fun b3 => ?_) (fun b3 => ?_)
      · replace h := zit b3 h
        refine zrun hF [(.iconst (-1), 1, pI (-1))] 27 _ (by decide +kernel) ?_
        show zG w f 2 28 ([some (pR 20 0), some (pI a1)], [pI (-1)], (m, n))
        exact zretI (pc := 28) hF hR (by decide +kernel) rfl (Option.some.inj h) rfl
      · replace h := zif b3 h
        obtain ⟨c4, h⟩ := zchk h
        refine zrun hF [(.aload_n 0, 1, pI 0), (.getfield 9, 3, pR 20 0), (.iload_n 1, 1, pI 0), (.iaload, 1, pI 0)] 18 _ (by decide +kernel) ?_
        refine (And.intro rfl (And.intro rfl (And.intro rfl (And.intro rfl (And.intro c4 ?_)))))
        show zG w f 2 24 ([some (pR 20 0), some (pI a1)], [pI (m.1 21 0 (ix a1))], (m, n))
        refine zgoto (tgt := 28) (pc := 24) hF (by decide +kernel) ?_
        exact zretI (pc := 28) hF hR (by decide +kernel) rfl (Option.some.inj h) rfl

set_option maxHeartbeats 4000000 in
set_option maxRecDepth 100000 in
theorem m_X6_trace {w : zWd} {lc : Launch} {n : zMem} {a1 : Int32} {m : zMem} {x : Int32}  (h : s_X6_trace a1 m = some x) : zMet w lc 2 yX6_trace cX6_trace 2 (some .int) [pR 0 0, pI a1] (m, n) (zQI w x (m, n)) := by
  refine zmet (o := 6) (by decide +kernel) rfl (Nat.le_of_ble_eq_true rfl) rfl (fun f hl hF hR => ?_)
  unfold s_X6_trace at h
  show zG w f 2 0 ([some (pR 0 0), some (pI a1)], [], (m, n))
  refine zrun hF [(.aload_n 0, 1, pI 0), (.getfield 56, 3, pR 0 8), (.iload_n 1, 1, pI 0)] 0 _ (by decide +kernel) ?_
  refine (And.intro rfl (And.intro rfl ?_))
  show zG w f 2 5 ([some (pR 0 0), some (pI a1)], [pI a1, pR 20 0], (m, n))
  obtain ⟨r2, q1, h⟩ := zr_k h
  refine zcallVI (pc := 5) (As := [pI a1]) (st := []) (c := 20) (j := 0) hF (m_X0_bodyAt  q1) w_X0_bodyAt k_6_348 (by decide +kernel) rfl rfl rfl rfl rfl rfl rfl ?_
  exact zretI (pc := 8) hF hR (by decide +kernel) rfl (Option.some.inj h) rfl

set_option maxHeartbeats 4000000 in
set_option maxRecDepth 100000 in
theorem m_X7_trace {w : zWd} {lc : Launch} {n : zMem} {a1 : Int32} {m : zMem} {x : Int32}  (h : s_X7_trace a1 m = some x) : zMet w lc 1 yX7_trace cX7_trace 2 (some .int) [pR 64 0, pI a1] (n, m) (zQI w x (n, m)) := by
  refine zmet (o := 7) (by decide +kernel) rfl (Nat.le_of_ble_eq_true rfl) rfl (fun f hl hF hR => ?_)
  unfold s_X7_trace at h
  show zG w f 2 0 ([some (pR 64 0), some (pI a1)], [], (n, m))
  refine zrun hF [(.iload_n 1, 1, pI 0)] 0 _ (by decide +kernel) ?_
  show zG w f 2 1 ([some (pR 64 0), some (pI a1)], [pI a1], (n, m))
  refine zif_lt (tgt := 27) (pc := 1) hF (by decide +kernel) (fun b1 => ?_) (fun b1 => ?_)
  · replace h := zit b1 h
    refine zrun hF [(.iconst (-1), 1, pI (-1))] 27 _ (by decide +kernel) ?_
    show zG w f 2 28 ([some (pR 64 0), some (pI a1)], [pI (-1)], (n, m))
    exact zretI (pc := 28) hF hR (by decide +kernel) rfl (Option.some.inj h) rfl
  · replace h := zif b1 h
    refine zrun hF [(.iload_n 1, 1, pI 0), (.bipush 20, 2, pI 20)] 4 _ (by decide +kernel) ?_
    show zG w f 2 7 ([some (pR 64 0), some (pI a1)], [pI 20, pI a1], (n, m))
    refine zicmp_ge (tgt := 27) (pc := 7) hF (by decide +kernel) (fun b2 => ?_) (fun b2 => ?_)
    · replace h := zit b2 h
      refine zrun hF [(.iconst (-1), 1, pI (-1))] 27 _ (by decide +kernel) ?_
      show zG w f 2 28 ([some (pR 64 0), some (pI a1)], [pI (-1)], (n, m))
      exact zretI (pc := 28) hF hR (by decide +kernel) rfl (Option.some.inj h) rfl
    · replace h := zif b2 h
      refine zrun hF [(.iload_n 1, 1, pI 0), (.aload_n 0, 1, pI 0), (.getfield 296, 3, pR 64 40)] 10 _ (by decide +kernel) ?_
      refine (And.intro rfl (And.intro rfl ?_))
      show zG w f 2 15 ([some (pR 64 0), some (pI a1)], [pI (m.1 64 0 40), pI a1], (n, m))
      refine zicmp_ge (tgt := 27) (pc := 15) hF (by decide +kernel) (fun b3 => ?_) (fun b3 => ?_)
      · replace h := zit b3 h
        refine zrun hF [(.iconst (-1), 1, pI (-1))] 27 _ (by decide +kernel) ?_
        show zG w f 2 28 ([some (pR 64 0), some (pI a1)], [pI (-1)], (n, m))
        exact zretI (pc := 28) hF hR (by decide +kernel) rfl (Option.some.inj h) rfl
      · replace h := zif b3 h
        obtain ⟨c4, h⟩ := zchk h
        refine zrun hF [(.aload_n 0, 1, pI 0), (.getfield 90, 3, pR 64 39), (.iload_n 1, 1, pI 0), (.iaload, 1, pI 0)] 18 _ (by decide +kernel) ?_
        refine (And.intro rfl (And.intro rfl (And.intro rfl (And.intro rfl (And.intro c4 ?_)))))
        show zG w f 2 24 ([some (pR 64 0), some (pI a1)], [pI (m.1 88 0 (ix a1))], (n, m))
        refine zgoto (tgt := 28) (pc := 24) hF (by decide +kernel) ?_
        exact zretI (pc := 28) hF hR (by decide +kernel) rfl (Option.some.inj h) rfl

set_option maxHeartbeats 4000000 in
set_option maxRecDepth 100000 in
theorem m_X6_image {w : zWd} {lc : Launch} {n : zMem}  {m : zMem} {x : Int32} {m0 : zMem}  (h : s_X6_image m = some (x, m0)) : zMet w lc 2 yX6_image cX6_image 1 (some .int) [pR 0 0] (m, n) (zQI w x (m0, n)) := by
  refine zmet (o := 6) (by decide +kernel) rfl (Nat.le_of_ble_eq_true rfl) rfl (fun f hl hF hR => ?_)
  unfold s_X6_image at h
  show zG w f 1 0 ([some (pR 0 0)], [], (m, n))
  refine zrun hF [(.aload_n 0, 1, pI 0), (.getfield 19, 3, pR 0 2), (.aload_n 0, 1, pI 0), (.getfield 10, 3, pR 0 0)] 0 _ (by decide +kernel) ?_
  refine (And.intro rfl (And.intro rfl (And.intro rfl (And.intro rfl ?_))))
  show zG w f 1 8 ([some (pR 0 0)], [pR 1 0, pR 1 2], (m, n))
  obtain ⟨m3, q1, h⟩ := zr_k h
  refine zcallVV (pc := 8) (As := [pR 1 0]) (st := []) (c := 1) (j := 2) hF (m_X5_takeOver rfl rfl q1) w_X5_takeOver k_6_179 (by decide +kernel) rfl rfl rfl rfl rfl rfl rfl ?_
  refine zrun hF [(.aload_n 0, 1, pI 0), (.iconst 1, 1, pI 1), (.putfield 22, 3, pR 0 3)] 11 _ (by decide +kernel) ?_
  refine (And.intro rfl (And.intro rfl (And.intro (Or.inr rfl) ?_)))
  refine zlet_k (P := fun (m4 : zMem) => zG w f 1 16 ([some (pR 0 0)], [], (m4, n))) h (fun m4 h => ?_)
  refine zrun hF [(.aload_n 0, 1, pI 0), (.getfield 10, 3, pR 0 0), (.getfield 132, 3, pR 1 6)] 16 _ (by decide +kernel) ?_
  refine (And.intro rfl (And.intro rfl (And.intro rfl (And.intro rfl ?_))))
  show zG w f 1 23 ([some (pR 0 0)], [pI (m4.1 1 0 6)], (m4, n))
  exact zretI (pc := 23) hF hR (by decide +kernel) rfl (congrArg Prod.fst (Option.some.inj h)) (congrArg (fun (q : Int32 × zMem) => (q.2, n)) (Option.some.inj h))

set_option maxHeartbeats 4000000 in
set_option maxRecDepth 100000 in
theorem m_X7_carries_66_80_L39 {w : zWd} {f : zFr} {n : zMem} {x : Int32} {m0 : zMem} {lc : Launch} (hl : f.2.1 = lc) (hF : zFOK w f 7 cX7_carries 7 1) (hR : zFin w f (some .int) (zQI w x (n, m0))) {k3 : Int32 → Int32 → Int32 → Int32 → zMem → Option (Int32 × zMem)} (hk3 : ∀ (x2 : Int32) (x4 : Int32) (x5 : Int32) (x6 : Int32) (m : zMem), k3 x2 x4 x5 x6 m = some (x, m0) → zG w f 7 3 ([none, some (pR 66 0), some (pI x2), some (pR 80 0), some (pI x4), some (pI x5), some (pI x6)], [], (n, m))) : ∀ (x2 : Int32) (x4 : Int32) (x5 : Int32) (x6 : Int32) (m : zMem), s_X7_carries_66_80_L39 k3 x2 x4 x5 x6 m = some (x, m0) → zG w f 7 39 ([none, some (pR 66 0), some (pI x2), some (pR 80 0), some (pI x4), some (pI x5), some (pI x6)], [], (n, m)) := by
  intro x2 x4 x5 x6 m h
  unfold s_X7_carries_66_80_L39 at h
  refine zrun hF [(.iinc 6 1, 3, pI 1)] 39 _ (by decide +kernel) ?_
  refine (And.intro rfl ?_)
  show zG w f 7 42 ([none, some (pR 66 0), some (pI x2), some (pR 80 0), some (pI x4), some (pI x5), some (pI (x6 + 1))], [], (n, m))
  refine zgoto (tgt := 3) (pc := 42) hF (by decide +kernel) ?_
  exact hk3 _ _ _ _ _  h

set_option maxHeartbeats 4000000 in
set_option maxRecDepth 100000 in
theorem m_X7_carries_66_80_L3 {w : zWd} {f : zFr} {n : zMem} {x : Int32} {m0 : zMem} {lc : Launch} (hl : f.2.1 = lc) (hF : zFOK w f 7 cX7_carries 7 1) (hR : zFin w f (some .int) (zQI w x (n, m0))) : ∀ (k : Nat) (x2 : Int32) (x4 : Int32) (x5 : Int32) (x6 : Int32) (m : zMem), s_X7_carries_66_80_L3 k x2 x4 x5 x6 m = some (x, m0) → zG w f 7 3 ([none, some (pR 66 0), some (pI x2), some (pR 80 0), some (pI x4), some (pI x5), some (pI x6)], [], (n, m)) := by
  intro k
  induction k with
  | zero => intro x2 x4 x5 x6 m h; exact zno h
  | succ k ih =>
    intro x2 x4 x5 x6 m h
    unfold s_X7_carries_66_80_L3 at h
    refine zrun hF [(.iload 6, 2, pI 0), (.iload_n 2, 1, pI 0)] 3 _ (by decide +kernel) ?_
    show zG w f 7 6 ([none, some (pR 66 0), some (pI x2), some (pR 80 0), some (pI x4), some (pI x5), some (pI x6)], [pI x2, pI x6], (n, m))
    refine zicmp_ge (tgt := 45) (pc := 6) hF (by decide +kernel) (fun b1 => ?_) (fun b1 => ?_)
    · replace h := zit b1 h
      refine zrun hF [(.iload 4, 2, pI 0), (.iload_n 2, 1, pI 0), (.iadd, 1, pI 0)] 45 _ (by decide +kernel) ?_
      show zG w f 7 49 ([none, some (pR 66 0), some (pI x2), some (pR 80 0), some (pI x4), some (pI x5), some (pI x6)], [pI (x4 + x2)], (n, m))
      exact zretI (pc := 49) hF hR (by decide +kernel) rfl (congrArg Prod.fst (Option.some.inj h)) (congrArg (fun (q : Int32 × zMem) => (n, q.2)) (Option.some.inj h))
    · replace h := zif b1 h
      refine zrun hF [(.iload 5, 2, pI 0)] 9 _ (by decide +kernel) ?_
      show zG w f 7 11 ([none, some (pR 66 0), some (pI x2), some (pR 80 0), some (pI x4), some (pI x5), some (pI x6)], [pI x5], (n, m))
      refine zif_eq (tgt := 28) (pc := 11) hF (by decide +kernel) (fun b2 => ?_) (fun b2 => ?_)
      · replace h := zit b2 h
        obtain ⟨c3, h⟩ := zchk h
        obtain ⟨c4, h⟩ := zchk h
        refine zrun hF [(.aload_n 3, 1, pI 0), (.iload 4, 2, pI 0), (.iload 6, 2, pI 0), (.iadd, 1, pI 0), (.aload_n 1, 1, pI 0), (.iload 6, 2, pI 0), (.iaload, 1, pI 0), (.iastore, 1, pI 0)] 28 _ (by decide +kernel) ?_
        refine (And.intro rfl (And.intro rfl (And.intro c3 (And.intro rfl (And.intro rfl (And.intro c4 ?_))))))
        refine zlet_k (P := fun (m5 : zMem) => zG w f 7 39 ([none, some (pR 66 0), some (pI x2), some (pR 80 0), some (pI x4), some (pI x5), some (pI x6)], [], (n, m5))) h (fun m5 h => ?_)
        exact m_X7_carries_66_80_L39 hl hF hR ih _ _ _ _ _  h
      · replace h := zif b2 h
        obtain ⟨c6, h⟩ := zchk h
        obtain ⟨c7, h⟩ := zchk h
        refine zrun hF [(.aload_n 1, 1, pI 0), (.iload 6, 2, pI 0), (.aload_n 3, 1, pI 0), (.iload 4, 2, pI 0), (.iload 6, 2, pI 0), (.iadd, 1, pI 0), (.iaload, 1, pI 0), (.iastore, 1, pI 0)] 14 _ (by decide +kernel) ?_
        refine (And.intro rfl (And.intro rfl (And.intro c6 (And.intro rfl (And.intro rfl (And.intro c7 ?_))))))
        refine zlet_k (P := fun (m8 : zMem) => zG w f 7 25 ([none, some (pR 66 0), some (pI x2), some (pR 80 0), some (pI x4), some (pI x5), some (pI x6)], [], (n, m8))) h (fun m8 h => ?_)
        refine zgoto (tgt := 39) (pc := 25) hF (by decide +kernel) ?_
        exact m_X7_carries_66_80_L39 hl hF hR ih _ _ _ _ _  h

set_option maxHeartbeats 4000000 in
set_option maxRecDepth 100000 in
theorem m_X7_carries_66_80 {w : zWd} {lc : Launch} {n : zMem} {a2 : Int32} {a4 : Int32} {a5 : Int32} {m : zMem} {x : Int32} {m0 : zMem}  (h : s_X7_carries_66_80 a2 a4 a5 m = some (x, m0)) : zMet w lc 1 yX7_carries cX7_carries 7 (some .int) [pR 64 0, pR 66 0, pI a2, pR 80 0, pI a4, pI a5] (n, m) (zQI w x (n, m0)) := by
  refine zmet (o := 7) (by decide +kernel) rfl (Nat.le_of_ble_eq_true rfl) rfl (fun f hl hF hR => ?_)
  unfold s_X7_carries_66_80 at h
  show zG w f 7 0 ([some (pR 64 0), some (pR 66 0), some (pI a2), some (pR 80 0), some (pI a4), some (pI a5), none], [], (n, m))
  refine zrun hF [(.iconst 0, 1, pI 0), (.istore 6, 2, pI 0)] 0 _ (by decide +kernel) ?_
  refine (And.intro rfl ?_)
  show zG w f 7 3 ([some (pR 64 0), some (pR 66 0), some (pI a2), some (pR 80 0), some (pI a4), some (pI a5), some (pI 0)], [], (n, m))
  refine zcut [false, true, true, true, true, true, true] ?_
  exact m_X7_carries_66_80_L3 hl hF hR  zF _ _ _ _ _  h

set_option maxHeartbeats 4000000 in
set_option maxRecDepth 100000 in
theorem m_X7_carries_67_80_L39 {w : zWd} {f : zFr} {n : zMem} {x : Int32} {m0 : zMem} {lc : Launch} (hl : f.2.1 = lc) (hF : zFOK w f 7 cX7_carries 7 1) (hR : zFin w f (some .int) (zQI w x (n, m0))) {k3 : Int32 → Int32 → Int32 → Int32 → zMem → Option (Int32 × zMem)} (hk3 : ∀ (x2 : Int32) (x4 : Int32) (x5 : Int32) (x6 : Int32) (m : zMem), k3 x2 x4 x5 x6 m = some (x, m0) → zG w f 7 3 ([none, some (pR 67 0), some (pI x2), some (pR 80 0), some (pI x4), some (pI x5), some (pI x6)], [], (n, m))) : ∀ (x2 : Int32) (x4 : Int32) (x5 : Int32) (x6 : Int32) (m : zMem), s_X7_carries_67_80_L39 k3 x2 x4 x5 x6 m = some (x, m0) → zG w f 7 39 ([none, some (pR 67 0), some (pI x2), some (pR 80 0), some (pI x4), some (pI x5), some (pI x6)], [], (n, m)) := by
  intro x2 x4 x5 x6 m h
  unfold s_X7_carries_67_80_L39 at h
  refine zrun hF [(.iinc 6 1, 3, pI 1)] 39 _ (by decide +kernel) ?_
  refine (And.intro rfl ?_)
  show zG w f 7 42 ([none, some (pR 67 0), some (pI x2), some (pR 80 0), some (pI x4), some (pI x5), some (pI (x6 + 1))], [], (n, m))
  refine zgoto (tgt := 3) (pc := 42) hF (by decide +kernel) ?_
  exact hk3 _ _ _ _ _  h

set_option maxHeartbeats 4000000 in
set_option maxRecDepth 100000 in
theorem m_X7_carries_67_80_L3 {w : zWd} {f : zFr} {n : zMem} {x : Int32} {m0 : zMem} {lc : Launch} (hl : f.2.1 = lc) (hF : zFOK w f 7 cX7_carries 7 1) (hR : zFin w f (some .int) (zQI w x (n, m0))) : ∀ (k : Nat) (x2 : Int32) (x4 : Int32) (x5 : Int32) (x6 : Int32) (m : zMem), s_X7_carries_67_80_L3 k x2 x4 x5 x6 m = some (x, m0) → zG w f 7 3 ([none, some (pR 67 0), some (pI x2), some (pR 80 0), some (pI x4), some (pI x5), some (pI x6)], [], (n, m)) := by
  intro k
  induction k with
  | zero => intro x2 x4 x5 x6 m h; exact zno h
  | succ k ih =>
    intro x2 x4 x5 x6 m h
    unfold s_X7_carries_67_80_L3 at h
    refine zrun hF [(.iload 6, 2, pI 0), (.iload_n 2, 1, pI 0)] 3 _ (by decide +kernel) ?_
    show zG w f 7 6 ([none, some (pR 67 0), some (pI x2), some (pR 80 0), some (pI x4), some (pI x5), some (pI x6)], [pI x2, pI x6], (n, m))
    refine zicmp_ge (tgt := 45) (pc := 6) hF (by decide +kernel) (fun b1 => ?_) (fun b1 => ?_)
    · replace h := zit b1 h
      refine zrun hF [(.iload 4, 2, pI 0), (.iload_n 2, 1, pI 0), (.iadd, 1, pI 0)] 45 _ (by decide +kernel) ?_
      show zG w f 7 49 ([none, some (pR 67 0), some (pI x2), some (pR 80 0), some (pI x4), some (pI x5), some (pI x6)], [pI (x4 + x2)], (n, m))
      exact zretI (pc := 49) hF hR (by decide +kernel) rfl (congrArg Prod.fst (Option.some.inj h)) (congrArg (fun (q : Int32 × zMem) => (n, q.2)) (Option.some.inj h))
    · replace h := zif b1 h
      refine zrun hF [(.iload 5, 2, pI 0)] 9 _ (by decide +kernel) ?_
      show zG w f 7 11 ([none, some (pR 67 0), some (pI x2), some (pR 80 0), some (pI x4), some (pI x5), some (pI x6)], [pI x5], (n, m))
      refine zif_eq (tgt := 28) (pc := 11) hF (by decide +kernel) (fun b2 => ?_) (fun b2 => ?_)
      · replace h := zit b2 h
        obtain ⟨c3, h⟩ := zchk h
        obtain ⟨c4, h⟩ := zchk h
        refine zrun hF [(.aload_n 3, 1, pI 0), (.iload 4, 2, pI 0), (.iload 6, 2, pI 0), (.iadd, 1, pI 0), (.aload_n 1, 1, pI 0), (.iload 6, 2, pI 0), (.iaload, 1, pI 0), (.iastore, 1, pI 0)] 28 _ (by decide +kernel) ?_
        refine (And.intro rfl (And.intro rfl (And.intro c3 (And.intro rfl (And.intro rfl (And.intro c4 ?_))))))
        refine zlet_k (P := fun (m5 : zMem) => zG w f 7 39 ([none, some (pR 67 0), some (pI x2), some (pR 80 0), some (pI x4), some (pI x5), some (pI x6)], [], (n, m5))) h (fun m5 h => ?_)
        exact m_X7_carries_67_80_L39 hl hF hR ih _ _ _ _ _  h
      · replace h := zif b2 h
        obtain ⟨c6, h⟩ := zchk h
        obtain ⟨c7, h⟩ := zchk h
        refine zrun hF [(.aload_n 1, 1, pI 0), (.iload 6, 2, pI 0), (.aload_n 3, 1, pI 0), (.iload 4, 2, pI 0), (.iload 6, 2, pI 0), (.iadd, 1, pI 0), (.iaload, 1, pI 0), (.iastore, 1, pI 0)] 14 _ (by decide +kernel) ?_
        refine (And.intro rfl (And.intro rfl (And.intro c6 (And.intro rfl (And.intro rfl (And.intro c7 ?_))))))
        refine zlet_k (P := fun (m8 : zMem) => zG w f 7 25 ([none, some (pR 67 0), some (pI x2), some (pR 80 0), some (pI x4), some (pI x5), some (pI x6)], [], (n, m8))) h (fun m8 h => ?_)
        refine zgoto (tgt := 39) (pc := 25) hF (by decide +kernel) ?_
        exact m_X7_carries_67_80_L39 hl hF hR ih _ _ _ _ _  h

set_option maxHeartbeats 4000000 in
set_option maxRecDepth 100000 in
theorem m_X7_carries_67_80 {w : zWd} {lc : Launch} {n : zMem} {a2 : Int32} {a4 : Int32} {a5 : Int32} {m : zMem} {x : Int32} {m0 : zMem}  (h : s_X7_carries_67_80 a2 a4 a5 m = some (x, m0)) : zMet w lc 1 yX7_carries cX7_carries 7 (some .int) [pR 64 0, pR 67 0, pI a2, pR 80 0, pI a4, pI a5] (n, m) (zQI w x (n, m0)) := by
  refine zmet (o := 7) (by decide +kernel) rfl (Nat.le_of_ble_eq_true rfl) rfl (fun f hl hF hR => ?_)
  unfold s_X7_carries_67_80 at h
  show zG w f 7 0 ([some (pR 64 0), some (pR 67 0), some (pI a2), some (pR 80 0), some (pI a4), some (pI a5), none], [], (n, m))
  refine zrun hF [(.iconst 0, 1, pI 0), (.istore 6, 2, pI 0)] 0 _ (by decide +kernel) ?_
  refine (And.intro rfl ?_)
  show zG w f 7 3 ([some (pR 64 0), some (pR 67 0), some (pI a2), some (pR 80 0), some (pI a4), some (pI a5), some (pI 0)], [], (n, m))
  refine zcut [false, true, true, true, true, true, true] ?_
  exact m_X7_carries_67_80_L3 hl hF hR  zF _ _ _ _ _  h

set_option maxHeartbeats 4000000 in
set_option maxRecDepth 100000 in
theorem m_X7_carries_68_80_L39 {w : zWd} {f : zFr} {n : zMem} {x : Int32} {m0 : zMem} {lc : Launch} (hl : f.2.1 = lc) (hF : zFOK w f 7 cX7_carries 7 1) (hR : zFin w f (some .int) (zQI w x (n, m0))) {k3 : Int32 → Int32 → Int32 → Int32 → zMem → Option (Int32 × zMem)} (hk3 : ∀ (x2 : Int32) (x4 : Int32) (x5 : Int32) (x6 : Int32) (m : zMem), k3 x2 x4 x5 x6 m = some (x, m0) → zG w f 7 3 ([none, some (pR 68 0), some (pI x2), some (pR 80 0), some (pI x4), some (pI x5), some (pI x6)], [], (n, m))) : ∀ (x2 : Int32) (x4 : Int32) (x5 : Int32) (x6 : Int32) (m : zMem), s_X7_carries_68_80_L39 k3 x2 x4 x5 x6 m = some (x, m0) → zG w f 7 39 ([none, some (pR 68 0), some (pI x2), some (pR 80 0), some (pI x4), some (pI x5), some (pI x6)], [], (n, m)) := by
  intro x2 x4 x5 x6 m h
  unfold s_X7_carries_68_80_L39 at h
  refine zrun hF [(.iinc 6 1, 3, pI 1)] 39 _ (by decide +kernel) ?_
  refine (And.intro rfl ?_)
  show zG w f 7 42 ([none, some (pR 68 0), some (pI x2), some (pR 80 0), some (pI x4), some (pI x5), some (pI (x6 + 1))], [], (n, m))
  refine zgoto (tgt := 3) (pc := 42) hF (by decide +kernel) ?_
  exact hk3 _ _ _ _ _  h

set_option maxHeartbeats 4000000 in
set_option maxRecDepth 100000 in
theorem m_X7_carries_68_80_L3 {w : zWd} {f : zFr} {n : zMem} {x : Int32} {m0 : zMem} {lc : Launch} (hl : f.2.1 = lc) (hF : zFOK w f 7 cX7_carries 7 1) (hR : zFin w f (some .int) (zQI w x (n, m0))) : ∀ (k : Nat) (x2 : Int32) (x4 : Int32) (x5 : Int32) (x6 : Int32) (m : zMem), s_X7_carries_68_80_L3 k x2 x4 x5 x6 m = some (x, m0) → zG w f 7 3 ([none, some (pR 68 0), some (pI x2), some (pR 80 0), some (pI x4), some (pI x5), some (pI x6)], [], (n, m)) := by
  intro k
  induction k with
  | zero => intro x2 x4 x5 x6 m h; exact zno h
  | succ k ih =>
    intro x2 x4 x5 x6 m h
    unfold s_X7_carries_68_80_L3 at h
    refine zrun hF [(.iload 6, 2, pI 0), (.iload_n 2, 1, pI 0)] 3 _ (by decide +kernel) ?_
    show zG w f 7 6 ([none, some (pR 68 0), some (pI x2), some (pR 80 0), some (pI x4), some (pI x5), some (pI x6)], [pI x2, pI x6], (n, m))
    refine zicmp_ge (tgt := 45) (pc := 6) hF (by decide +kernel) (fun b1 => ?_) (fun b1 => ?_)
    · replace h := zit b1 h
      refine zrun hF [(.iload 4, 2, pI 0), (.iload_n 2, 1, pI 0), (.iadd, 1, pI 0)] 45 _ (by decide +kernel) ?_
      show zG w f 7 49 ([none, some (pR 68 0), some (pI x2), some (pR 80 0), some (pI x4), some (pI x5), some (pI x6)], [pI (x4 + x2)], (n, m))
      exact zretI (pc := 49) hF hR (by decide +kernel) rfl (congrArg Prod.fst (Option.some.inj h)) (congrArg (fun (q : Int32 × zMem) => (n, q.2)) (Option.some.inj h))
    · replace h := zif b1 h
      refine zrun hF [(.iload 5, 2, pI 0)] 9 _ (by decide +kernel) ?_
      show zG w f 7 11 ([none, some (pR 68 0), some (pI x2), some (pR 80 0), some (pI x4), some (pI x5), some (pI x6)], [pI x5], (n, m))
      refine zif_eq (tgt := 28) (pc := 11) hF (by decide +kernel) (fun b2 => ?_) (fun b2 => ?_)
      · replace h := zit b2 h
        obtain ⟨c3, h⟩ := zchk h
        obtain ⟨c4, h⟩ := zchk h
        refine zrun hF [(.aload_n 3, 1, pI 0), (.iload 4, 2, pI 0), (.iload 6, 2, pI 0), (.iadd, 1, pI 0), (.aload_n 1, 1, pI 0), (.iload 6, 2, pI 0), (.iaload, 1, pI 0), (.iastore, 1, pI 0)] 28 _ (by decide +kernel) ?_
        refine (And.intro rfl (And.intro rfl (And.intro c3 (And.intro rfl (And.intro rfl (And.intro c4 ?_))))))
        refine zlet_k (P := fun (m5 : zMem) => zG w f 7 39 ([none, some (pR 68 0), some (pI x2), some (pR 80 0), some (pI x4), some (pI x5), some (pI x6)], [], (n, m5))) h (fun m5 h => ?_)
        exact m_X7_carries_68_80_L39 hl hF hR ih _ _ _ _ _  h
      · replace h := zif b2 h
        obtain ⟨c6, h⟩ := zchk h
        obtain ⟨c7, h⟩ := zchk h
        refine zrun hF [(.aload_n 1, 1, pI 0), (.iload 6, 2, pI 0), (.aload_n 3, 1, pI 0), (.iload 4, 2, pI 0), (.iload 6, 2, pI 0), (.iadd, 1, pI 0), (.iaload, 1, pI 0), (.iastore, 1, pI 0)] 14 _ (by decide +kernel) ?_
        refine (And.intro rfl (And.intro rfl (And.intro c6 (And.intro rfl (And.intro rfl (And.intro c7 ?_))))))
        refine zlet_k (P := fun (m8 : zMem) => zG w f 7 25 ([none, some (pR 68 0), some (pI x2), some (pR 80 0), some (pI x4), some (pI x5), some (pI x6)], [], (n, m8))) h (fun m8 h => ?_)
        refine zgoto (tgt := 39) (pc := 25) hF (by decide +kernel) ?_
        exact m_X7_carries_68_80_L39 hl hF hR ih _ _ _ _ _  h

set_option maxHeartbeats 4000000 in
set_option maxRecDepth 100000 in
theorem m_X7_carries_68_80 {w : zWd} {lc : Launch} {n : zMem} {a2 : Int32} {a4 : Int32} {a5 : Int32} {m : zMem} {x : Int32} {m0 : zMem}  (h : s_X7_carries_68_80 a2 a4 a5 m = some (x, m0)) : zMet w lc 1 yX7_carries cX7_carries 7 (some .int) [pR 64 0, pR 68 0, pI a2, pR 80 0, pI a4, pI a5] (n, m) (zQI w x (n, m0)) := by
  refine zmet (o := 7) (by decide +kernel) rfl (Nat.le_of_ble_eq_true rfl) rfl (fun f hl hF hR => ?_)
  unfold s_X7_carries_68_80 at h
  show zG w f 7 0 ([some (pR 64 0), some (pR 68 0), some (pI a2), some (pR 80 0), some (pI a4), some (pI a5), none], [], (n, m))
  refine zrun hF [(.iconst 0, 1, pI 0), (.istore 6, 2, pI 0)] 0 _ (by decide +kernel) ?_
  refine (And.intro rfl ?_)
  show zG w f 7 3 ([some (pR 64 0), some (pR 68 0), some (pI a2), some (pR 80 0), some (pI a4), some (pI a5), some (pI 0)], [], (n, m))
  refine zcut [false, true, true, true, true, true, true] ?_
  exact m_X7_carries_68_80_L3 hl hF hR  zF _ _ _ _ _  h

set_option maxHeartbeats 4000000 in
set_option maxRecDepth 100000 in
theorem m_X7_carries_69_80_L39 {w : zWd} {f : zFr} {n : zMem} {x : Int32} {m0 : zMem} {lc : Launch} (hl : f.2.1 = lc) (hF : zFOK w f 7 cX7_carries 7 1) (hR : zFin w f (some .int) (zQI w x (n, m0))) {k3 : Int32 → Int32 → Int32 → Int32 → zMem → Option (Int32 × zMem)} (hk3 : ∀ (x2 : Int32) (x4 : Int32) (x5 : Int32) (x6 : Int32) (m : zMem), k3 x2 x4 x5 x6 m = some (x, m0) → zG w f 7 3 ([none, some (pR 69 0), some (pI x2), some (pR 80 0), some (pI x4), some (pI x5), some (pI x6)], [], (n, m))) : ∀ (x2 : Int32) (x4 : Int32) (x5 : Int32) (x6 : Int32) (m : zMem), s_X7_carries_69_80_L39 k3 x2 x4 x5 x6 m = some (x, m0) → zG w f 7 39 ([none, some (pR 69 0), some (pI x2), some (pR 80 0), some (pI x4), some (pI x5), some (pI x6)], [], (n, m)) := by
  intro x2 x4 x5 x6 m h
  unfold s_X7_carries_69_80_L39 at h
  refine zrun hF [(.iinc 6 1, 3, pI 1)] 39 _ (by decide +kernel) ?_
  refine (And.intro rfl ?_)
  show zG w f 7 42 ([none, some (pR 69 0), some (pI x2), some (pR 80 0), some (pI x4), some (pI x5), some (pI (x6 + 1))], [], (n, m))
  refine zgoto (tgt := 3) (pc := 42) hF (by decide +kernel) ?_
  exact hk3 _ _ _ _ _  h

set_option maxHeartbeats 4000000 in
set_option maxRecDepth 100000 in
theorem m_X7_carries_69_80_L3 {w : zWd} {f : zFr} {n : zMem} {x : Int32} {m0 : zMem} {lc : Launch} (hl : f.2.1 = lc) (hF : zFOK w f 7 cX7_carries 7 1) (hR : zFin w f (some .int) (zQI w x (n, m0))) : ∀ (k : Nat) (x2 : Int32) (x4 : Int32) (x5 : Int32) (x6 : Int32) (m : zMem), s_X7_carries_69_80_L3 k x2 x4 x5 x6 m = some (x, m0) → zG w f 7 3 ([none, some (pR 69 0), some (pI x2), some (pR 80 0), some (pI x4), some (pI x5), some (pI x6)], [], (n, m)) := by
  intro k
  induction k with
  | zero => intro x2 x4 x5 x6 m h; exact zno h
  | succ k ih =>
    intro x2 x4 x5 x6 m h
    unfold s_X7_carries_69_80_L3 at h
    refine zrun hF [(.iload 6, 2, pI 0), (.iload_n 2, 1, pI 0)] 3 _ (by decide +kernel) ?_
    show zG w f 7 6 ([none, some (pR 69 0), some (pI x2), some (pR 80 0), some (pI x4), some (pI x5), some (pI x6)], [pI x2, pI x6], (n, m))
    refine zicmp_ge (tgt := 45) (pc := 6) hF (by decide +kernel) (fun b1 => ?_) (fun b1 => ?_)
    · replace h := zit b1 h
      refine zrun hF [(.iload 4, 2, pI 0), (.iload_n 2, 1, pI 0), (.iadd, 1, pI 0)] 45 _ (by decide +kernel) ?_
      show zG w f 7 49 ([none, some (pR 69 0), some (pI x2), some (pR 80 0), some (pI x4), some (pI x5), some (pI x6)], [pI (x4 + x2)], (n, m))
      exact zretI (pc := 49) hF hR (by decide +kernel) rfl (congrArg Prod.fst (Option.some.inj h)) (congrArg (fun (q : Int32 × zMem) => (n, q.2)) (Option.some.inj h))
    · replace h := zif b1 h
      refine zrun hF [(.iload 5, 2, pI 0)] 9 _ (by decide +kernel) ?_
      show zG w f 7 11 ([none, some (pR 69 0), some (pI x2), some (pR 80 0), some (pI x4), some (pI x5), some (pI x6)], [pI x5], (n, m))
      refine zif_eq (tgt := 28) (pc := 11) hF (by decide +kernel) (fun b2 => ?_) (fun b2 => ?_)
      · replace h := zit b2 h
        obtain ⟨c3, h⟩ := zchk h
        obtain ⟨c4, h⟩ := zchk h
        refine zrun hF [(.aload_n 3, 1, pI 0), (.iload 4, 2, pI 0), (.iload 6, 2, pI 0), (.iadd, 1, pI 0), (.aload_n 1, 1, pI 0), (.iload 6, 2, pI 0), (.iaload, 1, pI 0), (.iastore, 1, pI 0)] 28 _ (by decide +kernel) ?_
        refine (And.intro rfl (And.intro rfl (And.intro c3 (And.intro rfl (And.intro rfl (And.intro c4 ?_))))))
        refine zlet_k (P := fun (m5 : zMem) => zG w f 7 39 ([none, some (pR 69 0), some (pI x2), some (pR 80 0), some (pI x4), some (pI x5), some (pI x6)], [], (n, m5))) h (fun m5 h => ?_)
        exact m_X7_carries_69_80_L39 hl hF hR ih _ _ _ _ _  h
      · replace h := zif b2 h
        obtain ⟨c6, h⟩ := zchk h
        obtain ⟨c7, h⟩ := zchk h
        refine zrun hF [(.aload_n 1, 1, pI 0), (.iload 6, 2, pI 0), (.aload_n 3, 1, pI 0), (.iload 4, 2, pI 0), (.iload 6, 2, pI 0), (.iadd, 1, pI 0), (.iaload, 1, pI 0), (.iastore, 1, pI 0)] 14 _ (by decide +kernel) ?_
        refine (And.intro rfl (And.intro rfl (And.intro c6 (And.intro rfl (And.intro rfl (And.intro c7 ?_))))))
        refine zlet_k (P := fun (m8 : zMem) => zG w f 7 25 ([none, some (pR 69 0), some (pI x2), some (pR 80 0), some (pI x4), some (pI x5), some (pI x6)], [], (n, m8))) h (fun m8 h => ?_)
        refine zgoto (tgt := 39) (pc := 25) hF (by decide +kernel) ?_
        exact m_X7_carries_69_80_L39 hl hF hR ih _ _ _ _ _  h

set_option maxHeartbeats 4000000 in
set_option maxRecDepth 100000 in
theorem m_X7_carries_69_80 {w : zWd} {lc : Launch} {n : zMem} {a2 : Int32} {a4 : Int32} {a5 : Int32} {m : zMem} {x : Int32} {m0 : zMem}  (h : s_X7_carries_69_80 a2 a4 a5 m = some (x, m0)) : zMet w lc 1 yX7_carries cX7_carries 7 (some .int) [pR 64 0, pR 69 0, pI a2, pR 80 0, pI a4, pI a5] (n, m) (zQI w x (n, m0)) := by
  refine zmet (o := 7) (by decide +kernel) rfl (Nat.le_of_ble_eq_true rfl) rfl (fun f hl hF hR => ?_)
  unfold s_X7_carries_69_80 at h
  show zG w f 7 0 ([some (pR 64 0), some (pR 69 0), some (pI a2), some (pR 80 0), some (pI a4), some (pI a5), none], [], (n, m))
  refine zrun hF [(.iconst 0, 1, pI 0), (.istore 6, 2, pI 0)] 0 _ (by decide +kernel) ?_
  refine (And.intro rfl ?_)
  show zG w f 7 3 ([some (pR 64 0), some (pR 69 0), some (pI a2), some (pR 80 0), some (pI a4), some (pI a5), some (pI 0)], [], (n, m))
  refine zcut [false, true, true, true, true, true, true] ?_
  exact m_X7_carries_69_80_L3 hl hF hR  zF _ _ _ _ _  h

