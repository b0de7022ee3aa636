set_option maxHeartbeats 4000000 in
set_option maxRecDepth 100000 in
theorem m_X7_isShelf {w : zWd} {lc : Launch} {M : zWM} {a1 : Int32} {x : Int32}  (h : s_X7_isShelf a1 = some x) : zMet w lc 1 yX7_isShelf cX7_isShelf 2 (some .boolean) [pR 64 0, pI a1] M (zQI w x M) := by
  refine zmet (o := 7) (by decide +kernel) rfl (Nat.le_of_ble_eq_true rfl) rfl (fun f hl hF hR => ?_)
  unfold s_X7_isShelf at h
  show zG w f 2 0 ([some (pR 64 0), some (pI a1)], [], M)
  refine zrun hF [(.iload_n 1, 1, pI 0)] 0 _ (by decide +kernel) ?_
  show zG w f 2 1 ([some (pR 64 0), some (pI a1)], [pI a1], M)
  refine zif_lt (tgt := 14) (pc := 1) hF (by decide +kernel) (fun b1 => ?_) (fun b1 => ?_)
  · replace h := zit b1 h
    refine zrun hF [(.iconst 0, 1, pI 0)] 14 _ (by decide +kernel) ?_
    show zG w f 2 15 ([some (pR 64 0), some (pI a1)], [pI 0], M)
    exact zretI (pc := 15) hF hR (by decide +kernel) (by decide +kernel) (Option.some.inj h) rfl
  · replace h := zif b1 h
    refine zrun hF [(.iload_n 1, 1, pI 0), (.bipush 8, 2, pI 8)] 4 _ (by decide +kernel) ?_
    show zG w f 2 7 ([some (pR 64 0), some (pI a1)], [pI 8, pI a1], M)
    refine zicmp_ge (tgt := 14) (pc := 7) hF (by decide +kernel) (fun b2 => ?_) (fun b2 => ?_)
    · replace h := zit b2 h
      refine zrun hF [(.iconst 0, 1, pI 0)] 14 _ (by decide +kernel) ?_
      show zG w f 2 15 ([some (pR 64 0), some (pI a1)], [pI 0], M)
      exact zretI (pc := 15) hF hR (by decide +kernel) (by decide +kernel) (Option.some.inj h) rfl
    · replace h := zif b2 h
      refine zrun hF [(.iconst 1, 1, pI 1)] 10 _ (by decide +kernel) ?_
      show zG w f 2 11 ([some (pR 64 0), some (pI a1)], [pI 1], M)
      refine zgoto (tgt := 15) (pc := 11) hF (by decide +kernel) ?_
      exact zretI (pc := 15) hF hR (by decide +kernel) (by decide +kernel) (Option.some.inj h) rfl

set_option maxHeartbeats 4000000 in
set_option maxRecDepth 100000 in
theorem m_X7_no {w : zWd} {lc : Launch} {n : zMem} {a1 : Int32} {m : zMem} {x : Int32} {m0 : zMem}  (h : s_X7_no a1 m = some (x, m0)) : zMet w lc 1 yX7_no cX7_no 2 (some .int) [pR 64 0, pI a1] (n, m) (zQI w x (n, m0)) := by
  refine zmet (o := 7) (by decide +kernel) rfl (Nat.le_of_ble_eq_true rfl) rfl (fun f hl hF hR => ?_)
  unfold s_X7_no at h
  show zG w f 2 0 ([some (pR 64 0), some (pI a1)], [], (n, m))
  obtain ⟨c1, h⟩ := zchk h
  refine zrun hF [(.aload_n 0, 1, pI 0), (.getfield 19, 3, pR 64 7), (.iload_n 1, 1, pI 0), (.ineg, 1, pI 0), (.dup2, 1, pI 0), (.iaload, 1, pI 0), (.iconst 1, 1, pI 1), (.iadd, 1, pI 0), (.iastore, 1, pI 0)] 0 _ (by decide +kernel) ?_
  refine (And.intro rfl (And.intro rfl (And.intro rfl (And.intro rfl (And.intro rfl (And.intro c1 (And.intro rfl (And.intro rfl (And.intro c1 ?_)))))))))
  refine zlet_k (P := fun (m2 : zMem) => zG w f 2 11 ([some (pR 64 0), some (pI a1)], [], (n, m2))) h (fun m2 h => ?_)
  refine zrun hF [(.iload_n 1, 1, pI 0)] 11 _ (by decide +kernel) ?_
  show zG w f 2 12 ([some (pR 64 0), some (pI a1)], [pI a1], (n, m2))
  exact zretI (pc := 12) hF hR (by decide +kernel) rfl (congrArg Prod.fst (Option.some.inj h)) (congrArg (fun (q : Int32 × zMem) => (n, q.2)) (Option.some.inj h))

set_option maxHeartbeats 4000000 in
set_option maxRecDepth 100000 in
theorem m_X7_row_L34 {w : zWd} {f : zFr} {n : zMem} {x : Int32} {m0 : zMem} {lc : Launch} (hl : f.2.1 = lc) (hF : zFOK w f 7 cX7_row 5 2) (hR : zFin w f (some .int) (zQI w x (n, m0))) : ∀ (m : zMem), s_X7_row_L34 m = some (x, m0) → zG w f 5 34 ([some (pR 64 0), none, none, none, none], [], (n, m)) := by
  intro m h
  unfold s_X7_row_L34 at h
  refine zrun hF [(.aload_n 0, 1, pI 0), (.bipush (-6), 2, pI (-6))] 34 _ (by decide +kernel) ?_
  show zG w f 5 37 ([some (pR 64 0), none, none, none, none], [pI (-6), pR 64 0], (n, m))
  obtain ⟨r22, m23, q21, h⟩ := zb_k h
  refine zcallVI (pc := 37) (As := [pI (-6)]) (st := []) (c := 64) (j := 0) hF (m_X7_no  q21) w_X7_no k_7_100 (by decide +kernel) rfl rfl rfl rfl rfl rfl rfl ?_
  exact zretI (pc := 40) hF hR (by decide +kernel) rfl (congrArg Prod.fst (Option.some.inj h)) (congrArg (fun (q : Int32 × zMem) => (n, q.2)) (Option.some.inj h))

set_option maxHeartbeats 4000000 in
set_option maxRecDepth 100000 in
theorem m_X7_row_L79 {w : zWd} {f : zFr} {n : zMem} {x : Int32} {m0 : zMem} {lc : Launch} (hl : f.2.1 = lc) (hF : zFOK w f 7 cX7_row 5 2) (hR : zFin w f (some .int) (zQI w x (n, m0))) : ∀ (k : Nat) (x1 : Int32) (x4 : Int32) (m : zMem), s_X7_row_L79 k x1 x4 m = some (x, m0) → zG w f 5 79 ([some (pR 64 0), some (pI x1), none, none, some (pI x4)], [], (n, m)) := by
  intro k
  induction k with
  | zero => intro x1 x4 m h; exact zno h
  | succ k ih =>
    intro x1 x4 m h
    unfold s_X7_row_L79 at h
    refine zrun hF [(.iload 4, 2, pI 0), (.sipush 160, 3, pI 160)] 79 _ (by decide +kernel) ?_
    show zG w f 5 84 ([some (pR 64 0), some (pI x1), none, none, some (pI x4)], [pI 160, pI x4], (n, m))
    refine zicmp_ge (tgt := 107) (pc := 84) hF (by decide +kernel) (fun b24 => ?_) (fun b24 => ?_)
    · replace h := zit b24 h
      refine zrun hF [(.iconst 1, 1, pI 1)] 107 _ (by decide +kernel) ?_
      show zG w f 5 108 ([some (pR 64 0), some (pI x1), none, none, some (pI x4)], [pI 1], (n, m))
      exact zretI (pc := 108) hF hR (by decide +kernel) rfl (congrArg Prod.fst (Option.some.inj h)) (congrArg (fun (q : Int32 × zMem) => (n, q.2)) (Option.some.inj h))
    · replace h := zif b24 h
      obtain ⟨c25, h⟩ := zchk h
      refine zrun hF [(.aload_n 0, 1, pI 0), (.getfield 50, 3, pR 64 17), (.sipush 160, 3, pI 160), (.iload_n 1, 1, pI 0), (.imul, 1, pI 0), (.iload 4, 2, pI 0), (.iadd, 1, pI 0), (.lconst 0, 1, pL 0), (.lastore, 1, pI 0)] 87 _ (by decide +kernel) ?_
      refine (And.intro rfl (And.intro rfl (And.intro rfl (And.intro rfl (And.intro c25 ?_)))))
      refine zlet_k (P := fun (m26 : zMem) => zG w f 5 101 ([some (pR 64 0), some (pI x1), none, none, some (pI x4)], [], (n, m26))) h (fun m26 h => ?_)
      refine zrun hF [(.iinc 4 1, 3, pI 1)] 101 _ (by decide +kernel) ?_
      refine (And.intro rfl ?_)
      show zG w f 5 104 ([some (pR 64 0), some (pI x1), none, none, some (pI (x4 + 1))], [], (n, m26))
      refine zgoto (tgt := 79) (pc := 104) hF (by decide +kernel) ?_
      exact ih _ _ _  h

set_option maxHeartbeats 4000000 in
set_option maxRecDepth 100000 in
theorem m_X7_row {w : zWd} {lc : Launch} {n : zMem} {a1 : Int32} {a2 : Int32} {a3 : Int32} {m : zMem} {x : Int32} {m0 : zMem}  (h : s_X7_row a1 a2 a3 m = some (x, m0)) : zMet w lc 2 yX7_row cX7_row 5 (some .int) [pR 64 0, pI a1, pI a2, pI a3] (n, m) (zQI w x (n, m0)) := by
  refine zmet (o := 7) (by decide +kernel) rfl (Nat.le_of_ble_eq_true rfl) rfl (fun f hl hF hR => ?_)
  unfold s_X7_row at h
  show zG w f 5 0 ([some (pR 64 0), some (pI a1), some (pI a2), some (pI a3), none], [], (n, m))
  refine zrun hF [(.aload_n 0, 1, pI 0), (.iload_n 1, 1, pI 0)] 0 _ (by decide +kernel) ?_
  show zG w f 5 2 ([some (pR 64 0), some (pI a1), some (pI a2), some (pI a3), none], [pI a1, pR 64 0], (n, m))
  obtain ⟨r2, q1, h⟩ := zr_k h
  refine zcallVI (pc := 2) (As := [pI a1]) (st := []) (c := 64) (j := 0) hF (m_X7_isShelf  q1) w_X7_isShelf k_7_96 (by decide +kernel) rfl rfl rfl rfl rfl rfl rfl ?_
  refine zif_ne (tgt := 14) (pc := 5) hF (by decide +kernel) (fun b3 => ?_) (fun b3 => ?_)
  · replace h := zit b3 h
    refine zrun hF [(.aload_n 0, 1, pI 0), (.iconst (-1), 1, pI (-1))] 8 _ (by decide +kernel) ?_
    show zG w f 5 10 ([some (pR 64 0), some (pI a1), some (pI a2), some (pI a3), none], [pI (-1), pR 64 0], (n, m))
    obtain ⟨r5, m6, q4, h⟩ := zb_k h
    refine zcallVI (pc := 10) (As := [pI (-1)]) (st := []) (c := 64) (j := 0) hF (m_X7_no  q4) w_X7_no k_7_100 (by decide +kernel) rfl rfl rfl rfl rfl rfl rfl ?_
    exact zretI (pc := 13) hF hR (by decide +kernel) rfl (congrArg Prod.fst (Option.some.inj h)) (congrArg (fun (q : Int32 × zMem) => (n, q.2)) (Option.some.inj h))
  · replace h := zif b3 h
    refine zrun hF [(.iload_n 3, 1, pI 0)] 14 _ (by decide +kernel) ?_
    show zG w f 5 15 ([some (pR 64 0), some (pI a1), some (pI a2), some (pI a3), none], [pI a3], (n, m))
    refine zif_ge (tgt := 25) (pc := 15) hF (by decide +kernel) (fun b7 => ?_) (fun b7 => ?_)
    · replace h := zit b7 h
      refine zrun hF [(.iload_n 2, 1, pI 0)] 25 _ (by decide +kernel) ?_
      show zG w f 5 26 ([some (pR 64 0), some (pI a1), some (pI a2), some (pI a3), none], [pI a2], (n, m))
      refine zif_lt (tgt := 34) (pc := 26) hF (by decide +kernel) (fun b8 => ?_) (fun b8 => ?_)
      · replace h := zit b8 h
        refine zcut [true, false, false, false, true] ?_
        exact m_X7_row_L34 hl hF hR  _  h
      · replace h := zif b8 h
        refine zrun hF [(.iload_n 2, 1, pI 0), (.iconst 3, 1, pI 3)] 29 _ (by decide +kernel) ?_
        show zG w f 5 31 ([some (pR 64 0), some (pI a1), some (pI a2), some (pI a3), none], [pI 3, pI a2], (n, m))
        refine zicmp_le (tgt := 41) (pc := 31) hF (by decide +kernel) (fun b9 => ?_) (fun b9 => ?_)
        · replace h := zit b9 h
          refine zrun hF [(.iload_n 3, 1, pI 0), (.sipush 160, 3, pI 160)] 41 _ (by decide +kernel) ?_
          show zG w f 5 45 ([some (pR 64 0), some (pI a1), some (pI a2), some (pI a3), none], [pI 160, pI a3], (n, m))
          refine zicmp_le (tgt := 55) (pc := 45) hF (by decide +kernel) (fun b10 => ?_) (fun b10 => ?_)
          · replace h := zit b10 h
            obtain ⟨c11, h⟩ := zchk h
            refine zrun hF [(.aload_n 0, 1, pI 0), (.getfield 38, 3, pR 64 13), (.iload_n 1, 1, pI 0), (.iconst 1, 1, pI 1), (.iastore, 1, pI 0)] 55 _ (by decide +kernel) ?_
            refine (And.intro rfl (And.intro rfl (And.intro rfl (And.intro rfl (And.intro c11 ?_)))))
            refine zlet_k (P := fun (m12 : zMem) => zG w f 5 62 ([some (pR 64 0), some (pI a1), some (pI a2), some (pI a3), none], [], (n, m12))) h (fun m12 h => ?_)
            refine zrun hF [(.aload_n 0, 1, pI 0), (.getfield 41, 3, pR 64 14), (.iload_n 1, 1, pI 0), (.iload_n 2, 1, pI 0), (.iastore, 1, pI 0)] 62 _ (by decide +kernel) ?_
            refine (And.intro rfl (And.intro rfl (And.intro rfl (And.intro rfl (And.intro c11 ?_)))))
            refine zlet_k (P := fun (m13 : zMem) => zG w f 5 69 ([some (pR 64 0), some (pI a1), some (pI a2), some (pI a3), none], [], (n, m13))) h (fun m13 h => ?_)
            refine zrun hF [(.aload_n 0, 1, pI 0), (.getfield 44, 3, pR 64 15), (.iload_n 1, 1, pI 0), (.iload_n 3, 1, pI 0), (.iastore, 1, pI 0)] 69 _ (by decide +kernel) ?_
            refine (And.intro rfl (And.intro rfl (And.intro rfl (And.intro rfl (And.intro c11 ?_)))))
            refine zlet_k (P := fun (m14 : zMem) => zG w f 5 76 ([some (pR 64 0), some (pI a1), some (pI a2), some (pI a3), none], [], (n, m14))) h (fun m14 h => ?_)
            refine zrun hF [(.iconst 0, 1, pI 0), (.istore 4, 2, pI 0)] 76 _ (by decide +kernel) ?_
            refine (And.intro rfl ?_)
            show zG w f 5 79 ([some (pR 64 0), some (pI a1), some (pI a2), some (pI a3), some (pI 0)], [], (n, m14))
            refine zcut [true, true, false, false, true] ?_
            exact m_X7_row_L79 hl hF hR  zF _ _ _  h
          · replace h := zif b10 h
            refine zrun hF [(.aload_n 0, 1, pI 0), (.bipush (-7), 2, pI (-7))] 48 _ (by decide +kernel) ?_
            show zG w f 5 51 ([some (pR 64 0), some (pI a1), some (pI a2), some (pI a3), none], [pI (-7), pR 64 0], (n, m))
            obtain ⟨r16, m17, q15, h⟩ := zb_k h
            refine zcallVI (pc := 51) (As := [pI (-7)]) (st := []) (c := 64) (j := 0) hF (m_X7_no  q15) w_X7_no k_7_100 (by decide +kernel) rfl rfl rfl rfl rfl rfl rfl ?_
            exact zretI (pc := 54) hF hR (by decide +kernel) rfl (congrArg Prod.fst (Option.some.inj h)) (congrArg (fun (q : Int32 × zMem) => (n, q.2)) (Option.some.inj h))
        · replace h := zif b9 h
          refine zcut [true, false, false, false, true] ?_
          exact m_X7_row_L34 hl hF hR  _  h
    · replace h := zif b7 h
      refine zrun hF [(.aload_n 0, 1, pI 0), (.bipush (-4), 2, pI (-4))] 18 _ (by decide +kernel) ?_
      show zG w f 5 21 ([some (pR 64 0), some (pI a1), some (pI a2), some (pI a3), none], [pI (-4), pR 64 0], (n, m))
      obtain ⟨r19, m20, q18, h⟩ := zb_k h
      refine zcallVI (pc := 21) (As := [pI (-4)]) (st := []) (c := 64) (j := 0) hF (m_X7_no  q18) w_X7_no k_7_100 (by decide +kernel) rfl rfl rfl rfl rfl rfl rfl ?_
      exact zretI (pc := 24) hF hR (by decide +kernel) rfl (congrArg Prod.fst (Option.some.inj h)) (congrArg (fun (q : Int32 × zMem) => (n, q.2)) (Option.some.inj h))

