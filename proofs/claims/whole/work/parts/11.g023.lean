set_option maxHeartbeats 4000000 in
set_option maxRecDepth 100000 in
theorem m_X6_told_L48 {w : zWd} {f : zFr} {n : zMem} {x : Int32} {m0 : zMem} {lc : Launch} (hl : f.2.1 = lc) (hF : zFOK w f 6 cX6_told 6 5) (hR : zFin w f (some .int) (zQI w x (m0, n))) : ∀ (m : zMem), s_X6_told_L48 m = some (x, m0) → zG w f 6 48 ([some (pR 0 0), none, none, none, none, none], [], (m, n)) := by
  intro m h
  unfold s_X6_told_L48 at h
  refine zrun hF [(.aload_n 0, 1, pI 0), (.bipush (-5), 2, pI (-5))] 48 _ (by decide +kernel) ?_
  show zG w f 6 51 ([some (pR 0 0), none, none, none, none, none], [pI (-5), pR 0 0], (m, n))
  obtain ⟨r12, m13, q11, h⟩ := zb_k h
  refine zcallVI (pc := 51) (As := [pI (-5)]) (st := []) (c := 0) (j := 0) hF (m_X6_refuseLower  q11) w_X6_refuseLower k_6_275 (by decide +kernel) rfl rfl rfl rfl rfl rfl rfl ?_
  exact zretI (pc := 54) hF hR (by decide +kernel) rfl (congrArg Prod.fst (Option.some.inj h)) (congrArg (fun (q : Int32 × zMem) => (q.2, n)) (Option.some.inj h))

set_option maxHeartbeats 4000000 in
set_option maxRecDepth 100000 in
theorem m_X6_told_L58 {w : zWd} {f : zFr} {n : zMem} {x : Int32} {m0 : zMem} {lc : Launch} (hl : f.2.1 = lc) (hF : zFOK w f 6 cX6_told 6 5) (hR : zFin w f (some .int) (zQI w x (m0, n))) : ∀ (k : Nat) (x2 : Int32) (x4 : Nat) (x5 : Int32) (m : zMem), Nat.blt x4 8 = true → s_X6_told_L58 k x2 x4 x5 m = some (x, m0) → zG w f 6 58 ([some (pR 0 0), none, some (pI x2), none, some (pR 8 x4), some (pI x5)], [], (m, n)) := by
  intro k
  induction k with
  | zero => intro x2 x4 x5 m hx4 h; exact zno h
  | succ k ih =>
    intro x2 x4 x5 m hx4 h
    unfold s_X6_told_L58 at h
    refine zrun hF [(.iload 5, 2, pI 0), (.aload_n 0, 1, pI 0), (.getfield 10, 3, pR 0 0), (.getfield 132, 3, pR 1 6)] 58 _ (by decide +kernel) ?_
    refine (And.intro rfl (And.intro rfl (And.intro rfl (And.intro rfl ?_))))
    show zG w f 6 67 ([some (pR 0 0), none, some (pI x2), none, some (pR 8 x4), some (pI x5)], [pI (m.1 1 0 6), pI x5], (m, n))
    refine zicmp_ge (tgt := 105) (pc := 67) hF (by decide +kernel) (fun b14 => ?_) (fun b14 => ?_)
    · replace h := zit b14 h
      refine zrun hF [(.iload_n 2, 1, pI 0)] 105 _ (by decide +kernel) ?_
      show zG w f 6 106 ([some (pR 0 0), none, some (pI x2), none, some (pR 8 x4), some (pI x5)], [pI x2], (m, n))
      refine zif_ne (tgt := 119) (pc := 106) hF (by decide +kernel) (fun b15 => ?_) (fun b15 => ?_)
      · replace h := zit b15 h
        refine zrun hF [(.aload_n 0, 1, pI 0), (.aload 4, 2, pI 0), (.iconst (-1), 1, pI (-1))] 109 _ (by decide +kernel) ?_
        show zG w f 6 113 ([some (pR 0 0), none, some (pI x2), none, some (pR 8 x4), some (pI x5)], [pI (-1), pR 8 x4, pR 0 0], (m, n))
        obtain ⟨r17, q16, h⟩ := zr_k h
        refine zcallVI (pc := 113) (As := [pR 8 x4, pI (-1)]) (st := []) (c := 0) (j := 0) hF (m_X6_disputedBut hx4 q16) w_X6_disputedBut k_6_303 (by decide +kernel) rfl rfl rfl rfl rfl rfl rfl ?_
        refine zgoto (tgt := 125) (pc := 116) hF (by decide +kernel) ?_
        exact zretI (pc := 125) hF hR (by decide +kernel) rfl (congrArg Prod.fst (Option.some.inj h)) (congrArg (fun (q : Int32 × zMem) => (q.2, n)) (Option.some.inj h))
      · replace h := zif b15 h
        refine zrun hF [(.aload_n 0, 1, pI 0), (.aload 4, 2, pI 0)] 119 _ (by decide +kernel) ?_
        show zG w f 6 122 ([some (pR 0 0), none, some (pI x2), none, some (pR 8 x4), some (pI x5)], [pR 8 x4, pR 0 0], (m, n))
        obtain ⟨r19, q18, h⟩ := zr_k h
        refine zcallVI (pc := 122) (As := [pR 8 x4]) (st := []) (c := 0) (j := 0) hF (m_X6_liar hx4 q18) w_X6_liar k_6_307 (by decide +kernel) rfl rfl rfl rfl rfl rfl rfl ?_
        exact zretI (pc := 125) hF hR (by decide +kernel) rfl (congrArg Prod.fst (Option.some.inj h)) (congrArg (fun (q : Int32 × zMem) => (q.2, n)) (Option.some.inj h))
    · replace h := zif b14 h
      refine zrun hF [(.aload 4, 2, pI 0), (.iload 5, 2, pI 0)] 70 _ (by decide +kernel) ?_
      show zG w f 6 74 ([some (pR 0 0), none, some (pI x2), none, some (pR 8 x4), some (pI x5)], [pI x5, pR 8 x4], (m, n))
      obtain ⟨r21, q20, h⟩ := zr_k h
      refine zcallVI (pc := 74) (As := [pI x5]) (st := []) (c := 8) (j := x4) hF (m_X4_number hx4 q20) w_X4_number k_6_297 (by decide +kernel) rfl hx4 rfl rfl rfl rfl rfl ?_
      refine zrun hF [(.aload_n 0, 1, pI 0), (.getfield 10, 3, pR 0 0), (.iload 5, 2, pI 0)] 77 _ (by decide +kernel) ?_
      refine (And.intro rfl (And.intro rfl ?_))
      show zG w f 6 83 ([some (pR 0 0), none, some (pI x2), none, some (pR 8 x4), some (pI x5)], [pI x5, pR 1 0, pI r21], (m, n))
      obtain ⟨r23, q22, h⟩ := zr_k h
      refine zcallVI (pc := 83) (As := [pI x5]) (st := [pI r21]) (c := 1) (j := 0) hF (m_X5_othersOf rfl q22) w_X5_othersOf k_6_300 (by decide +kernel) rfl rfl rfl rfl rfl rfl rfl ?_
      refine zrun hF [(.iconst (-1), 1, pI (-1)), (.ixor, 1, pI 0), (.iand, 1, pI 0)] 86 _ (by decide +kernel) ?_
      show zG w f 6 89 ([some (pR 0 0), none, some (pI x2), none, some (pR 8 x4), some (pI x5)], [pI (r21 &&& (r23 ^^^ (-1)))], (m, n))
      refine zif_eq (tgt := 99) (pc := 89) hF (by decide +kernel) (fun b24 => ?_) (fun b24 => ?_)
      · replace h := zit b24 h
        refine zrun hF [(.iinc 5 1, 3, pI 1)] 99 _ (by decide +kernel) ?_
        refine (And.intro rfl ?_)
        show zG w f 6 102 ([some (pR 0 0), none, some (pI x2), none, some (pR 8 x4), some (pI (x5 + 1))], [], (m, n))
        refine zgoto (tgt := 58) (pc := 102) hF (by decide +kernel) ?_
        exact ih _ _ _ _ hx4 h
      · replace h := zif b24 h
        refine zrun hF [(.aload_n 0, 1, pI 0), (.bipush (-6), 2, pI (-6))] 92 _ (by decide +kernel) ?_
        show zG w f 6 95 ([some (pR 0 0), none, some (pI x2), none, some (pR 8 x4), some (pI x5)], [pI (-6), pR 0 0], (m, n))
        obtain ⟨r26, m27, q25, h⟩ := zb_k h
        refine zcallVI (pc := 95) (As := [pI (-6)]) (st := []) (c := 0) (j := 0) hF (m_X6_refuseLower  q25) w_X6_refuseLower k_6_275 (by decide +kernel) rfl rfl rfl rfl rfl rfl rfl ?_
        exact zretI (pc := 98) hF hR (by decide +kernel) rfl (congrArg Prod.fst (Option.some.inj h)) (congrArg (fun (q : Int32 × zMem) => (q.2, n)) (Option.some.inj h))

set_option maxHeartbeats 4000000 in
set_option maxRecDepth 100000 in
theorem m_X6_told_L55 {w : zWd} {f : zFr} {n : zMem} {x : Int32} {m0 : zMem} {lc : Launch} (hl : f.2.1 = lc) (hF : zFOK w f 6 cX6_told 6 5) (hR : zFin w f (some .int) (zQI w x (m0, n))) : ∀ (x2 : Int32) (x4 : Nat) (m : zMem), Nat.blt x4 8 = true → s_X6_told_L55 x2 x4 m = some (x, m0) → zG w f 6 55 ([some (pR 0 0), none, some (pI x2), none, some (pR 8 x4), none], [], (m, n)) := by
  intro x2 x4 m hx4 h
  unfold s_X6_told_L55 at h
  refine zrun hF [(.iconst 0, 1, pI 0), (.istore 5, 2, pI 0)] 55 _ (by decide +kernel) ?_
  refine (And.intro rfl ?_)
  show zG w f 6 58 ([some (pR 0 0), none, some (pI x2), none, some (pR 8 x4), some (pI 0)], [], (m, n))
  exact m_X6_told_L58 hl hF hR  zF _ _ _ _ hx4 h

set_option maxHeartbeats 4000000 in
set_option maxRecDepth 100000 in
theorem m_X6_told {w : zWd} {lc : Launch} {n : zMem} {a1 : Int32} {a2 : Int32} {m : zMem} {x : Int32} {m0 : zMem}  (h : s_X6_told a1 a2 m = some (x, m0)) : zMet w lc 5 yX6_told cX6_told 6 (some .int) [pR 0 0, pI a1, pI a2] (m, n) (zQI w x (m0, n)) := by
  refine zmet (o := 6) (by decide +kernel) rfl (Nat.le_of_ble_eq_true rfl) rfl (fun f hl hF hR => ?_)
  unfold s_X6_told at h
  show zG w f 6 0 ([some (pR 0 0), some (pI a1), some (pI a2), none, none, none], [], (m, n))
  refine zrun hF [(.aload_n 0, 1, pI 0), (.iload_n 1, 1, pI 0)] 0 _ (by decide +kernel) ?_
  show zG w f 6 2 ([some (pR 0 0), some (pI a1), some (pI a2), none, none, none], [pI a1, pR 0 0], (m, n))
  obtain ⟨r2, q1, h⟩ := zr_k h
  refine zcallVI (pc := 2) (As := [pI a1]) (st := []) (c := 0) (j := 0) hF (m_X6_refusalOfRow  q1) w_X6_refusalOfRow k_6_81 (by decide +kernel) rfl rfl rfl rfl rfl rfl rfl ?_
  refine zrun hF [(.istore_n 3, 1, pI 0), (.iload_n 3, 1, pI 0)] 5 _ (by decide +kernel) ?_
  refine (And.intro rfl ?_)
  show zG w f 6 7 ([some (pR 0 0), some (pI a1), some (pI a2), some (pI r2), none, none], [pI r2], (m, n))
  refine zif_eq (tgt := 16) (pc := 7) hF (by decide +kernel) (fun b3 => ?_) (fun b3 => ?_)
  · replace h := zit b3 h
    obtain ⟨c4, h⟩ := zchk h
    refine zrun hF [(.aload_n 0, 1, pI 0), (.getfield 28, 3, pR 0 4), (.iload_n 1, 1, pI 0), (.aaload, 1, pI 0), (.astore 4, 2, pI 0), (.aload 4, 2, pI 0), (.getfield 294, 3, pR 8 2), (.aload_n 0, 1, pI 0), (.getfield 10, 3, pR 0 0), (.getfield 132, 3, pR 1 6)] 16 _ (by decide +kernel) ?_
    refine (And.intro rfl (And.intro rfl (And.intro rfl (And.intro c4 (And.intro rfl (And.intro rfl (And.intro (zinb_blt c4) (And.intro rfl (And.intro rfl (And.intro rfl (And.intro rfl ?_)))))))))))
    show zG w f 6 36 ([some (pR 0 0), some (pI a1), some (pI a2), some (pI r2), some (pR 8 (ix a1)), none], [pI (m.1 1 0 6), pI (m.1 8 (ix a1) 2)], (m, n))
    refine zicmp_lt (tgt := 48) (pc := 36) hF (by decide +kernel) (fun b5 => ?_) (fun b5 => ?_)
    · replace h := zit b5 h
      refine zcut [true, false, false, false, false, true] ?_
      exact m_X6_told_L48 hl hF hR  _  h
    · replace h := zif b5 h
      refine zrun hF [(.iload_n 2, 1, pI 0)] 39 _ (by decide +kernel) ?_
      show zG w f 6 40 ([some (pR 0 0), some (pI a1), some (pI a2), some (pI r2), some (pR 8 (ix a1)), none], [pI a2], (m, n))
      refine zif_eq (tgt := 55) (pc := 40) hF (by decide +kernel) (fun b6 => ?_) (fun b6 => ?_)
      · replace h := zit b6 h
        refine zcut [true, false, true, false, true, true] ?_
        exact m_X6_told_L55 hl hF hR  _ _ _ (zinb_blt c4) h
      · replace h := zif b6 h
        refine zrun hF [(.iload_n 2, 1, pI 0), (.iconst 1, 1, pI 1)] 43 _ (by decide +kernel) ?_
        show zG w f 6 45 ([some (pR 0 0), some (pI a1), some (pI a2), some (pI r2), some (pR 8 (ix a1)), none], [pI 1, pI a2], (m, n))
        refine zicmp_eq (tgt := 55) (pc := 45) hF (by decide +kernel) (fun b7 => ?_) (fun b7 => ?_)
        · replace h := zit b7 h
          refine zcut [true, false, true, false, true, true] ?_
          exact m_X6_told_L55 hl hF hR  _ _ _ (zinb_blt c4) h
        · replace h := zif b7 h
          refine zcut [true, false, false, false, false, true] ?_
          exact m_X6_told_L48 hl hF hR  _  h
  · replace h := zif b3 h
    refine zrun hF [(.aload_n 0, 1, pI 0), (.iload_n 3, 1, pI 0)] 10 _ (by decide +kernel) ?_
    show zG w f 6 12 ([some (pR 0 0), some (pI a1), some (pI a2), some (pI r2), none, none], [pI r2, pR 0 0], (m, n))
    obtain ⟨r9, m10, q8, h⟩ := zb_k h
    refine zcallVI (pc := 12) (As := [pI r2]) (st := []) (c := 0) (j := 0) hF (m_X6_refuseLower  q8) w_X6_refuseLower k_6_275 (by decide +kernel) rfl rfl rfl rfl rfl rfl rfl ?_
    exact zretI (pc := 15) hF hR (by decide +kernel) rfl (congrArg Prod.fst (Option.some.inj h)) (congrArg (fun (q : Int32 × zMem) => (q.2, n)) (Option.some.inj h))

set_option maxHeartbeats 4000000 in
set_option maxRecDepth 100000 in
theorem m_X7_unlike_L73 {w : zWd} {f : zFr} {n : zMem} {x : Int32} {lc : Launch} {mr : zMem} (hl : f.2.1 = lc) (hF : zFOK w f 7 cX7_unlike 6 2) (hR : zFin w f (some .int) (zQI w x (n, mr))) {k5 : Int32 → Int32 → Int32 → Int32 → zMem → Option Int32} (hk5 : ∀ (x1 : Int32) (x2 : Int32) (x3 : Int32) (x4 : Int32) (m : zMem), m = mr → k5 x1 x2 x3 x4 m = some x → zG w f 6 5 ([some (pR 64 0), some (pI x1), some (pI x2), some (pI x3), some (pI x4), none], [], (n, m))) {k20 : Int32 → Int32 → Int32 → Int32 → Int32 → zMem → Option Int32} (hk20 : ∀ (x1 : Int32) (x2 : Int32) (x3 : Int32) (x4 : Int32) (x5 : Int32) (m : zMem), m = mr → k20 x1 x2 x3 x4 x5 m = some x → zG w f 6 20 ([some (pR 64 0), some (pI x1), some (pI x2), some (pI x3), some (pI x4), some (pI x5)], [], (n, m))) : ∀ (x1 : Int32) (x2 : Int32) (x3 : Int32) (x4 : Int32) (x5 : Int32) (m : zMem), m = mr → s_X7_unlike_L73 k5 k20 x1 x2 x3 x4 x5 m = some x → zG w f 6 73 ([some (pR 64 0), some (pI x1), some (pI x2), some (pI x3), some (pI x4), some (pI x5)], [], (n, m)) := by
  intro x1 x2 x3 x4 x5 m hm h
  unfold s_X7_unlike_L73 at h
  refine zrun hF [(.iinc 5 1, 3, pI 1)] 73 _ (by decide +kernel) ?_
  refine (And.intro rfl ?_)
  show zG w f 6 76 ([some (pR 64 0), some (pI x1), some (pI x2), some (pI x3), some (pI x4), some (pI (x5 + 1))], [], (n, m))
  refine zgoto (tgt := 20) (pc := 76) hF (by decide +kernel) ?_
  exact hk20 _ _ _ _ _ _  hm h

set_option maxHeartbeats 4000000 in
set_option maxRecDepth 100000 in
theorem m_X7_unlike_L20 {w : zWd} {f : zFr} {n : zMem} {x : Int32} {lc : Launch} {mr : zMem} (hl : f.2.1 = lc) (hF : zFOK w f 7 cX7_unlike 6 2) (hR : zFin w f (some .int) (zQI w x (n, mr))) {k5 : Int32 → Int32 → Int32 → Int32 → zMem → Option Int32} (hk5 : ∀ (x1 : Int32) (x2 : Int32) (x3 : Int32) (x4 : Int32) (m : zMem), m = mr → k5 x1 x2 x3 x4 m = some x → zG w f 6 5 ([some (pR 64 0), some (pI x1), some (pI x2), some (pI x3), some (pI x4), none], [], (n, m))) : ∀ (k : Nat) (x1 : Int32) (x2 : Int32) (x3 : Int32) (x4 : Int32) (x5 : Int32) (m : zMem), m = mr → s_X7_unlike_L20 k5 k x1 x2 x3 x4 x5 m = some x → zG w f 6 20 ([some (pR 64 0), some (pI x1), some (pI x2), some (pI x3), some (pI x4), some (pI x5)], [], (n, m)) := by
  intro k
  induction k with
  | zero => intro x1 x2 x3 x4 x5 m hm h; exact zno h
  | succ k ih =>
    intro x1 x2 x3 x4 x5 m hm h
    unfold s_X7_unlike_L20 at h
    refine zrun hF [(.iload 5, 2, pI 0), (.aload_n 0, 1, pI 0), (.getfield 93, 3, pR 64 0)] 20 _ (by decide +kernel) ?_
    refine (And.intro rfl (And.intro rfl ?_))
    show zG w f 6 26 ([some (pR 64 0), some (pI x1), some (pI x2), some (pI x3), some (pI x4), some (pI x5)], [pI (m.1 64 0 0), pI x5], (n, m))
    refine zicmp_ge (tgt := 79) (pc := 26) hF (by decide +kernel) (fun b2 => ?_) (fun b2 => ?_)
    · replace h := zit b2 h
      refine zrun hF [(.iinc 4 1, 3, pI 1)] 79 _ (by decide +kernel) ?_
      refine (And.intro rfl ?_)
      show zG w f 6 82 ([some (pR 64 0), some (pI x1), some (pI x2), some (pI x3), some (pI (x4 + 1)), some (pI x5)], [], (n, m))
      refine zgoto (tgt := 5) (pc := 82) hF (by decide +kernel) ?_
      refine zcut [true, true, true, true, true, false] ?_
      exact hk5 _ _ _ _ _  hm h
    · replace h := zif b2 h
      refine zrun hF [(.iload 4, 2, pI 0), (.iload_n 2, 1, pI 0)] 29 _ (by decide +kernel) ?_
      show zG w f 6 32 ([some (pR 64 0), some (pI x1), some (pI x2), some (pI x3), some (pI x4), some (pI x5)], [pI x2, pI x4], (n, m))
      refine zicmp_eq (tgt := 73) (pc := 32) hF (by decide +kernel) (fun b3 => ?_) (fun b3 => ?_)
      · replace h := zit b3 h
        exact m_X7_unlike_L73 hl hF hR hk5 ih _ _ _ _ _ _  hm h
      · replace h := zif b3 h
        refine zrun hF [(.iload 5, 2, pI 0), (.iload_n 2, 1, pI 0)] 35 _ (by decide +kernel) ?_
        show zG w f 6 38 ([some (pR 64 0), some (pI x1), some (pI x2), some (pI x3), some (pI x4), some (pI x5)], [pI x2, pI x5], (n, m))
        refine zicmp_eq (tgt := 73) (pc := 38) hF (by decide +kernel) (fun b4 => ?_) (fun b4 => ?_)
        · replace h := zit b4 h
          exact m_X7_unlike_L73 hl hF hR hk5 ih _ _ _ _ _ _  hm h
        · replace h := zif b4 h
          refine zrun hF [(.aload_n 0, 1, pI 0), (.aload_n 0, 1, pI 0), (.iload_n 1, 1, pI 0), (.iload 4, 2, pI 0)] 41 _ (by decide +kernel) ?_
          show zG w f 6 46 ([some (pR 64 0), some (pI x1), some (pI x2), some (pI x3), some (pI x4), some (pI x5)], [pI x4, pI x1, pR 64 0, pR 64 0], (n, m))
          obtain ⟨r6, q5, h⟩ := zr_k h
          refine zcallVI (pc := 46) (As := [pI x1, pI x4]) (st := [pR 64 0]) (c := 64) (j := 0) hF (m_X7_intAt  q5) w_X7_intAt k_7_265 (by decide +kernel) rfl rfl rfl rfl rfl rfl rfl ?_
          refine zrun hF [(.iload 5, 2, pI 0)] 49 _ (by decide +kernel) ?_
          show zG w f 6 51 ([some (pR 64 0), some (pI x1), some (pI x2), some (pI x3), some (pI x4), some (pI x5)], [pI x5, pI r6, pR 64 0], (n, m))
          obtain ⟨r8, q7, h⟩ := zr_k h
          refine zcallVI (pc := 51) (As := [pI r6, pI x5]) (st := []) (c := 64) (j := 0) hF (m_X7_isIn  q7) w_X7_isIn k_7_130 (by decide +kernel) rfl rfl rfl rfl rfl rfl rfl ?_
          refine zrun hF [(.aload_n 0, 1, pI 0), (.aload_n 0, 1, pI 0), (.iload_n 1, 1, pI 0), (.iload 5, 2, pI 0)] 54 _ (by decide +kernel) ?_
          show zG w f 6 59 ([some (pR 64 0), some (pI x1), some (pI x2), some (pI x3), some (pI x4), some (pI x5)], [pI x5, pI x1, pR 64 0, pR 64 0, pI r8], (n, m))
          obtain ⟨r10, q9, h⟩ := zr_k h
          refine zcallVI (pc := 59) (As := [pI x1, pI x5]) (st := [pR 64 0, pI r8]) (c := 64) (j := 0) hF (m_X7_intAt  q9) w_X7_intAt k_7_265 (by decide +kernel) rfl rfl rfl rfl rfl rfl rfl ?_
          refine zrun hF [(.iload 4, 2, pI 0)] 62 _ (by decide +kernel) ?_
          show zG w f 6 64 ([some (pR 64 0), some (pI x1), some (pI x2), some (pI x3), some (pI x4), some (pI x5)], [pI x4, pI r10, pR 64 0, pI r8], (n, m))
          obtain ⟨r12, q11, h⟩ := zr_k h
          refine zcallVI (pc := 64) (As := [pI r10, pI x4]) (st := [pI r8]) (c := 64) (j := 0) hF (m_X7_isIn  q11) w_X7_isIn k_7_130 (by decide +kernel) rfl rfl rfl rfl rfl rfl rfl ?_
          refine zicmp_eq (tgt := 73) (pc := 67) hF (by decide +kernel) (fun b13 => ?_) (fun b13 => ?_)
          · replace h := zit b13 h
            exact m_X7_unlike_L73 hl hF hR hk5 ih _ _ _ _ _ _  hm h
          · replace h := zif b13 h
            refine zrun hF [(.iinc 3 1, 3, pI 1)] 70 _ (by decide +kernel) ?_
            refine (And.intro rfl ?_)
            show zG w f 6 73 ([some (pR 64 0), some (pI x1), some (pI x2), some (pI (x3 + 1)), some (pI x4), some (pI x5)], [], (n, m))
            exact m_X7_unlike_L73 hl hF hR hk5 ih _ _ _ _ _ _  hm h

set_option maxHeartbeats 4000000 in
set_option maxRecDepth 100000 in
theorem m_X7_unlike_L5 {w : zWd} {f : zFr} {n : zMem} {x : Int32} {lc : Launch} {mr : zMem} (hl : f.2.1 = lc) (hF : zFOK w f 7 cX7_unlike 6 2) (hR : zFin w f (some .int) (zQI w x (n, mr))) : ∀ (k : Nat) (x1 : Int32) (x2 : Int32) (x3 : Int32) (x4 : Int32) (m : zMem), m = mr → s_X7_unlike_L5 k x1 x2 x3 x4 m = some x → zG w f 6 5 ([some (pR 64 0), some (pI x1), some (pI x2), some (pI x3), some (pI x4), none], [], (n, m)) := by
  intro k
  induction k with
  | zero => intro x1 x2 x3 x4 m hm h; exact zno h
  | succ k ih =>
    intro x1 x2 x3 x4 m hm h
    unfold s_X7_unlike_L5 at h
    refine zrun hF [(.iload 4, 2, pI 0), (.aload_n 0, 1, pI 0), (.getfield 93, 3, pR 64 0)] 5 _ (by decide +kernel) ?_
    refine (And.intro rfl (And.intro rfl ?_))
    show zG w f 6 11 ([some (pR 64 0), some (pI x1), some (pI x2), some (pI x3), some (pI x4), none], [pI (m.1 64 0 0), pI x4], (n, m))
    refine zicmp_ge (tgt := 85) (pc := 11) hF (by decide +kernel) (fun b1 => ?_) (fun b1 => ?_)
    · replace h := zit b1 h
      refine zrun hF [(.iload_n 3, 1, pI 0)] 85 _ (by decide +kernel) ?_
      show zG w f 6 86 ([some (pR 64 0), some (pI x1), some (pI x2), some (pI x3), some (pI x4), none], [pI x3], (n, m))
      exact zretI (pc := 86) hF hR (by decide +kernel) rfl (Option.some.inj h) (congrArg (fun q => (n, q)) hm)
    · replace h := zif b1 h
      refine zrun hF [(.iload 4, 2, pI 0), (.iconst 1, 1, pI 1), (.iadd, 1, pI 0), (.istore 5, 2, pI 0)] 14 _ (by decide +kernel) ?_
      refine (And.intro rfl ?_)
      show zG w f 6 20 ([some (pR 64 0), some (pI x1), some (pI x2), some (pI x3), some (pI x4), some (pI (x4 + 1))], [], (n, m))
      exact m_X7_unlike_L20 hl hF hR ih zF _ _ _ _ _ _  hm h

set_option maxHeartbeats 4000000 in
set_option maxRecDepth 100000 in
theorem m_X7_unlike {w : zWd} {lc : Launch} {n : zMem} {a1 : Int32} {a2 : Int32} {m : zMem} {x : Int32}  (h : s_X7_unlike a1 a2 m = some x) : zMet w lc 2 yX7_unlike cX7_unlike 6 (some .int) [pR 64 0, pI a1, pI a2] (n, m) (zQI w x (n, m)) := by
  refine zmet (o := 7) (by decide +kernel) rfl (Nat.le_of_ble_eq_true rfl) rfl (fun f hl hF hR => ?_)
  unfold s_X7_unlike at h
  show zG w f 6 0 ([some (pR 64 0), some (pI a1), some (pI a2), none, none, none], [], (n, m))
  refine zrun hF [(.iconst 0, 1, pI 0), (.istore_n 3, 1, pI 0), (.iconst 0, 1, pI 0), (.istore 4, 2, pI 0)] 0 _ (by decide +kernel) ?_
  refine (And.intro rfl (And.intro rfl ?_))
  show zG w f 6 5 ([some (pR 64 0), some (pI a1), some (pI a2), some (pI 0), some (pI 0), none], [], (n, m))
  exact m_X7_unlike_L5 hl hF hR  zF _ _ _ _ _  rfl h

set_option maxHeartbeats 4000000 in
set_option maxRecDepth 100000 in
theorem m_X7_told_L124 {w : zWd} {f : zFr} {n : zMem} {x : Int32} {m0 : zMem} {lc : Launch} (hl : f.2.1 = lc) (hF : zFOK w f 7 cX7_told 6 3) (hR : zFin w f (some .int) (zQI w x (n, m0))) : ∀ (k : Nat) (x1 : Int32) (x4 : Int32) (x5 : Int32) (m : zMem), s_X7_told_L124 k x1 x4 x5 m = some (x, m0) → zG w f 6 124 ([some (pR 64 0), some (pI x1), none, none, some (pI x4), some (pI x5)], [], (n, m)) := by
  intro k
  induction k with
  | zero => intro x1 x4 x5 m h; exact zno h
  | succ k ih =>
    intro x1 x4 x5 m h
    unfold s_X7_told_L124 at h
    refine zrun hF [(.iload 5, 2, pI 0), (.aload_n 0, 1, pI 0), (.getfield 93, 3, pR 64 0)] 124 _ (by decide +kernel) ?_
    refine (And.intro rfl (And.intro rfl ?_))
    show zG w f 6 130 ([some (pR 64 0), some (pI x1), none, none, some (pI x4), some (pI x5)], [pI (m.1 64 0 0), pI x5], (n, m))
    refine zicmp_ge (tgt := 157) (pc := 130) hF (by decide +kernel) (fun b24 => ?_) (fun b24 => ?_)
    · replace h := zit b24 h
      refine zrun hF [(.iconst (-1), 1, pI (-1))] 157 _ (by decide +kernel) ?_
      show zG w f 6 158 ([some (pR 64 0), some (pI x1), none, none, some (pI x4), some (pI x5)], [pI (-1)], (n, m))
      exact zretI (pc := 158) hF hR (by decide +kernel) rfl (congrArg Prod.fst (Option.some.inj h)) (congrArg (fun (q : Int32 × zMem) => (n, q.2)) (Option.some.inj h))
    · replace h := zif b24 h
      refine zrun hF [(.iload 4, 2, pI 0)] 133 _ (by decide +kernel) ?_
      show zG w f 6 135 ([some (pR 64 0), some (pI x1), none, none, some (pI x4), some (pI x5)], [pI x4], (n, m))
      refine zif_le (tgt := 157) (pc := 135) hF (by decide +kernel) (fun b25 => ?_) (fun b25 => ?_)
      · replace h := zit b25 h
        refine zrun hF [(.iconst (-1), 1, pI (-1))] 157 _ (by decide +kernel) ?_
        show zG w f 6 158 ([some (pR 64 0), some (pI x1), none, none, some (pI x4), some (pI x5)], [pI (-1)], (n, m))
        exact zretI (pc := 158) hF hR (by decide +kernel) rfl (congrArg Prod.fst (Option.some.inj h)) (congrArg (fun (q : Int32 × zMem) => (n, q.2)) (Option.some.inj h))
      · replace h := zif b25 h
        refine zrun hF [(.aload_n 0, 1, pI 0), (.iload_n 1, 1, pI 0), (.iload 5, 2, pI 0)] 138 _ (by decide +kernel) ?_
        show zG w f 6 142 ([some (pR 64 0), some (pI x1), none, none, some (pI x4), some (pI x5)], [pI x5, pI x1, pR 64 0], (n, m))
        obtain ⟨r27, q26, h⟩ := zr_k h
        refine zcallVI (pc := 142) (As := [pI x1, pI x5]) (st := []) (c := 64) (j := 0) hF (m_X7_unlike  q26) w_X7_unlike k_7_280 (by decide +kernel) rfl rfl rfl rfl rfl rfl rfl ?_
        refine zif_ne (tgt := 151) (pc := 145) hF (by decide +kernel) (fun b28 => ?_) (fun b28 => ?_)
        · replace h := zit b28 h
          refine zrun hF [(.iload 5, 2, pI 0)] 148 _ (by decide +kernel) ?_
          show zG w f 6 150 ([some (pR 64 0), some (pI x1), none, none, some (pI x4), some (pI x5)], [pI x5], (n, m))
          exact zretI (pc := 150) hF hR (by decide +kernel) rfl (congrArg Prod.fst (Option.some.inj h)) (congrArg (fun (q : Int32 × zMem) => (n, q.2)) (Option.some.inj h))
        · replace h := zif b28 h
          refine zrun hF [(.iinc 5 1, 3, pI 1)] 151 _ (by decide +kernel) ?_
          refine (And.intro rfl ?_)
          show zG w f 6 154 ([some (pR 64 0), some (pI x1), none, none, some (pI x4), some (pI (x5 + 1))], [], (n, m))
          refine zgoto (tgt := 124) (pc := 154) hF (by decide +kernel) ?_
          exact ih _ _ _ _  h

set_option maxHeartbeats 4000000 in
set_option maxRecDepth 100000 in
theorem m_X7_told_L96 {w : zWd} {f : zFr} {n : zMem} {x : Int32} {m0 : zMem} {lc : Launch} (hl : f.2.1 = lc) (hF : zFOK w f 7 cX7_told 6 3) (hR : zFin w f (some .int) (zQI w x (n, m0))) : ∀ (x1 : Int32) (x2 : Int32) (x3 : Int32) (m : zMem), s_X7_told_L96 x1 x2 x3 m = some (x, m0) → zG w f 6 96 ([some (pR 64 0), some (pI x1), some (pI x2), some (pI x3), none, none], [], (n, m)) := by
  intro x1 x2 x3 m h
  unfold s_X7_told_L96 at h
  refine zrun hF [(.iload_n 3, 1, pI 0)] 96 _ (by decide +kernel) ?_
  show zG w f 6 97 ([some (pR 64 0), some (pI x1), some (pI x2), some (pI x3), none, none], [pI x3], (n, m))
  refine zif_eq (tgt := 106) (pc := 97) hF (by decide +kernel) (fun b17 => ?_) (fun b17 => ?_)
  · replace h := zit b17 h
    refine zrun hF [(.aload_n 0, 1, pI 0), (.iload_n 1, 1, pI 0), (.iconst (-1), 1, pI (-1))] 106 _ (by decide +kernel) ?_
    show zG w f 6 109 ([some (pR 64 0), some (pI x1), some (pI x2), some (pI x3), none, none], [pI (-1), pI x1, pR 64 0], (n, m))
    obtain ⟨r19, q18, h⟩ := zr_k h
    refine zcallVI (pc := 109) (As := [pI x1, pI (-1)]) (st := []) (c := 64) (j := 0) hF (m_X7_unlike  q18) w_X7_unlike k_7_280 (by decide +kernel) rfl rfl rfl rfl rfl rfl rfl ?_
    refine zrun hF [(.istore 4, 2, pI 0), (.iload_n 2, 1, pI 0)] 112 _ (by decide +kernel) ?_
    refine (And.intro rfl ?_)
    show zG w f 6 115 ([some (pR 64 0), some (pI x1), some (pI x2), some (pI x3), some (pI r19), none], [pI x2], (n, m))
    refine zif_ne (tgt := 121) (pc := 115) hF (by decide +kernel) (fun b20 => ?_) (fun b20 => ?_)
    · replace h := zit b20 h
      refine zrun hF [(.iload 4, 2, pI 0)] 118 _ (by decide +kernel) ?_
      show zG w f 6 120 ([some (pR 64 0), some (pI x1), some (pI x2), some (pI x3), some (pI r19), none], [pI r19], (n, m))
      exact zretI (pc := 120) hF hR (by decide +kernel) rfl (congrArg Prod.fst (Option.some.inj h)) (congrArg (fun (q : Int32 × zMem) => (n, q.2)) (Option.some.inj h))
    · replace h := zif b20 h
      refine zrun hF [(.iconst 0, 1, pI 0), (.istore 5, 2, pI 0)] 121 _ (by decide +kernel) ?_
      refine (And.intro rfl ?_)
      show zG w f 6 124 ([some (pR 64 0), some (pI x1), some (pI x2), some (pI x3), some (pI r19), some (pI 0)], [], (n, m))
      refine zcut [true, true, false, false, true, true] ?_
      exact m_X7_told_L124 hl hF hR  zF _ _ _ _  h
  · replace h := zif b17 h
    refine zrun hF [(.aload_n 0, 1, pI 0), (.iload_n 3, 1, pI 0)] 100 _ (by decide +kernel) ?_
    show zG w f 6 102 ([some (pR 64 0), some (pI x1), some (pI x2), some (pI x3), none, none], [pI x3, pR 64 0], (n, m))
    obtain ⟨r22, m23, q21, h⟩ := zb_k h
    refine zcallVI (pc := 102) (As := [pI x3]) (st := []) (c := 64) (j := 0) hF (m_X7_noTen  q21) w_X7_noTen k_7_274 (by decide +kernel) rfl rfl rfl rfl rfl rfl rfl ?_
    exact zretI (pc := 105) hF hR (by decide +kernel) rfl (congrArg Prod.fst (Option.some.inj h)) (congrArg (fun (q : Int32 × zMem) => (n, q.2)) (Option.some.inj h))

set_option maxHeartbeats 4000000 in
set_option maxRecDepth 100000 in
theorem m_X7_told_L90 {w : zWd} {f : zFr} {n : zMem} {x : Int32} {m0 : zMem} {lc : Launch} (hl : f.2.1 = lc) (hF : zFOK w f 7 cX7_told 6 3) (hR : zFin w f (some .int) (zQI w x (n, m0))) {k38 : Int32 → Int32 → Int32 → Int32 → zMem → Option (Int32 × zMem)} (hk38 : ∀ (x1 : Int32) (x2 : Int32) (x3 : Int32) (x4 : Int32) (m : zMem), k38 x1 x2 x3 x4 m = some (x, m0) → zG w f 6 38 ([some (pR 64 0), some (pI x1), some (pI x2), some (pI x3), some (pI x4), none], [], (n, m))) : ∀ (x1 : Int32) (x2 : Int32) (x3 : Int32) (x4 : Int32) (m : zMem), s_X7_told_L90 k38 x1 x2 x3 x4 m = some (x, m0) → zG w f 6 90 ([some (pR 64 0), some (pI x1), some (pI x2), some (pI x3), some (pI x4), none], [], (n, m)) := by
  intro x1 x2 x3 x4 m h
  unfold s_X7_told_L90 at h
  refine zrun hF [(.iinc 4 1, 3, pI 1)] 90 _ (by decide +kernel) ?_
  refine (And.intro rfl ?_)
  show zG w f 6 93 ([some (pR 64 0), some (pI x1), some (pI x2), some (pI x3), some (pI (x4 + 1)), none], [], (n, m))
  refine zgoto (tgt := 38) (pc := 93) hF (by decide +kernel) ?_
  exact hk38 _ _ _ _ _  h

set_option maxHeartbeats 4000000 in
set_option maxRecDepth 100000 in
theorem m_X7_told_L87 {w : zWd} {f : zFr} {n : zMem} {x : Int32} {m0 : zMem} {lc : Launch} (hl : f.2.1 = lc) (hF : zFOK w f 7 cX7_told 6 3) (hR : zFin w f (some .int) (zQI w x (n, m0))) {k38 : Int32 → Int32 → Int32 → Int32 → zMem → Option (Int32 × zMem)} (hk38 : ∀ (x1 : Int32) (x2 : Int32) (x3 : Int32) (x4 : Int32) (m : zMem), k38 x1 x2 x3 x4 m = some (x, m0) → zG w f 6 38 ([some (pR 64 0), some (pI x1), some (pI x2), some (pI x3), some (pI x4), none], [], (n, m))) : ∀ (x1 : Int32) (x2 : Int32) (x4 : Int32) (m : zMem), s_X7_told_L87 k38 x1 x2 x4 m = some (x, m0) → zG w f 6 87 ([some (pR 64 0), some (pI x1), some (pI x2), none, some (pI x4), none], [], (n, m)) := by
  intro x1 x2 x4 m h
  unfold s_X7_told_L87 at h
  refine zrun hF [(.bipush (-6), 2, pI (-6)), (.istore_n 3, 1, pI 0)] 87 _ (by decide +kernel) ?_
  refine (And.intro rfl ?_)
  show zG w f 6 90 ([some (pR 64 0), some (pI x1), some (pI x2), some (pI (-6)), some (pI x4), none], [], (n, m))
  exact m_X7_told_L90 hl hF hR hk38 _ _ _ _ _  h

set_option maxHeartbeats 4000000 in
set_option maxRecDepth 100000 in
theorem m_X7_told_L38 {w : zWd} {f : zFr} {n : zMem} {x : Int32} {m0 : zMem} {lc : Launch} (hl : f.2.1 = lc) (hF : zFOK w f 7 cX7_told 6 3) (hR : zFin w f (some .int) (zQI w x (n, m0))) : ∀ (k : Nat) (x1 : Int32) (x2 : Int32) (x3 : Int32) (x4 : Int32) (m : zMem), s_X7_told_L38 k x1 x2 x3 x4 m = some (x, m0) → zG w f 6 38 ([some (pR 64 0), some (pI x1), some (pI x2), some (pI x3), some (pI x4), none], [], (n, m)) := by
  intro k
  induction k with
  | zero => intro x1 x2 x3 x4 m h; exact zno h
  | succ k ih =>
    intro x1 x2 x3 x4 m h
    unfold s_X7_told_L38 at h
    refine zrun hF [(.iload 4, 2, pI 0), (.aload_n 0, 1, pI 0), (.getfield 93, 3, pR 64 0)] 38 _ (by decide +kernel) ?_
    refine (And.intro rfl (And.intro rfl ?_))
    show zG w f 6 44 ([some (pR 64 0), some (pI x1), some (pI x2), some (pI x3), some (pI x4), none], [pI (m.1 64 0 0), pI x4], (n, m))
    refine zicmp_ge (tgt := 96) (pc := 44) hF (by decide +kernel) (fun b8 => ?_) (fun b8 => ?_)
    · replace h := zit b8 h
      refine zcut [true, true, true, true, false, true] ?_
      exact m_X7_told_L96 hl hF hR  _ _ _ _  h
    · replace h := zif b8 h
      refine zrun hF [(.iload_n 3, 1, pI 0)] 47 _ (by decide +kernel) ?_
      show zG w f 6 48 ([some (pR 64 0), some (pI x1), some (pI x2), some (pI x3), some (pI x4), none], [pI x3], (n, m))
      refine zif_ne (tgt := 96) (pc := 48) hF (by decide +kernel) (fun b9 => ?_) (fun b9 => ?_)
      · replace h := zit b9 h
        refine zrun hF [(.aload_n 0, 1, pI 0), (.iload_n 1, 1, pI 0), (.iload 4, 2, pI 0)] 51 _ (by decide +kernel) ?_
        show zG w f 6 55 ([some (pR 64 0), some (pI x1), some (pI x2), some (pI x3), some (pI x4), none], [pI x4, pI x1, pR 64 0], (n, m))
        obtain ⟨r11, q10, h⟩ := zr_k h
        refine zcallVI (pc := 55) (As := [pI x1, pI x4]) (st := []) (c := 64) (j := 0) hF (m_X7_intAt  q10) w_X7_intAt k_7_265 (by decide +kernel) rfl rfl rfl rfl rfl rfl rfl ?_
        refine zrun hF [(.istore 5, 2, pI 0), (.iload 5, 2, pI 0)] 58 _ (by decide +kernel) ?_
        refine (And.intro rfl ?_)
        show zG w f 6 62 ([some (pR 64 0), some (pI x1), some (pI x2), some (pI x3), some (pI x4), some (pI r11)], [pI r11], (n, m))
        refine zif_lt (tgt := 87) (pc := 62) hF (by decide +kernel) (fun b12 => ?_) (fun b12 => ?_)
        · replace h := zit b12 h
          refine zcut [true, true, true, false, true, false] ?_
          exact m_X7_told_L87 hl hF hR ih _ _ _ _  h
        · replace h := zif b12 h
          refine zrun hF [(.iload 5, 2, pI 0), (.iconst 1, 1, pI 1), (.aload_n 0, 1, pI 0), (.getfield 93, 3, pR 64 0), (.ishl, 1, pI 0)] 65 _ (by decide +kernel) ?_
          refine (And.intro rfl (And.intro rfl ?_))
          show zG w f 6 73 ([some (pR 64 0), some (pI x1), some (pI x2), some (pI x3), some (pI x4), some (pI r11)], [pI (jshl 1 (m.1 64 0 0)), pI r11], (n, m))
          refine zicmp_ge (tgt := 87) (pc := 73) hF (by decide +kernel) (fun b13 => ?_) (fun b13 => ?_)
          · replace h := zit b13 h
            refine zcut [true, true, true, false, true, false] ?_
            exact m_X7_told_L87 hl hF hR ih _ _ _ _  h
          · replace h := zif b13 h
            refine zrun hF [(.aload_n 0, 1, pI 0), (.iload 5, 2, pI 0), (.iload 4, 2, pI 0)] 76 _ (by decide +kernel) ?_
            show zG w f 6 81 ([some (pR 64 0), some (pI x1), some (pI x2), some (pI x3), some (pI x4), some (pI r11)], [pI x4, pI r11, pR 64 0], (n, m))
            obtain ⟨r15, q14, h⟩ := zr_k h
            refine zcallVI (pc := 81) (As := [pI r11, pI x4]) (st := []) (c := 64) (j := 0) hF (m_X7_isIn  q14) w_X7_isIn k_7_130 (by decide +kernel) rfl rfl rfl rfl rfl rfl rfl ?_
            refine zif_eq (tgt := 90) (pc := 84) hF (by decide +kernel) (fun b16 => ?_) (fun b16 => ?_)
            · replace h := zit b16 h
              refine zcut [true, true, true, true, true, false] ?_
              exact m_X7_told_L90 hl hF hR ih _ _ _ _ _  h
            · replace h := zif b16 h
              refine zcut [true, true, true, false, true, false] ?_
              exact m_X7_told_L87 hl hF hR ih _ _ _ _  h
      · replace h := zif b9 h
        refine zcut [true, true, true, true, false, true] ?_
        exact m_X7_told_L96 hl hF hR  _ _ _ _  h

set_option maxHeartbeats 4000000 in
set_option maxRecDepth 100000 in
theorem m_X7_told_L35 {w : zWd} {f : zFr} {n : zMem} {x : Int32} {m0 : zMem} {lc : Launch} (hl : f.2.1 = lc) (hF : zFOK w f 7 cX7_told 6 3) (hR : zFin w f (some .int) (zQI w x (n, m0))) : ∀ (x1 : Int32) (x2 : Int32) (x3 : Int32) (m : zMem), s_X7_told_L35 x1 x2 x3 m = some (x, m0) → zG w f 6 35 ([some (pR 64 0), some (pI x1), some (pI x2), some (pI x3), none, none], [], (n, m)) := by
  intro x1 x2 x3 m h
  unfold s_X7_told_L35 at h
  refine zrun hF [(.iconst 0, 1, pI 0), (.istore 4, 2, pI 0)] 35 _ (by decide +kernel) ?_
  refine (And.intro rfl ?_)
  show zG w f 6 38 ([some (pR 64 0), some (pI x1), some (pI x2), some (pI x3), some (pI 0), none], [], (n, m))
  exact m_X7_told_L38 hl hF hR  zF _ _ _ _ _  h

set_option maxHeartbeats 4000000 in
set_option maxRecDepth 100000 in
theorem m_X7_told_L32 {w : zWd} {f : zFr} {n : zMem} {x : Int32} {m0 : zMem} {lc : Launch} (hl : f.2.1 = lc) (hF : zFOK w f 7 cX7_told 6 3) (hR : zFin w f (some .int) (zQI w x (n, m0))) : ∀ (x1 : Int32) (x2 : Int32) (m : zMem), s_X7_told_L32 x1 x2 m = some (x, m0) → zG w f 6 32 ([some (pR 64 0), some (pI x1), some (pI x2), none, none, none], [], (n, m)) := by
  intro x1 x2 m h
  unfold s_X7_told_L32 at h
  refine zrun hF [(.bipush (-5), 2, pI (-5)), (.istore_n 3, 1, pI 0)] 32 _ (by decide +kernel) ?_
  refine (And.intro rfl ?_)
  show zG w f 6 35 ([some (pR 64 0), some (pI x1), some (pI x2), some (pI (-5)), none, none], [], (n, m))
  exact m_X7_told_L35 hl hF hR  _ _ _ _  h

set_option maxHeartbeats 4000000 in
set_option maxRecDepth 100000 in
theorem m_X7_told {w : zWd} {lc : Launch} {n : zMem} {a1 : Int32} {a2 : Int32} {m : zMem} {x : Int32} {m0 : zMem}  (h : s_X7_told a1 a2 m = some (x, m0)) : zMet w lc 3 yX7_told cX7_told 6 (some .int) [pR 64 0, pI a1, pI a2] (n, m) (zQI w x (n, m0)) := by
  refine zmet (o := 7) (by decide +kernel) rfl (Nat.le_of_ble_eq_true rfl) rfl (fun f hl hF hR => ?_)
  unfold s_X7_told at h
  show zG w f 6 0 ([some (pR 64 0), some (pI a1), some (pI a2), none, none, none], [], (n, m))
  refine zrun hF [(.aload_n 0, 1, pI 0), (.iload_n 1, 1, pI 0)] 0 _ (by decide +kernel) ?_
  show zG w f 6 2 ([some (pR 64 0), some (pI a1), some (pI a2), none, none, none], [pI a1, pR 64 0], (n, m))
  obtain ⟨r2, q1, h⟩ := zr_k h
  refine zcallVI (pc := 2) (As := [pI a1]) (st := []) (c := 64) (j := 0) hF (m_X7_needed  q1) w_X7_needed k_7_117 (by decide +kernel) rfl rfl rfl rfl rfl rfl rfl ?_
  refine zrun hF [(.istore_n 3, 1, pI 0), (.iload_n 3, 1, pI 0)] 5 _ (by decide +kernel) ?_
  refine (And.intro rfl ?_)
  show zG w f 6 7 ([some (pR 64 0), some (pI a1), some (pI a2), some (pI r2), none, none], [pI r2], (n, m))
  refine zif_ne (tgt := 35) (pc := 7) hF (by decide +kernel) (fun b3 => ?_) (fun b3 => ?_)
  · replace h := zit b3 h
    obtain ⟨c4, h⟩ := zchk h
    refine zrun hF [(.aload_n 0, 1, pI 0), (.getfield 93, 3, pR 64 0), (.aload_n 0, 1, pI 0), (.getfield 44, 3, pR 64 15), (.iload_n 1, 1, pI 0), (.iaload, 1, pI 0)] 10 _ (by decide +kernel) ?_
    refine (And.intro rfl (And.intro rfl (And.intro rfl (And.intro rfl (And.intro rfl (And.intro rfl (And.intro c4 ?_)))))))
    show zG w f 6 20 ([some (pR 64 0), some (pI a1), some (pI a2), some (pI r2), none, none], [pI (m.1 73 0 (ix a1)), pI (m.1 64 0 0)], (n, m))
    refine zicmp_gt (tgt := 32) (pc := 20) hF (by decide +kernel) (fun b5 => ?_) (fun b5 => ?_)
    · replace h := zit b5 h
      refine zcut [true, true, true, false, true, true] ?_
      exact m_X7_told_L32 hl hF hR  _ _ _  h
    · replace h := zif b5 h
      refine zrun hF [(.iload_n 2, 1, pI 0)] 23 _ (by decide +kernel) ?_
      show zG w f 6 24 ([some (pR 64 0), some (pI a1), some (pI a2), some (pI r2), none, none], [pI a2], (n, m))
      refine zif_lt (tgt := 32) (pc := 24) hF (by decide +kernel) (fun b6 => ?_) (fun b6 => ?_)
      · replace h := zit b6 h
        refine zcut [true, true, true, false, true, true] ?_
        exact m_X7_told_L32 hl hF hR  _ _ _  h
      · replace h := zif b6 h
        refine zrun hF [(.iload_n 2, 1, pI 0), (.iconst 1, 1, pI 1)] 27 _ (by decide +kernel) ?_
        show zG w f 6 29 ([some (pR 64 0), some (pI a1), some (pI a2), some (pI r2), none, none], [pI 1, pI a2], (n, m))
        refine zicmp_le (tgt := 35) (pc := 29) hF (by decide +kernel) (fun b7 => ?_) (fun b7 => ?_)
        · replace h := zit b7 h
          exact m_X7_told_L35 hl hF hR  _ _ _ _  h
        · replace h := zif b7 h
          refine zcut [true, true, true, false, true, true] ?_
          exact m_X7_told_L32 hl hF hR  _ _ _  h
  · replace h := zif b3 h
    exact m_X7_told_L35 hl hF hR  _ _ _ _  h

set_option maxHeartbeats 4000000 in
set_option maxRecDepth 100000 in
theorem m_X2_makeLayers_L58 {w : zWd} {f : zFr} {n : zMem} {x : Int32} {m0 : zMem} {lc : Launch} (hl : f.2.1 = lc) (hF : zFOK w f 2 cX2_makeLayers 4 1) (hR : zFin w f (some .int) (zQI w x (m0, n))) {k4 : Int32 → Int32 → zMem → Option (Int32 × zMem)} (hk4 : ∀ (x1 : Int32) (x2 : Int32) (m : zMem), k4 x1 x2 m = some (x, m0) → zG w f 4 4 ([some (pR 10 0), some (pI x1), some (pI x2), none], [], (m, n))) : ∀ (x1 : Int32) (x2 : Int32) (x3 : Int32) (m : zMem), s_X2_makeLayers_L58 k4 x1 x2 x3 m = some (x, m0) → zG w f 4 58 ([some (pR 10 0), some (pI x1), some (pI x2), some (pI x3)], [], (m, n)) := by
  intro x1 x2 x3 m h
  unfold s_X2_makeLayers_L58 at h
  obtain ⟨c9, h⟩ := zchk h
  refine zrun hF [(.aload_n 0, 1, pI 0), (.getfield 28, 3, pR 10 5), (.iload_n 3, 1, pI 0), (.dup2, 1, pI 0), (.laload, 1, pI 0), (.lconst 1, 1, pL 1), (.iload_n 2, 1, pI 0), (.lshl, 1, pI 0), (.lor, 1, pI 0), (.lastore, 1, pI 0)] 58 _ (by decide +kernel) ?_
  refine (And.intro rfl (And.intro rfl (And.intro rfl (And.intro rfl (And.intro rfl (And.intro c9 (And.intro rfl (And.intro rfl (And.intro c9 ?_)))))))))
  refine zlet_k (P := fun (m10 : zMem) => zG w f 4 70 ([some (pR 10 0), some (pI x1), some (pI x2), some (pI x3)], [], (m10, n))) h (fun m10 h => ?_)
  refine zrun hF [(.iinc 2 1, 3, pI 1)] 70 _ (by decide +kernel) ?_
  refine (And.intro rfl ?_)
  show zG w f 4 73 ([some (pR 10 0), some (pI x1), some (pI (x2 + 1)), some (pI x3)], [], (m10, n))
  refine zgoto (tgt := 4) (pc := 73) hF (by decide +kernel) ?_
  refine zcut [true, true, true, false] ?_
  exact hk4 _ _ _  h

set_option maxHeartbeats 4000000 in
set_option maxRecDepth 100000 in
theorem m_X2_makeLayers_L43 {w : zWd} {f : zFr} {n : zMem} {x : Int32} {m0 : zMem} {lc : Launch} (hl : f.2.1 = lc) (hF : zFOK w f 2 cX2_makeLayers 4 1) (hR : zFin w f (some .int) (zQI w x (m0, n))) {k4 : Int32 → Int32 → zMem → Option (Int32 × zMem)} (hk4 : ∀ (x1 : Int32) (x2 : Int32) (m : zMem), k4 x1 x2 m = some (x, m0) → zG w f 4 4 ([some (pR 10 0), some (pI x1), some (pI x2), none], [], (m, n))) : ∀ (x1 : Int32) (x2 : Int32) (x3 : Int32) (m : zMem), s_X2_makeLayers_L43 k4 x1 x2 x3 m = some (x, m0) → zG w f 4 43 ([some (pR 10 0), some (pI x1), some (pI x2), some (pI x3)], [], (m, n)) := by
  intro x1 x2 x3 m h
  unfold s_X2_makeLayers_L43 at h
  refine zrun hF [(.iload_n 3, 1, pI 0), (.iload_n 1, 1, pI 0)] 43 _ (by decide +kernel) ?_
  show zG w f 4 45 ([some (pR 10 0), some (pI x1), some (pI x2), some (pI x3)], [pI x1, pI x3], (m, n))
  refine zicmp_ne (tgt := 58) (pc := 45) hF (by decide +kernel) (fun b6 => ?_) (fun b6 => ?_)
  · replace h := zit b6 h
    obtain ⟨c7, h⟩ := zchk h
    refine zrun hF [(.aload_n 0, 1, pI 0), (.getfield 28, 3, pR 10 5), (.iload_n 1, 1, pI 0), (.lconst 0, 1, pL 0), (.lastore, 1, pI 0)] 48 _ (by decide +kernel) ?_
    refine (And.intro rfl (And.intro rfl (And.intro rfl (And.intro rfl (And.intro c7 ?_)))))
    refine zlet_k (P := fun (m8 : zMem) => zG w f 4 55 ([some (pR 10 0), some (pI x1), some (pI x2), some (pI x3)], [], (m8, n))) h (fun m8 h => ?_)
    refine zrun hF [(.iinc 1 1, 3, pI 1)] 55 _ (by decide +kernel) ?_
    refine (And.intro rfl ?_)
    show zG w f 4 58 ([some (pR 10 0), some (pI (x1 + 1)), some (pI x2), some (pI x3)], [], (m8, n))
    exact m_X2_makeLayers_L58 hl hF hR hk4 _ _ _ _  h
  · replace h := zif b6 h
    exact m_X2_makeLayers_L58 hl hF hR hk4 _ _ _ _  h

set_option maxHeartbeats 4000000 in
set_option maxRecDepth 100000 in
theorem m_X2_makeLayers_L14 {w : zWd} {f : zFr} {n : zMem} {x : Int32} {m0 : zMem} {lc : Launch} (hl : f.2.1 = lc) (hF : zFOK w f 2 cX2_makeLayers 4 1) (hR : zFin w f (some .int) (zQI w x (m0, n))) {k4 : Int32 → Int32 → zMem → Option (Int32 × zMem)} (hk4 : ∀ (x1 : Int32) (x2 : Int32) (m : zMem), k4 x1 x2 m = some (x, m0) → zG w f 4 4 ([some (pR 10 0), some (pI x1), some (pI x2), none], [], (m, n))) : ∀ (k : Nat) (x1 : Int32) (x2 : Int32) (x3 : Int32) (m : zMem), s_X2_makeLayers_L14 k4 k x1 x2 x3 m = some (x, m0) → zG w f 4 14 ([some (pR 10 0), some (pI x1), some (pI x2), some (pI x3)], [], (m, n)) := by
  intro k
  induction k with
  | zero => intro x1 x2 x3 m h; exact zno h
  | succ k ih =>
    intro x1 x2 x3 m h
    unfold s_X2_makeLayers_L14 at h
    refine zrun hF [(.iload_n 3, 1, pI 0), (.iload_n 1, 1, pI 0)] 14 _ (by decide +kernel) ?_
    show zG w f 4 16 ([some (pR 10 0), some (pI x1), some (pI x2), some (pI x3)], [pI x1, pI x3], (m, n))
    refine zicmp_ge (tgt := 43) (pc := 16) hF (by decide +kernel) (fun b2 => ?_) (fun b2 => ?_)
    · replace h := zit b2 h
      exact m_X2_makeLayers_L43 hl hF hR hk4 _ _ _ _  h
    · replace h := zif b2 h
      obtain ⟨c3, h⟩ := zchk h
      obtain ⟨c4, h⟩ := zchk h
      refine zrun hF [(.aload_n 0, 1, pI 0), (.getfield 28, 3, pR 10 5), (.iload_n 3, 1, pI 0), (.laload, 1, pI 0), (.aload_n 0, 1, pI 0), (.getfield 21, 3, pR 10 3), (.iload_n 2, 1, pI 0), (.laload, 1, pI 0), (.land, 1, pI 0), (.lconst 0, 1, pL 0), (.lcmp, 1, pI 0)] 19 _ (by decide +kernel) ?_
      refine (And.intro rfl (And.intro rfl (And.intro rfl (And.intro rfl (And.intro c3 (And.intro rfl (And.intro rfl (And.intro rfl (And.intro rfl (And.intro c4 ?_))))))))))
      show zG w f 4 34 ([some (pR 10 0), some (pI x1), some (pI x2), some (pI x3)], [pI (lg_cmp ((m.2 16 0 (ix x3)) &&& (m.2 14 0 (ix x2))) 0)], (m, n))
      refine zif_eq (tgt := 43) (pc := 34) hF (by decide +kernel) (fun b5 => ?_) (fun b5 => ?_)
      · replace h := zit b5 h
        exact m_X2_makeLayers_L43 hl hF hR hk4 _ _ _ _  h
      · replace h := zif b5 h
        refine zrun hF [(.iinc 3 1, 3, pI 1)] 37 _ (by decide +kernel) ?_
        refine (And.intro rfl ?_)
        show zG w f 4 40 ([some (pR 10 0), some (pI x1), some (pI x2), some (pI (x3 + 1))], [], (m, n))
        refine zgoto (tgt := 14) (pc := 40) hF (by decide +kernel) ?_
        exact ih _ _ _ _  h

set_option maxHeartbeats 4000000 in
set_option maxRecDepth 100000 in
theorem m_X2_makeLayers_L4 {w : zWd} {f : zFr} {n : zMem} {x : Int32} {m0 : zMem} {lc : Launch} (hl : f.2.1 = lc) (hF : zFOK w f 2 cX2_makeLayers 4 1) (hR : zFin w f (some .int) (zQI w x (m0, n))) : ∀ (k : Nat) (x1 : Int32) (x2 : Int32) (m : zMem), s_X2_makeLayers_L4 k x1 x2 m = some (x, m0) → zG w f 4 4 ([some (pR 10 0), some (pI x1), some (pI x2), none], [], (m, n)) := by
  intro k
  induction k with
  | zero => intro x1 x2 m h; exact zno h
  | succ k ih =>
    intro x1 x2 m h
    unfold s_X2_makeLayers_L4 at h
    refine zrun hF [(.iload_n 2, 1, pI 0), (.aload_n 0, 1, pI 0), (.getfield 34, 3, pR 10 7)] 4 _ (by decide +kernel) ?_
    refine (And.intro rfl (And.intro rfl ?_))
    show zG w f 4 9 ([some (pR 10 0), some (pI x1), some (pI x2), none], [pI (m.1 10 0 7), pI x2], (m, n))
    refine zicmp_ge (tgt := 76) (pc := 9) hF (by decide +kernel) (fun b1 => ?_) (fun b1 => ?_)
    · replace h := zit b1 h
      refine zrun hF [(.iload_n 1, 1, pI 0)] 76 _ (by decide +kernel) ?_
      show zG w f 4 77 ([some (pR 10 0), some (pI x1), some (pI x2), none], [pI x1], (m, n))
      exact zretI (pc := 77) hF hR (by decide +kernel) rfl (congrArg Prod.fst (Option.some.inj h)) (congrArg (fun (q : Int32 × zMem) => (q.2, n)) (Option.some.inj h))
    · replace h := zif b1 h
      refine zrun hF [(.iconst 0, 1, pI 0), (.istore_n 3, 1, pI 0)] 12 _ (by decide +kernel) ?_
      refine (And.intro rfl ?_)
      show zG w f 4 14 ([some (pR 10 0), some (pI x1), some (pI x2), some (pI 0)], [], (m, n))
      exact m_X2_makeLayers_L14 hl hF hR ih zF _ _ _ _  h

set_option maxHeartbeats 4000000 in
set_option maxRecDepth 100000 in
theorem m_X2_makeLayers {w : zWd} {lc : Launch} {n : zMem}  {m : zMem} {x : Int32} {m0 : zMem}  (h : s_X2_makeLayers m = some (x, m0)) : zMet w lc 1 yX2_makeLayers cX2_makeLayers 4 (some .int) [pR 10 0] (m, n) (zQI w x (m0, n)) := by
  refine zmet (o := 2) (by decide +kernel) rfl (Nat.le_of_ble_eq_true rfl) rfl (fun f hl hF hR => ?_)
  unfold s_X2_makeLayers at h
  show zG w f 4 0 ([some (pR 10 0), none, none, none], [], (m, n))
  refine zrun hF [(.iconst 0, 1, pI 0), (.istore_n 1, 1, pI 0), (.iconst 0, 1, pI 0), (.istore_n 2, 1, pI 0)] 0 _ (by decide +kernel) ?_
  refine (And.intro rfl (And.intro rfl ?_))
  show zG w f 4 4 ([some (pR 10 0), some (pI 0), some (pI 0), none], [], (m, n))
  exact m_X2_makeLayers_L4 hl hF hR  zF _ _ _  h

