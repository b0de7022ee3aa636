set_option maxHeartbeats 4000000 in
set_option maxRecDepth 100000 in
theorem m_X3_read_L7 {w : zWd} {f : zFr} {n : zMem} {x : Int32} {m0 : zMem} {lc : Launch} (hl : f.2.1 = lc) (hF : zFOK w f 3 cX3_read 4 9) (hR : zFin w f (some .int) (zQI w x (m0, n))) : ∀ (k : Nat) (x1 : Nat) (x2 : Nat) (x3 : Int32) (m : zMem), Nat.blt x1 8 = true → Nat.blt x2 3 = true → s_X3_read_L7 k x1 x2 x3 m = some (x, m0) → zG w f 4 7 ([some (pR 19 0), some (pR 8 x1), some (pR 1 x2), some (pI x3)], [], (m, n)) := by
  intro k
  induction k with
  | zero => intro x1 x2 x3 m hx1 hx2 h; exact zno h
  | succ k ih =>
    intro x1 x2 x3 m hx1 hx2 h
    unfold s_X3_read_L7 at h
    refine zrun hF [(.iload_n 3, 1, pI 0), (.sipush 160, 3, pI 160)] 7 _ (by decide +kernel) ?_
    show zG w f 4 11 ([some (pR 19 0), some (pR 8 x1), some (pR 1 x2), some (pI x3)], [pI 160, pI x3], (m, n))
    refine zicmp_gt (tgt := 69) (pc := 11) hF (by decide +kernel) (fun b2 => ?_) (fun b2 => ?_)
    · replace h := zit b2 h
      refine zrun hF [(.iconst (-1), 1, pI (-1))] 69 _ (by decide +kernel) ?_
      show zG w f 4 70 ([some (pR 19 0), some (pR 8 x1), some (pR 1 x2), some (pI x3)], [pI (-1)], (m, n))
      exact zretI (pc := 70) hF hR (by decide +kernel) rfl (congrArg Prod.fst (Option.some.inj h)) (congrArg (fun (q : Int32 × zMem) => (q.2, n)) (Option.some.inj h))
    · replace h := zif b2 h
      refine zrun hF [(.aload_n 0, 1, pI 0), (.aload_n 1, 1, pI 0), (.aload_n 2, 1, pI 0)] 14 _ (by decide +kernel) ?_
      show zG w f 4 17 ([some (pR 19 0), some (pR 8 x1), some (pR 1 x2), some (pI x3)], [pR 1 x2, pR 8 x1, pR 19 0], (m, n))
      obtain ⟨r4, m5, q3, h⟩ := zb_k h
      refine zcallVI (pc := 17) (As := [pR 8 x1, pR 1 x2]) (st := []) (c := 19) (j := 0) hF (m_X3_readItem hx1 hx2 q3) w_X3_readItem k_3_15 (by decide +kernel) rfl rfl rfl rfl rfl rfl rfl ?_
      refine zif_ne (tgt := 25) (pc := 20) hF (by decide +kernel) (fun b6 => ?_) (fun b6 => ?_)
      · replace h := zit b6 h
        refine zrun hF [(.iconst (-1), 1, pI (-1))] 23 _ (by decide +kernel) ?_
        show zG w f 4 24 ([some (pR 19 0), some (pR 8 x1), some (pR 1 x2), some (pI x3)], [pI (-1)], (m5, n))
        exact zretI (pc := 24) hF hR (by decide +kernel) rfl (congrArg Prod.fst (Option.some.inj h)) (congrArg (fun (q : Int32 × zMem) => (q.2, n)) (Option.some.inj h))
      · replace h := zif b6 h
        refine zrun hF [(.aload_n 0, 1, pI 0), (.getfield 9, 3, pR 19 0), (.aload_n 1, 1, pI 0), (.getfield 19, 3, pR 8 2)] 25 _ (by decide +kernel) ?_
        refine (And.intro rfl (And.intro rfl (And.intro rfl (And.intro hx1 ?_))))
        show zG w f 4 33 ([some (pR 19 0), some (pR 8 x1), some (pR 1 x2), some (pI x3)], [pI (m5.1 8 x1 2), pI (m5.1 19 0 0)], (m5, n))
        refine zicmp_lt (tgt := 38) (pc := 33) hF (by decide +kernel) (fun b7 => ?_) (fun b7 => ?_)
        · replace h := zit b7 h
          refine zrun hF [(.aload_n 1, 1, pI 0), (.aload_n 0, 1, pI 0), (.getfield 9, 3, pR 19 0)] 38 _ (by decide +kernel) ?_
          refine (And.intro rfl (And.intro rfl ?_))
          show zG w f 4 43 ([some (pR 19 0), some (pR 8 x1), some (pR 1 x2), some (pI x3)], [pI (m5.1 19 0 0), pR 8 x1], (m5, n))
          obtain ⟨r9, q8, h⟩ := zr_k h
          refine zcallVI (pc := 43) (As := [pI (m5.1 19 0 0)]) (st := []) (c := 8) (j := x1) hF (m_X4_number hx1 q8) w_X4_number k_3_24 (by decide +kernel) rfl hx1 rfl rfl rfl rfl rfl ?_
          refine zrun hF [(.bipush 59, 2, pI 59)] 46 _ (by decide +kernel) ?_
          show zG w f 4 48 ([some (pR 19 0), some (pR 8 x1), some (pR 1 x2), some (pI x3)], [pI 59, pI r9], (m5, n))
          refine zicmp_eq (tgt := 53) (pc := 48) hF (by decide +kernel) (fun b10 => ?_) (fun b10 => ?_)
          · replace h := zit b10 h
            refine zrun hF [(.aload_n 0, 1, pI 0), (.dup, 1, pI 0), (.getfield 9, 3, pR 19 0), (.iconst 1, 1, pI 1), (.iadd, 1, pI 0), (.putfield 9, 3, pR 19 0)] 53 _ (by decide +kernel) ?_
            refine (And.intro rfl (And.intro rfl (And.intro rfl (And.intro rfl (And.intro rfl (And.intro trivial ?_))))))
            refine zlet_k (P := fun (m11 : zMem) => zG w f 4 63 ([some (pR 19 0), some (pR 8 x1), some (pR 1 x2), some (pI x3)], [], (m11, n))) h (fun m11 h => ?_)
            refine zrun hF [(.iinc 3 1, 3, pI 1)] 63 _ (by decide +kernel) ?_
            refine (And.intro rfl ?_)
            show zG w f 4 66 ([some (pR 19 0), some (pR 8 x1), some (pR 1 x2), some (pI (x3 + 1))], [], (m11, n))
            refine zgoto (tgt := 7) (pc := 66) hF (by decide +kernel) ?_
            exact ih _ _ _ _ hx1 hx2 h
          · replace h := zif b10 h
            refine zrun hF [(.iconst (-1), 1, pI (-1))] 51 _ (by decide +kernel) ?_
            show zG w f 4 52 ([some (pR 19 0), some (pR 8 x1), some (pR 1 x2), some (pI x3)], [pI (-1)], (m5, n))
            exact zretI (pc := 52) hF hR (by decide +kernel) rfl (congrArg Prod.fst (Option.some.inj h)) (congrArg (fun (q : Int32 × zMem) => (q.2, n)) (Option.some.inj h))
        · replace h := zif b7 h
          refine zrun hF [(.iload_n 3, 1, pI 0)] 36 _ (by decide +kernel) ?_
          show zG w f 4 37 ([some (pR 19 0), some (pR 8 x1), some (pR 1 x2), some (pI x3)], [pI x3], (m5, n))
          exact zretI (pc := 37) hF hR (by decide +kernel) rfl (congrArg Prod.fst (Option.some.inj h)) (congrArg (fun (q : Int32 × zMem) => (q.2, n)) (Option.some.inj h))

set_option maxHeartbeats 4000000 in
set_option maxRecDepth 100000 in
theorem m_X3_read {w : zWd} {lc : Launch} {n : zMem} {a1 : Nat} {a2 : Nat} {m : zMem} {x : Int32} {m0 : zMem} (ha1 : Nat.blt a1 8 = true) (ha2 : Nat.blt a2 3 = true) (h : s_X3_read a1 a2 m = some (x, m0)) : zMet w lc 9 yX3_read cX3_read 4 (some .int) [pR 19 0, pR 8 a1, pR 1 a2] (m, n) (zQI w x (m0, n)) := by
  refine zmet (o := 3) (by decide +kernel) rfl (Nat.le_of_ble_eq_true rfl) rfl (fun f hl hF hR => ?_)
  unfold s_X3_read at h
  show zG w f 4 0 ([some (pR 19 0), some (pR 8 a1), some (pR 1 a2), none], [], (m, n))
  refine zrun hF [(.aload_n 0, 1, pI 0), (.iconst 0, 1, pI 0), (.putfield 9, 3, pR 19 0)] 0 _ (by decide +kernel) ?_
  refine (And.intro rfl (And.intro rfl (And.intro trivial ?_)))
  refine zlet_k (P := fun (m1 : zMem) => zG w f 4 5 ([some (pR 19 0), some (pR 8 a1), some (pR 1 a2), none], [], (m1, n))) h (fun m1 h => ?_)
  refine zrun hF [(.iconst 1, 1, pI 1), (.istore_n 3, 1, pI 0)] 5 _ (by decide +kernel) ?_
  refine (And.intro rfl ?_)
  show zG w f 4 7 ([some (pR 19 0), some (pR 8 a1), some (pR 1 a2), some (pI 1)], [], (m1, n))
  exact m_X3_read_L7 hl hF hR  zF _ _ _ _ ha1 ha2 h

set_option maxHeartbeats 4000000 in
set_option maxRecDepth 100000 in
theorem m_X6_table {w : zWd} {lc : Launch} {n : zMem} {a1 : Int32} {m : zMem} {x : Int32} {m0 : zMem}  (h : s_X6_table a1 m = some (x, m0)) : zMet w lc 10 yX6_table cX6_table 4 (some .int) [pR 0 0, pI a1] (m, n) (zQI w x (m0, n)) := by
  refine zmet (o := 6) (by decide +kernel) rfl (Nat.le_of_ble_eq_true rfl) rfl (fun f hl hF hR => ?_)
  unfold s_X6_table at h
  show zG w f 4 0 ([some (pR 0 0), some (pI a1), none, none], [], (m, n))
  refine zrun hF [(.aload_n 0, 1, pI 0), (.iload_n 1, 1, pI 0)] 0 _ (by decide +kernel) ?_
  show zG w f 4 2 ([some (pR 0 0), some (pI a1), none, none], [pI a1, pR 0 0], (m, n))
  obtain ⟨r2, q1, h⟩ := zr_k h
  refine zcallVI (pc := 2) (As := [pI a1]) (st := []) (c := 0) (j := 0) hF (m_X6_refusalOfRow  q1) w_X6_refusalOfRow k_6_81 (by decide +kernel) rfl rfl rfl rfl rfl rfl rfl ?_
  refine zrun hF [(.istore_n 2, 1, pI 0), (.iload_n 2, 1, pI 0)] 5 _ (by decide +kernel) ?_
  refine (And.intro rfl ?_)
  show zG w f 4 7 ([some (pR 0 0), some (pI a1), some (pI r2), none], [pI r2], (m, n))
  refine zif_eq (tgt := 16) (pc := 7) hF (by decide +kernel) (fun b3 => ?_) (fun b3 => ?_)
  · replace h := zit b3 h
    refine zrun hF [(.aload_n 0, 1, pI 0), (.getfield 16, 3, pR 0 1), (.aload_n 0, 1, pI 0), (.getfield 10, 3, pR 0 0)] 16 _ (by decide +kernel) ?_
    refine (And.intro rfl (And.intro rfl (And.intro rfl (And.intro rfl ?_))))
    show zG w f 4 24 ([some (pR 0 0), some (pI a1), some (pI r2), none], [pR 1 0, pR 1 1], (m, n))
    obtain ⟨m6, q4, h⟩ := zr_k h
    refine zcallVV (pc := 24) (As := [pR 1 0]) (st := []) (c := 1) (j := 1) hF (m_X5_takeOver rfl rfl q4) w_X5_takeOver k_6_179 (by decide +kernel) rfl rfl rfl rfl rfl rfl rfl ?_
    obtain ⟨c7, h⟩ := zchk h
    refine zrun hF [(.aload_n 0, 1, pI 0), (.getfield 49, 3, pR 0 7), (.aload_n 0, 1, pI 0), (.getfield 28, 3, pR 0 4), (.iload_n 1, 1, pI 0), (.aaload, 1, pI 0), (.aload_n 0, 1, pI 0), (.getfield 16, 3, pR 0 1)] 27 _ (by decide +kernel) ?_
    refine (And.intro rfl (And.intro rfl (And.intro rfl (And.intro rfl (And.intro rfl (And.intro c7 (And.intro rfl (And.intro rfl ?_))))))))
    show zG w f 4 41 ([some (pR 0 0), some (pI a1), some (pI r2), none], [pR 1 1, pR 8 (ix a1), pR 19 0], (m6, n))
    obtain ⟨r9, m10, q8, h⟩ := zb_k h
    refine zcallVI (pc := 41) (As := [pR 8 (ix a1), pR 1 1]) (st := []) (c := 19) (j := 0) hF (m_X3_read (zinb_blt c7) rfl q8) w_X3_read k_6_183 (by decide +kernel) rfl rfl rfl rfl rfl rfl rfl ?_
    refine zrun hF [(.istore_n 3, 1, pI 0), (.iload_n 3, 1, pI 0), (.iconst (-1), 1, pI (-1))] 44 _ (by decide +kernel) ?_
    refine (And.intro rfl ?_)
    show zG w f 4 47 ([some (pR 0 0), some (pI a1), some (pI r2), some (pI r9)], [pI (-1), pI r9], (m10, n))
    refine zicmp_ne (tgt := 68) (pc := 47) hF (by decide +kernel) (fun b11 => ?_) (fun b11 => ?_)
    · replace h := zit b11 h
      refine zrun hF [(.aload_n 0, 1, pI 0), (.aload_n 0, 1, pI 0), (.getfield 49, 3, pR 0 7), (.getfield 187, 3, pR 19 0), (.putfield 64, 3, pR 0 10)] 50 _ (by decide +kernel) ?_
      refine (And.intro rfl (And.intro rfl (And.intro rfl (And.intro rfl (And.intro rfl (And.intro rfl (And.intro trivial ?_)))))))
      refine zlet_k (P := fun (m12 : zMem) => zG w f 4 61 ([some (pR 0 0), some (pI a1), some (pI r2), some (pI r9)], [], (m12, n))) h (fun m12 h => ?_)
      refine zrun hF [(.aload_n 0, 1, pI 0), (.bipush (-6), 2, pI (-6))] 61 _ (by decide +kernel) ?_
      show zG w f 4 64 ([some (pR 0 0), some (pI a1), some (pI r2), some (pI r9)], [pI (-6), pR 0 0], (m12, n))
      obtain ⟨r14, m15, q13, h⟩ := zb_k h
      refine zcallVI (pc := 64) (As := [pI (-6)]) (st := []) (c := 0) (j := 0) hF (m_X6_refuse  q13) w_X6_refuse k_6_73 (by decide +kernel) rfl rfl rfl rfl rfl rfl rfl ?_
      exact zretI (pc := 67) hF hR (by decide +kernel) rfl (congrArg Prod.fst (Option.some.inj h)) (congrArg (fun (q : Int32 × zMem) => (q.2, n)) (Option.some.inj h))
    · replace h := zif b11 h
      refine zrun hF [(.aload_n 0, 1, pI 0), (.iconst (-1), 1, pI (-1)), (.putfield 64, 3, pR 0 10)] 68 _ (by decide +kernel) ?_
      refine (And.intro rfl (And.intro rfl (And.intro trivial ?_)))
      refine zlet_k (P := fun (m16 : zMem) => zG w f 4 73 ([some (pR 0 0), some (pI a1), some (pI r2), some (pI r9)], [], (m16, n))) h (fun m16 h => ?_)
      refine zrun hF [(.aload_n 0, 1, pI 0), (.getfield 10, 3, pR 0 0), (.aload_n 0, 1, pI 0), (.getfield 16, 3, pR 0 1)] 73 _ (by decide +kernel) ?_
      refine (And.intro rfl (And.intro rfl (And.intro rfl (And.intro rfl ?_))))
      show zG w f 4 81 ([some (pR 0 0), some (pI a1), some (pI r2), some (pI r9)], [pR 1 1, pR 1 0], (m16, n))
      obtain ⟨m19, q17, h⟩ := zr_k h
      refine zcallVV (pc := 81) (As := [pR 1 1]) (st := []) (c := 1) (j := 0) hF (m_X5_takeOver rfl rfl q17) w_X5_takeOver k_6_179 (by decide +kernel) rfl rfl rfl rfl rfl rfl rfl ?_
      refine zrun hF [(.iload_n 3, 1, pI 0)] 84 _ (by decide +kernel) ?_
      show zG w f 4 85 ([some (pR 0 0), some (pI a1), some (pI r2), some (pI r9)], [pI r9], (m19, n))
      exact zretI (pc := 85) hF hR (by decide +kernel) rfl (congrArg Prod.fst (Option.some.inj h)) (congrArg (fun (q : Int32 × zMem) => (q.2, n)) (Option.some.inj h))
  · replace h := zif b3 h
    refine zrun hF [(.aload_n 0, 1, pI 0), (.iload_n 2, 1, pI 0)] 10 _ (by decide +kernel) ?_
    show zG w f 4 12 ([some (pR 0 0), some (pI a1), some (pI r2), none], [pI r2, pR 0 0], (m, n))
    obtain ⟨r21, m22, q20, h⟩ := zb_k h
    refine zcallVI (pc := 12) (As := [pI r2]) (st := []) (c := 0) (j := 0) hF (m_X6_refuse  q20) w_X6_refuse k_6_73 (by decide +kernel) rfl rfl rfl rfl rfl rfl rfl ?_
    exact zretI (pc := 15) hF hR (by decide +kernel) rfl (congrArg Prod.fst (Option.some.inj h)) (congrArg (fun (q : Int32 × zMem) => (q.2, n)) (Option.some.inj h))

set_option maxHeartbeats 4000000 in
set_option maxRecDepth 100000 in
theorem m_X7_needed {w : zWd} {lc : Launch} {n : zMem} {a1 : Int32} {m : zMem} {x : Int32}  (h : s_X7_needed a1 m = some x) : zMet w lc 2 yX7_needed cX7_needed 2 (some .int) [pR 64 0, pI a1] (n, m) (zQI w x (n, m)) := by
  refine zmet (o := 7) (by decide +kernel) rfl (Nat.le_of_ble_eq_true rfl) rfl (fun f hl hF hR => ?_)
  unfold s_X7_needed at h
  show zG w f 2 0 ([some (pR 64 0), some (pI a1)], [], (n, m))
  refine zrun hF [(.aload_n 0, 1, pI 0), (.iload_n 1, 1, pI 0)] 0 _ (by decide +kernel) ?_
  show zG w f 2 2 ([some (pR 64 0), some (pI a1)], [pI a1, pR 64 0], (n, m))
  obtain ⟨r2, q1, h⟩ := zr_k h
  refine zcallVI (pc := 2) (As := [pI a1]) (st := []) (c := 64) (j := 0) hF (m_X7_isShelf  q1) w_X7_isShelf k_7_96 (by decide +kernel) rfl rfl rfl rfl rfl rfl rfl ?_
  refine zif_ne (tgt := 12) (pc := 5) hF (by decide +kernel) (fun b3 => ?_) (fun b3 => ?_)
  · replace h := zit b3 h
    refine zrun hF [(.iconst (-1), 1, pI (-1))] 8 _ (by decide +kernel) ?_
    show zG w f 2 9 ([some (pR 64 0), some (pI a1)], [pI (-1)], (n, m))
    refine zgoto (tgt := 42) (pc := 9) hF (by decide +kernel) ?_
    exact zretI (pc := 42) hF hR (by decide +kernel) rfl (Option.some.inj h) rfl
  · replace h := zif b3 h
    obtain ⟨c4, h⟩ := zchk h
    refine zrun hF [(.aload_n 0, 1, pI 0), (.getfield 38, 3, pR 64 13), (.iload_n 1, 1, pI 0), (.iaload, 1, pI 0), (.iconst 2, 1, pI 2)] 12 _ (by decide +kernel) ?_
    refine (And.intro rfl (And.intro rfl (And.intro rfl (And.intro rfl (And.intro c4 ?_)))))
    show zG w f 2 19 ([some (pR 64 0), some (pI a1)], [pI 2, pI (m.1 71 0 (ix a1))], (n, m))
    refine zicmp_ne (tgt := 27) (pc := 19) hF (by decide +kernel) (fun b5 => ?_) (fun b5 => ?_)
    · replace h := zit b5 h
      refine zrun hF [(.bipush (-2), 2, pI (-2))] 22 _ (by decide +kernel) ?_
      show zG w f 2 24 ([some (pR 64 0), some (pI a1)], [pI (-2)], (n, m))
      refine zgoto (tgt := 42) (pc := 24) hF (by decide +kernel) ?_
      exact zretI (pc := 42) hF hR (by decide +kernel) rfl (Option.some.inj h) rfl
    · replace h := zif b5 h
      refine zrun hF [(.aload_n 0, 1, pI 0), (.getfield 38, 3, pR 64 13), (.iload_n 1, 1, pI 0), (.iaload, 1, pI 0)] 27 _ (by decide +kernel) ?_
      refine (And.intro rfl (And.intro rfl (And.intro rfl (And.intro rfl (And.intro c4 ?_)))))
      show zG w f 2 33 ([some (pR 64 0), some (pI a1)], [pI (m.1 71 0 (ix a1))], (n, m))
      refine zif_ne (tgt := 41) (pc := 33) hF (by decide +kernel) (fun b6 => ?_) (fun b6 => ?_)
      · replace h := zit b6 h
        refine zrun hF [(.bipush (-3), 2, pI (-3))] 36 _ (by decide +kernel) ?_
        show zG w f 2 38 ([some (pR 64 0), some (pI a1)], [pI (-3)], (n, m))
        refine zgoto (tgt := 42) (pc := 38) hF (by decide +kernel) ?_
        exact zretI (pc := 42) hF hR (by decide +kernel) rfl (Option.some.inj h) rfl
      · replace h := zif b6 h
        refine zrun hF [(.iconst 0, 1, pI 0)] 41 _ (by decide +kernel) ?_
        show zG w f 2 42 ([some (pR 64 0), some (pI a1)], [pI 0], (n, m))
        exact zretI (pc := 42) hF hR (by decide +kernel) rfl (Option.some.inj h) rfl

set_option maxHeartbeats 4000000 in
set_option maxRecDepth 100000 in
theorem m_X7_carries_66_79_L39 {w : zWd} {f : zFr} {n : zMem} {x : Int32} {m0 : zMem} {lc : Launch} (hl : f.2.1 = lc) (hF : zFOK w f 7 cX7_carries 7 1) (hR : zFin w f (some .int) (zQI w x (n, m0))) {k3 : Int32 → Int32 → Int32 → Int32 → zMem → Option (Int32 × zMem)} (hk3 : ∀ (x2 : Int32) (x4 : Int32) (x5 : Int32) (x6 : Int32) (m : zMem), k3 x2 x4 x5 x6 m = some (x, m0) → zG w f 7 3 ([none, some (pR 66 0), some (pI x2), some (pR 79 0), some (pI x4), some (pI x5), some (pI x6)], [], (n, m))) : ∀ (x2 : Int32) (x4 : Int32) (x5 : Int32) (x6 : Int32) (m : zMem), s_X7_carries_66_79_L39 k3 x2 x4 x5 x6 m = some (x, m0) → zG w f 7 39 ([none, some (pR 66 0), some (pI x2), some (pR 79 0), some (pI x4), some (pI x5), some (pI x6)], [], (n, m)) := by
  intro x2 x4 x5 x6 m h
  unfold s_X7_carries_66_79_L39 at h
  refine zrun hF [(.iinc 6 1, 3, pI 1)] 39 _ (by decide +kernel) ?_
  refine (And.intro rfl ?_)
  show zG w f 7 42 ([none, some (pR 66 0), some (pI x2), some (pR 79 0), some (pI x4), some (pI x5), some (pI (x6 + 1))], [], (n, m))
  refine zgoto (tgt := 3) (pc := 42) hF (by decide +kernel) ?_
  exact hk3 _ _ _ _ _  h

set_option maxHeartbeats 4000000 in
set_option maxRecDepth 100000 in
theorem m_X7_carries_66_79_L3 {w : zWd} {f : zFr} {n : zMem} {x : Int32} {m0 : zMem} {lc : Launch} (hl : f.2.1 = lc) (hF : zFOK w f 7 cX7_carries 7 1) (hR : zFin w f (some .int) (zQI w x (n, m0))) : ∀ (k : Nat) (x2 : Int32) (x4 : Int32) (x5 : Int32) (x6 : Int32) (m : zMem), s_X7_carries_66_79_L3 k x2 x4 x5 x6 m = some (x, m0) → zG w f 7 3 ([none, some (pR 66 0), some (pI x2), some (pR 79 0), some (pI x4), some (pI x5), some (pI x6)], [], (n, m)) := by
  intro k
  induction k with
  | zero => intro x2 x4 x5 x6 m h; exact zno h
  | succ k ih =>
    intro x2 x4 x5 x6 m h
    unfold s_X7_carries_66_79_L3 at h
    refine zrun hF [(.iload 6, 2, pI 0), (.iload_n 2, 1, pI 0)] 3 _ (by decide +kernel) ?_
    show zG w f 7 6 ([none, some (pR 66 0), some (pI x2), some (pR 79 0), some (pI x4), some (pI x5), some (pI x6)], [pI x2, pI x6], (n, m))
    refine zicmp_ge (tgt := 45) (pc := 6) hF (by decide +kernel) (fun b1 => ?_) (fun b1 => ?_)
    · replace h := zit b1 h
      refine zrun hF [(.iload 4, 2, pI 0), (.iload_n 2, 1, pI 0), (.iadd, 1, pI 0)] 45 _ (by decide +kernel) ?_
      show zG w f 7 49 ([none, some (pR 66 0), some (pI x2), some (pR 79 0), some (pI x4), some (pI x5), some (pI x6)], [pI (x4 + x2)], (n, m))
      exact zretI (pc := 49) hF hR (by decide +kernel) rfl (congrArg Prod.fst (Option.some.inj h)) (congrArg (fun (q : Int32 × zMem) => (n, q.2)) (Option.some.inj h))
    · replace h := zif b1 h
      refine zrun hF [(.iload 5, 2, pI 0)] 9 _ (by decide +kernel) ?_
      show zG w f 7 11 ([none, some (pR 66 0), some (pI x2), some (pR 79 0), some (pI x4), some (pI x5), some (pI x6)], [pI x5], (n, m))
      refine zif_eq (tgt := 28) (pc := 11) hF (by decide +kernel) (fun b2 => ?_) (fun b2 => ?_)
      · replace h := zit b2 h
        obtain ⟨c3, h⟩ := zchk h
        obtain ⟨c4, h⟩ := zchk h
        refine zrun hF [(.aload_n 3, 1, pI 0), (.iload 4, 2, pI 0), (.iload 6, 2, pI 0), (.iadd, 1, pI 0), (.aload_n 1, 1, pI 0), (.iload 6, 2, pI 0), (.iaload, 1, pI 0), (.iastore, 1, pI 0)] 28 _ (by decide +kernel) ?_
        refine (And.intro rfl (And.intro rfl (And.intro c3 (And.intro rfl (And.intro rfl (And.intro c4 ?_))))))
        refine zlet_k (P := fun (m5 : zMem) => zG w f 7 39 ([none, some (pR 66 0), some (pI x2), some (pR 79 0), some (pI x4), some (pI x5), some (pI x6)], [], (n, m5))) h (fun m5 h => ?_)
        exact m_X7_carries_66_79_L39 hl hF hR ih _ _ _ _ _  h
      · replace h := zif b2 h
        obtain ⟨c6, h⟩ := zchk h
        obtain ⟨c7, h⟩ := zchk h
        refine zrun hF [(.aload_n 1, 1, pI 0), (.iload 6, 2, pI 0), (.aload_n 3, 1, pI 0), (.iload 4, 2, pI 0), (.iload 6, 2, pI 0), (.iadd, 1, pI 0), (.iaload, 1, pI 0), (.iastore, 1, pI 0)] 14 _ (by decide +kernel) ?_
        refine (And.intro rfl (And.intro rfl (And.intro c6 (And.intro rfl (And.intro rfl (And.intro c7 ?_))))))
        refine zlet_k (P := fun (m8 : zMem) => zG w f 7 25 ([none, some (pR 66 0), some (pI x2), some (pR 79 0), some (pI x4), some (pI x5), some (pI x6)], [], (n, m8))) h (fun m8 h => ?_)
        refine zgoto (tgt := 39) (pc := 25) hF (by decide +kernel) ?_
        exact m_X7_carries_66_79_L39 hl hF hR ih _ _ _ _ _  h

set_option maxHeartbeats 4000000 in
set_option maxRecDepth 100000 in
theorem m_X7_carries_66_79 {w : zWd} {lc : Launch} {n : zMem} {a2 : Int32} {a4 : Int32} {a5 : Int32} {m : zMem} {x : Int32} {m0 : zMem}  (h : s_X7_carries_66_79 a2 a4 a5 m = some (x, m0)) : zMet w lc 1 yX7_carries cX7_carries 7 (some .int) [pR 64 0, pR 66 0, pI a2, pR 79 0, pI a4, pI a5] (n, m) (zQI w x (n, m0)) := by
  refine zmet (o := 7) (by decide +kernel) rfl (Nat.le_of_ble_eq_true rfl) rfl (fun f hl hF hR => ?_)
  unfold s_X7_carries_66_79 at h
  show zG w f 7 0 ([some (pR 64 0), some (pR 66 0), some (pI a2), some (pR 79 0), some (pI a4), some (pI a5), none], [], (n, m))
  refine zrun hF [(.iconst 0, 1, pI 0), (.istore 6, 2, pI 0)] 0 _ (by decide +kernel) ?_
  refine (And.intro rfl ?_)
  show zG w f 7 3 ([some (pR 64 0), some (pR 66 0), some (pI a2), some (pR 79 0), some (pI a4), some (pI a5), some (pI 0)], [], (n, m))
  refine zcut [false, true, true, true, true, true, true] ?_
  exact m_X7_carries_66_79_L3 hl hF hR  zF _ _ _ _ _  h

set_option maxHeartbeats 4000000 in
set_option maxRecDepth 100000 in
theorem m_X7_carries_67_79_L39 {w : zWd} {f : zFr} {n : zMem} {x : Int32} {m0 : zMem} {lc : Launch} (hl : f.2.1 = lc) (hF : zFOK w f 7 cX7_carries 7 1) (hR : zFin w f (some .int) (zQI w x (n, m0))) {k3 : Int32 → Int32 → Int32 → Int32 → zMem → Option (Int32 × zMem)} (hk3 : ∀ (x2 : Int32) (x4 : Int32) (x5 : Int32) (x6 : Int32) (m : zMem), k3 x2 x4 x5 x6 m = some (x, m0) → zG w f 7 3 ([none, some (pR 67 0), some (pI x2), some (pR 79 0), some (pI x4), some (pI x5), some (pI x6)], [], (n, m))) : ∀ (x2 : Int32) (x4 : Int32) (x5 : Int32) (x6 : Int32) (m : zMem), s_X7_carries_67_79_L39 k3 x2 x4 x5 x6 m = some (x, m0) → zG w f 7 39 ([none, some (pR 67 0), some (pI x2), some (pR 79 0), some (pI x4), some (pI x5), some (pI x6)], [], (n, m)) := by
  intro x2 x4 x5 x6 m h
  unfold s_X7_carries_67_79_L39 at h
  refine zrun hF [(.iinc 6 1, 3, pI 1)] 39 _ (by decide +kernel) ?_
  refine (And.intro rfl ?_)
  show zG w f 7 42 ([none, some (pR 67 0), some (pI x2), some (pR 79 0), some (pI x4), some (pI x5), some (pI (x6 + 1))], [], (n, m))
  refine zgoto (tgt := 3) (pc := 42) hF (by decide +kernel) ?_
  exact hk3 _ _ _ _ _  h

set_option maxHeartbeats 4000000 in
set_option maxRecDepth 100000 in
theorem m_X7_carries_67_79_L3 {w : zWd} {f : zFr} {n : zMem} {x : Int32} {m0 : zMem} {lc : Launch} (hl : f.2.1 = lc) (hF : zFOK w f 7 cX7_carries 7 1) (hR : zFin w f (some .int) (zQI w x (n, m0))) : ∀ (k : Nat) (x2 : Int32) (x4 : Int32) (x5 : Int32) (x6 : Int32) (m : zMem), s_X7_carries_67_79_L3 k x2 x4 x5 x6 m = some (x, m0) → zG w f 7 3 ([none, some (pR 67 0), some (pI x2), some (pR 79 0), some (pI x4), some (pI x5), some (pI x6)], [], (n, m)) := by
  intro k
  induction k with
  | zero => intro x2 x4 x5 x6 m h; exact zno h
  | succ k ih =>
    intro x2 x4 x5 x6 m h
    unfold s_X7_carries_67_79_L3 at h
    refine zrun hF [(.iload 6, 2, pI 0), (.iload_n 2, 1, pI 0)] 3 _ (by decide +kernel) ?_
    show zG w f 7 6 ([none, some (pR 67 0), some (pI x2), some (pR 79 0), some (pI x4), some (pI x5), some (pI x6)], [pI x2, pI x6], (n, m))
    refine zicmp_ge (tgt := 45) (pc := 6) hF (by decide +kernel) (fun b1 => ?_) (fun b1 => ?_)
    · replace h := zit b1 h
      refine zrun hF [(.iload 4, 2, pI 0), (.iload_n 2, 1, pI 0), (.iadd, 1, pI 0)] 45 _ (by decide +kernel) ?_
      show zG w f 7 49 ([none, some (pR 67 0), some (pI x2), some (pR 79 0), some (pI x4), some (pI x5), some (pI x6)], [pI (x4 + x2)], (n, m))
      exact zretI (pc := 49) hF hR (by decide +kernel) rfl (congrArg Prod.fst (Option.some.inj h)) (congrArg (fun (q : Int32 × zMem) => (n, q.2)) (Option.some.inj h))
    · replace h := zif b1 h
      refine zrun hF [(.iload 5, 2, pI 0)] 9 _ (by decide +kernel) ?_
      show zG w f 7 11 ([none, some (pR 67 0), some (pI x2), some (pR 79 0), some (pI x4), some (pI x5), some (pI x6)], [pI x5], (n, m))
      refine zif_eq (tgt := 28) (pc := 11) hF (by decide +kernel) (fun b2 => ?_) (fun b2 => ?_)
      · replace h := zit b2 h
        obtain ⟨c3, h⟩ := zchk h
        obtain ⟨c4, h⟩ := zchk h
        refine zrun hF [(.aload_n 3, 1, pI 0), (.iload 4, 2, pI 0), (.iload 6, 2, pI 0), (.iadd, 1, pI 0), (.aload_n 1, 1, pI 0), (.iload 6, 2, pI 0), (.iaload, 1, pI 0), (.iastore, 1, pI 0)] 28 _ (by decide +kernel) ?_
        refine (And.intro rfl (And.intro rfl (And.intro c3 (And.intro rfl (And.intro rfl (And.intro c4 ?_))))))
        refine zlet_k (P := fun (m5 : zMem) => zG w f 7 39 ([none, some (pR 67 0), some (pI x2), some (pR 79 0), some (pI x4), some (pI x5), some (pI x6)], [], (n, m5))) h (fun m5 h => ?_)
        exact m_X7_carries_67_79_L39 hl hF hR ih _ _ _ _ _  h
      · replace h := zif b2 h
        obtain ⟨c6, h⟩ := zchk h
        obtain ⟨c7, h⟩ := zchk h
        refine zrun hF [(.aload_n 1, 1, pI 0), (.iload 6, 2, pI 0), (.aload_n 3, 1, pI 0), (.iload 4, 2, pI 0), (.iload 6, 2, pI 0), (.iadd, 1, pI 0), (.iaload, 1, pI 0), (.iastore, 1, pI 0)] 14 _ (by decide +kernel) ?_
        refine (And.intro rfl (And.intro rfl (And.intro c6 (And.intro rfl (And.intro rfl (And.intro c7 ?_))))))
        refine zlet_k (P := fun (m8 : zMem) => zG w f 7 25 ([none, some (pR 67 0), some (pI x2), some (pR 79 0), some (pI x4), some (pI x5), some (pI x6)], [], (n, m8))) h (fun m8 h => ?_)
        refine zgoto (tgt := 39) (pc := 25) hF (by decide +kernel) ?_
        exact m_X7_carries_67_79_L39 hl hF hR ih _ _ _ _ _  h

set_option maxHeartbeats 4000000 in
set_option maxRecDepth 100000 in
theorem m_X7_carries_67_79 {w : zWd} {lc : Launch} {n : zMem} {a2 : Int32} {a4 : Int32} {a5 : Int32} {m : zMem} {x : Int32} {m0 : zMem}  (h : s_X7_carries_67_79 a2 a4 a5 m = some (x, m0)) : zMet w lc 1 yX7_carries cX7_carries 7 (some .int) [pR 64 0, pR 67 0, pI a2, pR 79 0, pI a4, pI a5] (n, m) (zQI w x (n, m0)) := by
  refine zmet (o := 7) (by decide +kernel) rfl (Nat.le_of_ble_eq_true rfl) rfl (fun f hl hF hR => ?_)
  unfold s_X7_carries_67_79 at h
  show zG w f 7 0 ([some (pR 64 0), some (pR 67 0), some (pI a2), some (pR 79 0), some (pI a4), some (pI a5), none], [], (n, m))
  refine zrun hF [(.iconst 0, 1, pI 0), (.istore 6, 2, pI 0)] 0 _ (by decide +kernel) ?_
  refine (And.intro rfl ?_)
  show zG w f 7 3 ([some (pR 64 0), some (pR 67 0), some (pI a2), some (pR 79 0), some (pI a4), some (pI a5), some (pI 0)], [], (n, m))
  refine zcut [false, true, true, true, true, true, true] ?_
  exact m_X7_carries_67_79_L3 hl hF hR  zF _ _ _ _ _  h

set_option maxHeartbeats 4000000 in
set_option maxRecDepth 100000 in
theorem m_X7_carries_68_79_L39 {w : zWd} {f : zFr} {n : zMem} {x : Int32} {m0 : zMem} {lc : Launch} (hl : f.2.1 = lc) (hF : zFOK w f 7 cX7_carries 7 1) (hR : zFin w f (some .int) (zQI w x (n, m0))) {k3 : Int32 → Int32 → Int32 → Int32 → zMem → Option (Int32 × zMem)} (hk3 : ∀ (x2 : Int32) (x4 : Int32) (x5 : Int32) (x6 : Int32) (m : zMem), k3 x2 x4 x5 x6 m = some (x, m0) → zG w f 7 3 ([none, some (pR 68 0), some (pI x2), some (pR 79 0), some (pI x4), some (pI x5), some (pI x6)], [], (n, m))) : ∀ (x2 : Int32) (x4 : Int32) (x5 : Int32) (x6 : Int32) (m : zMem), s_X7_carries_68_79_L39 k3 x2 x4 x5 x6 m = some (x, m0) → zG w f 7 39 ([none, some (pR 68 0), some (pI x2), some (pR 79 0), some (pI x4), some (pI x5), some (pI x6)], [], (n, m)) := by
  intro x2 x4 x5 x6 m h
  unfold s_X7_carries_68_79_L39 at h
  refine zrun hF [(.iinc 6 1, 3, pI 1)] 39 _ (by decide +kernel) ?_
  refine (And.intro rfl ?_)
  show zG w f 7 42 ([none, some (pR 68 0), some (pI x2), some (pR 79 0), some (pI x4), some (pI x5), some (pI (x6 + 1))], [], (n, m))
  refine zgoto (tgt := 3) (pc := 42) hF (by decide +kernel) ?_
  exact hk3 _ _ _ _ _  h

set_option maxHeartbeats 4000000 in
set_option maxRecDepth 100000 in
theorem m_X7_carries_68_79_L3 {w : zWd} {f : zFr} {n : zMem} {x : Int32} {m0 : zMem} {lc : Launch} (hl : f.2.1 = lc) (hF : zFOK w f 7 cX7_carries 7 1) (hR : zFin w f (some .int) (zQI w x (n, m0))) : ∀ (k : Nat) (x2 : Int32) (x4 : Int32) (x5 : Int32) (x6 : Int32) (m : zMem), s_X7_carries_68_79_L3 k x2 x4 x5 x6 m = some (x, m0) → zG w f 7 3 ([none, some (pR 68 0), some (pI x2), some (pR 79 0), some (pI x4), some (pI x5), some (pI x6)], [], (n, m)) := by
  intro k
  induction k with
  | zero => intro x2 x4 x5 x6 m h; exact zno h
  | succ k ih =>
    intro x2 x4 x5 x6 m h
    unfold s_X7_carries_68_79_L3 at h
    refine zrun hF [(.iload 6, 2, pI 0), (.iload_n 2, 1, pI 0)] 3 _ (by decide +kernel) ?_
    show zG w f 7 6 ([none, some (pR 68 0), some (pI x2), some (pR 79 0), some (pI x4), some (pI x5), some (pI x6)], [pI x2, pI x6], (n, m))
    refine zicmp_ge (tgt := 45) (pc := 6) hF (by decide +kernel) (fun b1 => ?_) (fun b1 => ?_)
    · replace h := zit b1 h
      refine zrun hF [(.iload 4, 2, pI 0), (.iload_n 2, 1, pI 0), (.iadd, 1, pI 0)] 45 _ (by decide +kernel) ?_
      show zG w f 7 49 ([none, some (pR 68 0), some (pI x2), some (pR 79 0), some (pI x4), some (pI x5), some (pI x6)], [pI (x4 + x2)], (n, m))
      exact zretI (pc := 49) hF hR (by decide +kernel) rfl (congrArg Prod.fst (Option.some.inj h)) (congrArg (fun (q : Int32 × zMem) => (n, q.2)) (Option.some.inj h))
    · replace h := zif b1 h
      refine zrun hF [(.iload 5, 2, pI 0)] 9 _ (by decide +kernel) ?_
      show zG w f 7 11 ([none, some (pR 68 0), some (pI x2), some (pR 79 0), some (pI x4), some (pI x5), some (pI x6)], [pI x5], (n, m))
      refine zif_eq (tgt := 28) (pc := 11) hF (by decide +kernel) (fun b2 => ?_) (fun b2 => ?_)
      · replace h := zit b2 h
        obtain ⟨c3, h⟩ := zchk h
        obtain ⟨c4, h⟩ := zchk h
        refine zrun hF [(.aload_n 3, 1, pI 0), (.iload 4, 2, pI 0), (.iload 6, 2, pI 0), (.iadd, 1, pI 0), (.aload_n 1, 1, pI 0), (.iload 6, 2, pI 0), (.iaload, 1, pI 0), (.iastore, 1, pI 0)] 28 _ (by decide +kernel) ?_
        refine (And.intro rfl (And.intro rfl (And.intro c3 (And.intro rfl (And.intro rfl (And.intro c4 ?_))))))
        refine zlet_k (P := fun (m5 : zMem) => zG w f 7 39 ([none, some (pR 68 0), some (pI x2), some (pR 79 0), some (pI x4), some (pI x5), some (pI x6)], [], (n, m5))) h (fun m5 h => ?_)
        exact m_X7_carries_68_79_L39 hl hF hR ih _ _ _ _ _  h
      · replace h := zif b2 h
        obtain ⟨c6, h⟩ := zchk h
        obtain ⟨c7, h⟩ := zchk h
        refine zrun hF [(.aload_n 1, 1, pI 0), (.iload 6, 2, pI 0), (.aload_n 3, 1, pI 0), (.iload 4, 2, pI 0), (.iload 6, 2, pI 0), (.iadd, 1, pI 0), (.iaload, 1, pI 0), (.iastore, 1, pI 0)] 14 _ (by decide +kernel) ?_
        refine (And.intro rfl (And.intro rfl (And.intro c6 (And.intro rfl (And.intro rfl (And.intro c7 ?_))))))
        refine zlet_k (P := fun (m8 : zMem) => zG w f 7 25 ([none, some (pR 68 0), some (pI x2), some (pR 79 0), some (pI x4), some (pI x5), some (pI x6)], [], (n, m8))) h (fun m8 h => ?_)
        refine zgoto (tgt := 39) (pc := 25) hF (by decide +kernel) ?_
        exact m_X7_carries_68_79_L39 hl hF hR ih _ _ _ _ _  h

set_option maxHeartbeats 4000000 in
set_option maxRecDepth 100000 in
theorem m_X7_carries_68_79 {w : zWd} {lc : Launch} {n : zMem} {a2 : Int32} {a4 : Int32} {a5 : Int32} {m : zMem} {x : Int32} {m0 : zMem}  (h : s_X7_carries_68_79 a2 a4 a5 m = some (x, m0)) : zMet w lc 1 yX7_carries cX7_carries 7 (some .int) [pR 64 0, pR 68 0, pI a2, pR 79 0, pI a4, pI a5] (n, m) (zQI w x (n, m0)) := by
  refine zmet (o := 7) (by decide +kernel) rfl (Nat.le_of_ble_eq_true rfl) rfl (fun f hl hF hR => ?_)
  unfold s_X7_carries_68_79 at h
  show zG w f 7 0 ([some (pR 64 0), some (pR 68 0), some (pI a2), some (pR 79 0), some (pI a4), some (pI a5), none], [], (n, m))
  refine zrun hF [(.iconst 0, 1, pI 0), (.istore 6, 2, pI 0)] 0 _ (by decide +kernel) ?_
  refine (And.intro rfl ?_)
  show zG w f 7 3 ([some (pR 64 0), some (pR 68 0), some (pI a2), some (pR 79 0), some (pI a4), some (pI a5), some (pI 0)], [], (n, m))
  refine zcut [false, true, true, true, true, true, true] ?_
  exact m_X7_carries_68_79_L3 hl hF hR  zF _ _ _ _ _  h

set_option maxHeartbeats 4000000 in
set_option maxRecDepth 100000 in
theorem m_X7_carries_69_79_L39 {w : zWd} {f : zFr} {n : zMem} {x : Int32} {m0 : zMem} {lc : Launch} (hl : f.2.1 = lc) (hF : zFOK w f 7 cX7_carries 7 1) (hR : zFin w f (some .int) (zQI w x (n, m0))) {k3 : Int32 → Int32 → Int32 → Int32 → zMem → Option (Int32 × zMem)} (hk3 : ∀ (x2 : Int32) (x4 : Int32) (x5 : Int32) (x6 : Int32) (m : zMem), k3 x2 x4 x5 x6 m = some (x, m0) → zG w f 7 3 ([none, some (pR 69 0), some (pI x2), some (pR 79 0), some (pI x4), some (pI x5), some (pI x6)], [], (n, m))) : ∀ (x2 : Int32) (x4 : Int32) (x5 : Int32) (x6 : Int32) (m : zMem), s_X7_carries_69_79_L39 k3 x2 x4 x5 x6 m = some (x, m0) → zG w f 7 39 ([none, some (pR 69 0), some (pI x2), some (pR 79 0), some (pI x4), some (pI x5), some (pI x6)], [], (n, m)) := by
  intro x2 x4 x5 x6 m h
  unfold s_X7_carries_69_79_L39 at h
  refine zrun hF [(.iinc 6 1, 3, pI 1)] 39 _ (by decide +kernel) ?_
  refine (And.intro rfl ?_)
  show zG w f 7 42 ([none, some (pR 69 0), some (pI x2), some (pR 79 0), some (pI x4), some (pI x5), some (pI (x6 + 1))], [], (n, m))
  refine zgoto (tgt := 3) (pc := 42) hF (by decide +kernel) ?_
  exact hk3 _ _ _ _ _  h

set_option maxHeartbeats 4000000 in
set_option maxRecDepth 100000 in
theorem m_X7_carries_69_79_L3 {w : zWd} {f : zFr} {n : zMem} {x : Int32} {m0 : zMem} {lc : Launch} (hl : f.2.1 = lc) (hF : zFOK w f 7 cX7_carries 7 1) (hR : zFin w f (some .int) (zQI w x (n, m0))) : ∀ (k : Nat) (x2 : Int32) (x4 : Int32) (x5 : Int32) (x6 : Int32) (m : zMem), s_X7_carries_69_79_L3 k x2 x4 x5 x6 m = some (x, m0) → zG w f 7 3 ([none, some (pR 69 0), some (pI x2), some (pR 79 0), some (pI x4), some (pI x5), some (pI x6)], [], (n, m)) := by
  intro k
  induction k with
  | zero => intro x2 x4 x5 x6 m h; exact zno h
  | succ k ih =>
    intro x2 x4 x5 x6 m h
    unfold s_X7_carries_69_79_L3 at h
    refine zrun hF [(.iload 6, 2, pI 0), (.iload_n 2, 1, pI 0)] 3 _ (by decide +kernel) ?_
    show zG w f 7 6 ([none, some (pR 69 0), some (pI x2), some (pR 79 0), some (pI x4), some (pI x5), some (pI x6)], [pI x2, pI x6], (n, m))
    refine zicmp_ge (tgt := 45) (pc := 6) hF (by decide +kernel) (fun b1 => ?_) (fun b1 => ?_)
    · replace h := zit b1 h
      refine zrun hF [(.iload 4, 2, pI 0), (.iload_n 2, 1, pI 0), (.iadd, 1, pI 0)] 45 _ (by decide +kernel) ?_
      show zG w f 7 49 ([none, some (pR 69 0), some (pI x2), some (pR 79 0), some (pI x4), some (pI x5), some (pI x6)], [pI (x4 + x2)], (n, m))
      exact zretI (pc := 49) hF hR (by decide +kernel) rfl (congrArg Prod.fst (Option.some.inj h)) (congrArg (fun (q : Int32 × zMem) => (n, q.2)) (Option.some.inj h))
    · replace h := zif b1 h
      refine zrun hF [(.iload 5, 2, pI 0)] 9 _ (by decide +kernel) ?_
      show zG w f 7 11 ([none, some (pR 69 0), some (pI x2), some (pR 79 0), some (pI x4), some (pI x5), some (pI x6)], [pI x5], (n, m))
      refine zif_eq (tgt := 28) (pc := 11) hF (by decide +kernel) (fun b2 => ?_) (fun b2 => ?_)
      · replace h := zit b2 h
        obtain ⟨c3, h⟩ := zchk h
        obtain ⟨c4, h⟩ := zchk h
        refine zrun hF [(.aload_n 3, 1, pI 0), (.iload 4, 2, pI 0), (.iload 6, 2, pI 0), (.iadd, 1, pI 0), (.aload_n 1, 1, pI 0), (.iload 6, 2, pI 0), (.iaload, 1, pI 0), (.iastore, 1, pI 0)] 28 _ (by decide +kernel) ?_
        refine (And.intro rfl (And.intro rfl (And.intro c3 (And.intro rfl (And.intro rfl (And.intro c4 ?_))))))
        refine zlet_k (P := fun (m5 : zMem) => zG w f 7 39 ([none, some (pR 69 0), some (pI x2), some (pR 79 0), some (pI x4), some (pI x5), some (pI x6)], [], (n, m5))) h (fun m5 h => ?_)
        exact m_X7_carries_69_79_L39 hl hF hR ih _ _ _ _ _  h
      · replace h := zif b2 h
        obtain ⟨c6, h⟩ := zchk h
        obtain ⟨c7, h⟩ := zchk h
        refine zrun hF [(.aload_n 1, 1, pI 0), (.iload 6, 2, pI 0), (.aload_n 3, 1, pI 0), (.iload 4, 2, pI 0), (.iload 6, 2, pI 0), (.iadd, 1, pI 0), (.iaload, 1, pI 0), (.iastore, 1, pI 0)] 14 _ (by decide +kernel) ?_
        refine (And.intro rfl (And.intro rfl (And.intro c6 (And.intro rfl (And.intro rfl (And.intro c7 ?_))))))
        refine zlet_k (P := fun (m8 : zMem) => zG w f 7 25 ([none, some (pR 69 0), some (pI x2), some (pR 79 0), some (pI x4), some (pI x5), some (pI x6)], [], (n, m8))) h (fun m8 h => ?_)
        refine zgoto (tgt := 39) (pc := 25) hF (by decide +kernel) ?_
        exact m_X7_carries_69_79_L39 hl hF hR ih _ _ _ _ _  h

set_option maxHeartbeats 4000000 in
set_option maxRecDepth 100000 in
theorem m_X7_carries_69_79 {w : zWd} {lc : Launch} {n : zMem} {a2 : Int32} {a4 : Int32} {a5 : Int32} {m : zMem} {x : Int32} {m0 : zMem}  (h : s_X7_carries_69_79 a2 a4 a5 m = some (x, m0)) : zMet w lc 1 yX7_carries cX7_carries 7 (some .int) [pR 64 0, pR 69 0, pI a2, pR 79 0, pI a4, pI a5] (n, m) (zQI w x (n, m0)) := by
  refine zmet (o := 7) (by decide +kernel) rfl (Nat.le_of_ble_eq_true rfl) rfl (fun f hl hF hR => ?_)
  unfold s_X7_carries_69_79 at h
  show zG w f 7 0 ([some (pR 64 0), some (pR 69 0), some (pI a2), some (pR 79 0), some (pI a4), some (pI a5), none], [], (n, m))
  refine zrun hF [(.iconst 0, 1, pI 0), (.istore 6, 2, pI 0)] 0 _ (by decide +kernel) ?_
  refine (And.intro rfl ?_)
  show zG w f 7 3 ([some (pR 64 0), some (pR 69 0), some (pI a2), some (pR 79 0), some (pI a4), some (pI a5), some (pI 0)], [], (n, m))
  refine zcut [false, true, true, true, true, true, true] ?_
  exact m_X7_carries_69_79_L3 hl hF hR  zF _ _ _ _ _  h

set_option maxHeartbeats 4000000 in
set_option maxRecDepth 100000 in
theorem m_X7_carries_70_79_L39 {w : zWd} {f : zFr} {n : zMem} {x : Int32} {m0 : zMem} {lc : Launch} (hl : f.2.1 = lc) (hF : zFOK w f 7 cX7_carries 7 1) (hR : zFin w f (some .int) (zQI w x (n, m0))) {k3 : Int32 → Int32 → Int32 → Int32 → zMem → Option (Int32 × zMem)} (hk3 : ∀ (x2 : Int32) (x4 : Int32) (x5 : Int32) (x6 : Int32) (m : zMem), k3 x2 x4 x5 x6 m = some (x, m0) → zG w f 7 3 ([none, some (pR 70 0), some (pI x2), some (pR 79 0), some (pI x4), some (pI x5), some (pI x6)], [], (n, m))) : ∀ (x2 : Int32) (x4 : Int32) (x5 : Int32) (x6 : Int32) (m : zMem), s_X7_carries_70_79_L39 k3 x2 x4 x5 x6 m = some (x, m0) → zG w f 7 39 ([none, some (pR 70 0), some (pI x2), some (pR 79 0), some (pI x4), some (pI x5), some (pI x6)], [], (n, m)) := by
  intro x2 x4 x5 x6 m h
  unfold s_X7_carries_70_79_L39 at h
  refine zrun hF [(.iinc 6 1, 3, pI 1)] 39 _ (by decide +kernel) ?_
  refine (And.intro rfl ?_)
  show zG w f 7 42 ([none, some (pR 70 0), some (pI x2), some (pR 79 0), some (pI x4), some (pI x5), some (pI (x6 + 1))], [], (n, m))
  refine zgoto (tgt := 3) (pc := 42) hF (by decide +kernel) ?_
  exact hk3 _ _ _ _ _  h

set_option maxHeartbeats 4000000 in
set_option maxRecDepth 100000 in
theorem m_X7_carries_70_79_L3 {w : zWd} {f : zFr} {n : zMem} {x : Int32} {m0 : zMem} {lc : Launch} (hl : f.2.1 = lc) (hF : zFOK w f 7 cX7_carries 7 1) (hR : zFin w f (some .int) (zQI w x (n, m0))) : ∀ (k : Nat) (x2 : Int32) (x4 : Int32) (x5 : Int32) (x6 : Int32) (m : zMem), s_X7_carries_70_79_L3 k x2 x4 x5 x6 m = some (x, m0) → zG w f 7 3 ([none, some (pR 70 0), some (pI x2), some (pR 79 0), some (pI x4), some (pI x5), some (pI x6)], [], (n, m)) := by
  intro k
  induction k with
  | zero => intro x2 x4 x5 x6 m h; exact zno h
  | succ k ih =>
    intro x2 x4 x5 x6 m h
    unfold s_X7_carries_70_79_L3 at h
    refine zrun hF [(.iload 6, 2, pI 0), (.iload_n 2, 1, pI 0)] 3 _ (by decide +kernel) ?_
    show zG w f 7 6 ([none, some (pR 70 0), some (pI x2), some (pR 79 0), some (pI x4), some (pI x5), some (pI x6)], [pI x2, pI x6], (n, m))
    refine zicmp_ge (tgt := 45) (pc := 6) hF (by decide +kernel) (fun b1 => ?_) (fun b1 => ?_)
    · replace h := zit b1 h
      refine zrun hF [(.iload 4, 2, pI 0), (.iload_n 2, 1, pI 0), (.iadd, 1, pI 0)] 45 _ (by decide +kernel) ?_
      show zG w f 7 49 ([none, some (pR 70 0), some (pI x2), some (pR 79 0), some (pI x4), some (pI x5), some (pI x6)], [pI (x4 + x2)], (n, m))
      exact zretI (pc := 49) hF hR (by decide +kernel) rfl (congrArg Prod.fst (Option.some.inj h)) (congrArg (fun (q : Int32 × zMem) => (n, q.2)) (Option.some.inj h))
    · replace h := zif b1 h
      refine zrun hF [(.iload 5, 2, pI 0)] 9 _ (by decide +kernel) ?_
      show zG w f 7 11 ([none, some (pR 70 0), some (pI x2), some (pR 79 0), some (pI x4), some (pI x5), some (pI x6)], [pI x5], (n, m))
      refine zif_eq (tgt := 28) (pc := 11) hF (by decide +kernel) (fun b2 => ?_) (fun b2 => ?_)
      · replace h := zit b2 h
        obtain ⟨c3, h⟩ := zchk h
        obtain ⟨c4, h⟩ := zchk h
        refine zrun hF [(.aload_n 3, 1, pI 0), (.iload 4, 2, pI 0), (.iload 6, 2, pI 0), (.iadd, 1, pI 0), (.aload_n 1, 1, pI 0), (.iload 6, 2, pI 0), (.iaload, 1, pI 0), (.iastore, 1, pI 0)] 28 _ (by decide +kernel) ?_
        refine (And.intro rfl (And.intro rfl (And.intro c3 (And.intro rfl (And.intro rfl (And.intro c4 ?_))))))
        refine zlet_k (P := fun (m5 : zMem) => zG w f 7 39 ([none, some (pR 70 0), some (pI x2), some (pR 79 0), some (pI x4), some (pI x5), some (pI x6)], [], (n, m5))) h (fun m5 h => ?_)
        exact m_X7_carries_70_79_L39 hl hF hR ih _ _ _ _ _  h
      · replace h := zif b2 h
        obtain ⟨c6, h⟩ := zchk h
        obtain ⟨c7, h⟩ := zchk h
        refine zrun hF [(.aload_n 1, 1, pI 0), (.iload 6, 2, pI 0), (.aload_n 3, 1, pI 0), (.iload 4, 2, pI 0), (.iload 6, 2, pI 0), (.iadd, 1, pI 0), (.iaload, 1, pI 0), (.iastore, 1, pI 0)] 14 _ (by decide +kernel) ?_
        refine (And.intro rfl (And.intro rfl (And.intro c6 (And.intro rfl (And.intro rfl (And.intro c7 ?_))))))
        refine zlet_k (P := fun (m8 : zMem) => zG w f 7 25 ([none, some (pR 70 0), some (pI x2), some (pR 79 0), some (pI x4), some (pI x5), some (pI x6)], [], (n, m8))) h (fun m8 h => ?_)
        refine zgoto (tgt := 39) (pc := 25) hF (by decide +kernel) ?_
        exact m_X7_carries_70_79_L39 hl hF hR ih _ _ _ _ _  h

set_option maxHeartbeats 4000000 in
set_option maxRecDepth 100000 in
theorem m_X7_carries_70_79 {w : zWd} {lc : Launch} {n : zMem} {a2 : Int32} {a4 : Int32} {a5 : Int32} {m : zMem} {x : Int32} {m0 : zMem}  (h : s_X7_carries_70_79 a2 a4 a5 m = some (x, m0)) : zMet w lc 1 yX7_carries cX7_carries 7 (some .int) [pR 64 0, pR 70 0, pI a2, pR 79 0, pI a4, pI a5] (n, m) (zQI w x (n, m0)) := by
  refine zmet (o := 7) (by decide +kernel) rfl (Nat.le_of_ble_eq_true rfl) rfl (fun f hl hF hR => ?_)
  unfold s_X7_carries_70_79 at h
  show zG w f 7 0 ([some (pR 64 0), some (pR 70 0), some (pI a2), some (pR 79 0), some (pI a4), some (pI a5), none], [], (n, m))
  refine zrun hF [(.iconst 0, 1, pI 0), (.istore 6, 2, pI 0)] 0 _ (by decide +kernel) ?_
  refine (And.intro rfl ?_)
  show zG w f 7 3 ([some (pR 64 0), some (pR 70 0), some (pI a2), some (pR 79 0), some (pI a4), some (pI a5), some (pI 0)], [], (n, m))
  refine zcut [false, true, true, true, true, true, true] ?_
  exact m_X7_carries_70_79_L3 hl hF hR  zF _ _ _ _ _  h

