set_option maxHeartbeats 4000000 in
set_option maxRecDepth 100000 in
theorem m_X6_seats_L21 {w : zWd} {f : zFr} {n : zMem} {x : Int32} {m0 : zMem} {lc : Launch} (hl : f.2.1 = lc) (hF : zFOK w f 6 cX6_seats 3 2) (hR : zFin w f (some .int) (zQI w x (m0, n))) : ∀ (m : zMem), s_X6_seats_L21 m = some (x, m0) → zG w f 3 21 ([some (pR 0 0), none, none], [], (m, n)) := by
  intro m h
  unfold s_X6_seats_L21 at h
  refine zrun hF [(.aload_n 0, 1, pI 0), (.bipush (-6), 2, pI (-6))] 21 _ (by decide +kernel) ?_
  show zG w f 3 24 ([some (pR 0 0), none, none], [pI (-6), pR 0 0], (m, n))
  obtain ⟨r6, m7, q5, h⟩ := zb_k h
  refine zcallVI (pc := 24) (As := [pI (-6)]) (st := []) (c := 0) (j := 0) hF (m_X6_refuse  q5) w_X6_refuse k_6_73 (by decide +kernel) rfl rfl rfl rfl rfl rfl rfl ?_
  exact zretI (pc := 27) hF hR (by decide +kernel) rfl (congrArg Prod.fst (Option.some.inj h)) (congrArg (fun (q : Int32 × zMem) => (q.2, n)) (Option.some.inj h))

set_option maxHeartbeats 4000000 in
set_option maxRecDepth 100000 in
theorem m_X6_seats {w : zWd} {lc : Launch} {n : zMem} {a1 : Int32} {m : zMem} {x : Int32} {m0 : zMem}  (h : s_X6_seats a1 m = some (x, m0)) : zMet w lc 2 yX6_seats cX6_seats 3 (some .int) [pR 0 0, pI a1] (m, n) (zQI w x (m0, n)) := by
  refine zmet (o := 6) (by decide +kernel) rfl (Nat.le_of_ble_eq_true rfl) rfl (fun f hl hF hR => ?_)
  unfold s_X6_seats at h
  show zG w f 3 0 ([some (pR 0 0), some (pI a1), none], [], (m, n))
  refine zrun hF [(.iload_n 1, 1, pI 0), (.iconst 3, 1, pI 3)] 0 _ (by decide +kernel) ?_
  show zG w f 3 2 ([some (pR 0 0), some (pI a1), none], [pI 3, pI a1], (m, n))
  refine zicmp_lt (tgt := 21) (pc := 2) hF (by decide +kernel) (fun b1 => ?_) (fun b1 => ?_)
  · replace h := zit b1 h
    refine zcut [true, false, true] ?_
    exact m_X6_seats_L21 hl hF hR  _  h
  · replace h := zif b1 h
    refine zrun hF [(.iload_n 1, 1, pI 0), (.bipush 12, 2, pI 12)] 5 _ (by decide +kernel) ?_
    show zG w f 3 8 ([some (pR 0 0), some (pI a1), none], [pI 12, pI a1], (m, n))
    refine zicmp_gt (tgt := 21) (pc := 8) hF (by decide +kernel) (fun b2 => ?_) (fun b2 => ?_)
    · replace h := zit b2 h
      refine zcut [true, false, true] ?_
      exact m_X6_seats_L21 hl hF hR  _  h
    · replace h := zif b2 h
      refine zrun hF [(.aload_n 0, 1, pI 0), (.getfield 10, 3, pR 0 0), (.getfield 132, 3, pR 1 6)] 11 _ (by decide +kernel) ?_
      refine (And.intro rfl (And.intro rfl (And.intro rfl (And.intro rfl ?_))))
      show zG w f 3 18 ([some (pR 0 0), some (pI a1), none], [pI (m.1 1 0 6)], (m, n))
      refine zif_le (tgt := 28) (pc := 18) hF (by decide +kernel) (fun b3 => ?_) (fun b3 => ?_)
      · replace h := zit b3 h
        refine zrun hF [(.aload_n 0, 1, pI 0), (.getfield 10, 3, pR 0 0), (.getfield 135, 3, pR 1 5), (.istore_n 2, 1, pI 0), (.aload_n 0, 1, pI 0), (.getfield 10, 3, pR 0 0), (.iload_n 1, 1, pI 0), (.putfield 135, 3, pR 1 5)] 28 _ (by decide +kernel) ?_
        refine (And.intro rfl (And.intro rfl (And.intro rfl (And.intro rfl (And.intro rfl (And.intro rfl (And.intro rfl (And.intro rfl (And.intro rfl (And.intro trivial ?_))))))))))
        refine zlet_k (P := fun (m4 : zMem) => zG w f 3 44 ([some (pR 0 0), some (pI a1), some (pI (m.1 1 0 5))], [], (m4, n))) h (fun m4 h => ?_)
        refine zrun hF [(.iload_n 2, 1, pI 0)] 44 _ (by decide +kernel) ?_
        show zG w f 3 45 ([some (pR 0 0), some (pI a1), some (pI (m.1 1 0 5))], [pI (m.1 1 0 5)], (m4, n))
        exact zretI (pc := 45) hF hR (by decide +kernel) rfl (congrArg Prod.fst (Option.some.inj h)) (congrArg (fun (q : Int32 × zMem) => (q.2, n)) (Option.some.inj h))
      · replace h := zif b3 h
        refine zcut [true, false, true] ?_
        exact m_X6_seats_L21 hl hF hR  _  h

set_option maxHeartbeats 4000000 in
set_option maxRecDepth 100000 in
theorem m_X7_seats_L18 {w : zWd} {f : zFr} {n : zMem} {x : Int32} {m0 : zMem} {lc : Launch} (hl : f.2.1 = lc) (hF : zFOK w f 7 cX7_seats 3 2) (hR : zFin w f (some .int) (zQI w x (n, m0))) : ∀ (m : zMem), s_X7_seats_L18 m = some (x, m0) → zG w f 3 18 ([some (pR 64 0), none, none], [], (n, m)) := by
  intro m h
  unfold s_X7_seats_L18 at h
  refine zrun hF [(.aload_n 0, 1, pI 0), (.bipush (-6), 2, pI (-6))] 18 _ (by decide +kernel) ?_
  show zG w f 3 21 ([some (pR 64 0), none, none], [pI (-6), pR 64 0], (n, m))
  obtain ⟨r6, m7, q5, h⟩ := zb_k h
  refine zcallVI (pc := 21) (As := [pI (-6)]) (st := []) (c := 64) (j := 0) hF (m_X7_no  q5) w_X7_no k_7_100 (by decide +kernel) rfl rfl rfl rfl rfl rfl rfl ?_
  exact zretI (pc := 24) hF hR (by decide +kernel) rfl (congrArg Prod.fst (Option.some.inj h)) (congrArg (fun (q : Int32 × zMem) => (n, q.2)) (Option.some.inj h))

set_option maxHeartbeats 4000000 in
set_option maxRecDepth 100000 in
theorem m_X7_seats {w : zWd} {lc : Launch} {n : zMem} {a1 : Int32} {m : zMem} {x : Int32} {m0 : zMem}  (h : s_X7_seats a1 m = some (x, m0)) : zMet w lc 2 yX7_seats cX7_seats 3 (some .int) [pR 64 0, pI a1] (n, m) (zQI w x (n, m0)) := by
  refine zmet (o := 7) (by decide +kernel) rfl (Nat.le_of_ble_eq_true rfl) rfl (fun f hl hF hR => ?_)
  unfold s_X7_seats at h
  show zG w f 3 0 ([some (pR 64 0), some (pI a1), none], [], (n, m))
  refine zrun hF [(.iload_n 1, 1, pI 0), (.iconst 3, 1, pI 3)] 0 _ (by decide +kernel) ?_
  show zG w f 3 2 ([some (pR 64 0), some (pI a1), none], [pI 3, pI a1], (n, m))
  refine zicmp_lt (tgt := 18) (pc := 2) hF (by decide +kernel) (fun b1 => ?_) (fun b1 => ?_)
  · replace h := zit b1 h
    refine zcut [true, false, true] ?_
    exact m_X7_seats_L18 hl hF hR  _  h
  · replace h := zif b1 h
    refine zrun hF [(.iload_n 1, 1, pI 0), (.bipush 12, 2, pI 12)] 5 _ (by decide +kernel) ?_
    show zG w f 3 8 ([some (pR 64 0), some (pI a1), none], [pI 12, pI a1], (n, m))
    refine zicmp_gt (tgt := 18) (pc := 8) hF (by decide +kernel) (fun b2 => ?_) (fun b2 => ?_)
    · replace h := zit b2 h
      refine zcut [true, false, true] ?_
      exact m_X7_seats_L18 hl hF hR  _  h
    · replace h := zif b2 h
      refine zrun hF [(.aload_n 0, 1, pI 0), (.getfield 93, 3, pR 64 0)] 11 _ (by decide +kernel) ?_
      refine (And.intro rfl (And.intro rfl ?_))
      show zG w f 3 15 ([some (pR 64 0), some (pI a1), none], [pI (m.1 64 0 0)], (n, m))
      refine zif_le (tgt := 25) (pc := 15) hF (by decide +kernel) (fun b3 => ?_) (fun b3 => ?_)
      · replace h := zit b3 h
        refine zrun hF [(.aload_n 0, 1, pI 0), (.getfield 7, 3, pR 64 1), (.istore_n 2, 1, pI 0), (.aload_n 0, 1, pI 0), (.iload_n 1, 1, pI 0), (.putfield 7, 3, pR 64 1)] 25 _ (by decide +kernel) ?_
        refine (And.intro rfl (And.intro rfl (And.intro rfl (And.intro rfl (And.intro rfl (And.intro trivial ?_))))))
        refine zlet_k (P := fun (m4 : zMem) => zG w f 3 35 ([some (pR 64 0), some (pI a1), some (pI (m.1 64 0 1))], [], (n, m4))) h (fun m4 h => ?_)
        refine zrun hF [(.iload_n 2, 1, pI 0)] 35 _ (by decide +kernel) ?_
        show zG w f 3 36 ([some (pR 64 0), some (pI a1), some (pI (m.1 64 0 1))], [pI (m.1 64 0 1)], (n, m4))
        exact zretI (pc := 36) hF hR (by decide +kernel) rfl (congrArg Prod.fst (Option.some.inj h)) (congrArg (fun (q : Int32 × zMem) => (n, q.2)) (Option.some.inj h))
      · replace h := zif b3 h
        refine zcut [true, false, true] ?_
        exact m_X7_seats_L18 hl hF hR  _  h

set_option maxHeartbeats 4000000 in
set_option maxRecDepth 100000 in
theorem m_X5_freeSeatBits_L12 {w : zWd} {f : zFr} {n : zMem} {x : Int32} {lc : Launch} {mr : zMem} (hl : f.2.1 = lc) (hF : zFOK w f 5 cX5_freeSeatBits 3 2) (hR : zFin w f (some .int) (zQI w x (mr, n))) : ∀ (k : Nat) (x0 : Nat) (x1 : Int32) (x2 : Int32) (m : zMem), Nat.blt x0 3 = true → m = mr → s_X5_freeSeatBits_L12 k x0 x1 x2 m = some x → zG w f 3 12 ([some (pR 1 x0), some (pI x1), some (pI x2)], [], (m, n)) := by
  intro k
  induction k with
  | zero => intro x0 x1 x2 m hx0 hm h; exact zno h
  | succ k ih =>
    intro x0 x1 x2 m hx0 hm h
    unfold s_X5_freeSeatBits_L12 at h
    refine zrun hF [(.iload_n 2, 1, pI 0), (.aload_n 0, 1, pI 0), (.getfield 31, 3, pR 1 6)] 12 _ (by decide +kernel) ?_
    refine (And.intro rfl (And.intro hx0 ?_))
    show zG w f 3 17 ([some (pR 1 x0), some (pI x1), some (pI x2)], [pI (m.1 1 x0 6), pI x2], (m, n))
    refine zicmp_ge (tgt := 40) (pc := 17) hF (by decide +kernel) (fun b3 => ?_) (fun b3 => ?_)
    · replace h := zit b3 h
      refine zrun hF [(.iload_n 1, 1, pI 0)] 40 _ (by decide +kernel) ?_
      show zG w f 3 41 ([some (pR 1 x0), some (pI x1), some (pI x2)], [pI x1], (m, n))
      exact zretI (pc := 41) hF hR (by decide +kernel) rfl (Option.some.inj h) (congrArg (fun q => (q, n)) hm)
    · replace h := zif b3 h
      obtain ⟨c4, h⟩ := zchk h
      refine zrun hF [(.iload_n 1, 1, pI 0), (.aload_n 0, 1, pI 0), (.getfield 15, 3, pR 1 1), (.iload_n 2, 1, pI 0), (.iaload, 1, pI 0)] 20 _ (by decide +kernel) ?_
      refine (And.intro rfl (And.intro hx0 (And.intro rfl (And.intro hx0 (And.intro c4 ?_)))))
      show zG w f 3 27 ([some (pR 1 x0), some (pI x1), some (pI x2)], [pI (m.1 3 x0 (ix x2)), pI x1], (m, n))
      obtain ⟨r6, q5, h⟩ := zr_k h
      refine zcallNI (pc := 27) (As := [pI (m.1 3 x0 (ix x2))]) (st := [pI x1]) hF (m_X6_bit  q5) w_X6_bit k_5_55 (by decide +kernel) rfl rfl rfl rfl ?_
      refine zrun hF [(.iconst (-1), 1, pI (-1)), (.ixor, 1, pI 0), (.iand, 1, pI 0), (.istore_n 1, 1, pI 0)] 30 _ (by decide +kernel) ?_
      refine (And.intro rfl ?_)
      refine zlet_k (P := fun (v7 : Int32) => zG w f 3 34 ([some (pR 1 x0), some (pI v7), some (pI x2)], [], (m, n))) h (fun v7 h => ?_)
      refine zrun hF [(.iinc 2 1, 3, pI 1)] 34 _ (by decide +kernel) ?_
      refine (And.intro rfl ?_)
      show zG w f 3 37 ([some (pR 1 x0), some (pI v7), some (pI (x2 + 1))], [], (m, n))
      refine zgoto (tgt := 12) (pc := 37) hF (by decide +kernel) ?_
      exact ih _ _ _ _ hx0 hm h

set_option maxHeartbeats 4000000 in
set_option maxRecDepth 100000 in
theorem m_X5_freeSeatBits {w : zWd} {lc : Launch} {n : zMem} {t : Nat} {m : zMem} {x : Int32} (ht : Nat.blt t 3 = true) (h : s_X5_freeSeatBits t m = some x) : zMet w lc 2 yX5_freeSeatBits cX5_freeSeatBits 3 (some .int) [pR 1 t] (m, n) (zQI w x (m, n)) := by
  refine zmet (o := 5) (by decide +kernel) rfl (Nat.le_of_ble_eq_true rfl) rfl (fun f hl hF hR => ?_)
  unfold s_X5_freeSeatBits at h
  show zG w f 3 0 ([some (pR 1 t), none, none], [], (m, n))
  refine zrun hF [(.aload_n 0, 1, pI 0), (.getfield 27, 3, pR 1 5)] 0 _ (by decide +kernel) ?_
  refine (And.intro rfl (And.intro ht ?_))
  show zG w f 3 4 ([some (pR 1 t), none, none], [pI (m.1 1 t 5)], (m, n))
  obtain ⟨r2, q1, h⟩ := zr_k h
  refine zcallNI (pc := 4) (As := [pI (m.1 1 t 5)]) (st := []) hF (m_X6_bit  q1) w_X6_bit k_5_55 (by decide +kernel) rfl rfl rfl rfl ?_
  refine zrun hF [(.iconst 1, 1, pI 1), (.isub, 1, pI 0), (.istore_n 1, 1, pI 0), (.iconst 0, 1, pI 0), (.istore_n 2, 1, pI 0)] 7 _ (by decide +kernel) ?_
  refine (And.intro rfl (And.intro rfl ?_))
  show zG w f 3 12 ([some (pR 1 t), some (pI (r2 - 1)), some (pI 0)], [], (m, n))
  exact m_X5_freeSeatBits_L12 hl hF hR  zF _ _ _ _ ht rfl h

set_option maxHeartbeats 4000000 in
set_option maxRecDepth 100000 in
theorem m_X5_isFree {w : zWd} {lc : Launch} {n : zMem} {t : Nat} {a1 : Int32} {m : zMem} {x : Int32} (ht : Nat.blt t 3 = true) (h : s_X5_isFree t a1 m = some x) : zMet w lc 3 yX5_isFree cX5_isFree 2 (some .boolean) [pR 1 t, pI a1] (m, n) (zQI w x (m, n)) := by
  refine zmet (o := 5) (by decide +kernel) rfl (Nat.le_of_ble_eq_true rfl) rfl (fun f hl hF hR => ?_)
  unfold s_X5_isFree at h
  show zG w f 2 0 ([some (pR 1 t), some (pI a1)], [], (m, n))
  refine zrun hF [(.iload_n 1, 1, pI 0)] 0 _ (by decide +kernel) ?_
  show zG w f 2 1 ([some (pR 1 t), some (pI a1)], [pI a1], (m, n))
  refine zif_lt (tgt := 27) (pc := 1) hF (by decide +kernel) (fun b1 => ?_) (fun b1 => ?_)
  · replace h := zit b1 h
    refine zrun hF [(.iconst 0, 1, pI 0)] 27 _ (by decide +kernel) ?_
    show zG w f 2 28 ([some (pR 1 t), some (pI a1)], [pI 0], (m, n))
    exact zretI (pc := 28) hF hR (by decide +kernel) (by decide +kernel) (Option.some.inj h) rfl
  · replace h := zif b1 h
    refine zrun hF [(.iload_n 1, 1, pI 0), (.aload_n 0, 1, pI 0), (.getfield 27, 3, pR 1 5)] 4 _ (by decide +kernel) ?_
    refine (And.intro rfl (And.intro ht ?_))
    show zG w f 2 9 ([some (pR 1 t), some (pI a1)], [pI (m.1 1 t 5), pI a1], (m, n))
    refine zicmp_ge (tgt := 27) (pc := 9) hF (by decide +kernel) (fun b2 => ?_) (fun b2 => ?_)
    · replace h := zit b2 h
      refine zrun hF [(.iconst 0, 1, pI 0)] 27 _ (by decide +kernel) ?_
      show zG w f 2 28 ([some (pR 1 t), some (pI a1)], [pI 0], (m, n))
      exact zretI (pc := 28) hF hR (by decide +kernel) (by decide +kernel) (Option.some.inj h) rfl
    · replace h := zif b2 h
      refine zrun hF [(.aload_n 0, 1, pI 0)] 12 _ (by decide +kernel) ?_
      show zG w f 2 13 ([some (pR 1 t), some (pI a1)], [pR 1 t], (m, n))
      obtain ⟨r4, q3, h⟩ := zr_k h
      refine zcallVI (pc := 13) (As := []) (st := []) (c := 1) (j := t) hF (m_X5_freeSeatBits ht q3) w_X5_freeSeatBits k_5_63 (by decide +kernel) rfl ht rfl rfl rfl rfl rfl ?_
      refine zrun hF [(.iload_n 1, 1, pI 0), (.ishr, 1, pI 0), (.iconst 1, 1, pI 1), (.iand, 1, pI 0)] 16 _ (by decide +kernel) ?_
      show zG w f 2 20 ([some (pR 1 t), some (pI a1)], [pI ((jshr r4 a1) &&& 1)], (m, n))
      refine zif_eq (tgt := 27) (pc := 20) hF (by decide +kernel) (fun b5 => ?_) (fun b5 => ?_)
      · replace h := zit b5 h
        refine zrun hF [(.iconst 0, 1, pI 0)] 27 _ (by decide +kernel) ?_
        show zG w f 2 28 ([some (pR 1 t), some (pI a1)], [pI 0], (m, n))
        exact zretI (pc := 28) hF hR (by decide +kernel) (by decide +kernel) (Option.some.inj h) rfl
      · replace h := zif b5 h
        refine zrun hF [(.iconst 1, 1, pI 1)] 23 _ (by decide +kernel) ?_
        show zG w f 2 24 ([some (pR 1 t), some (pI a1)], [pI 1], (m, n))
        refine zgoto (tgt := 28) (pc := 24) hF (by decide +kernel) ?_
        exact zretI (pc := 28) hF hR (by decide +kernel) (by decide +kernel) (Option.some.inj h) rfl

set_option maxHeartbeats 4000000 in
set_option maxRecDepth 100000 in
theorem m_X6_isAmount {w : zWd} {lc : Launch} {M : zWM} {a1 : Int32} {x : Int32}  (h : s_X6_isAmount a1 = some x) : zMet w lc 1 yX6_isAmount cX6_isAmount 1 (some .boolean) [pI a1] M (zQI w x M) := by
  refine zmet (o := 6) (by decide +kernel) rfl (Nat.le_of_ble_eq_true rfl) rfl (fun f hl hF hR => ?_)
  unfold s_X6_isAmount at h
  show zG w f 1 0 ([some (pI a1)], [], M)
  refine zrun hF [(.iload_n 0, 1, pI 0)] 0 _ (by decide +kernel) ?_
  show zG w f 1 1 ([some (pI a1)], [pI a1], M)
  refine zif_lt (tgt := 14) (pc := 1) hF (by decide +kernel) (fun b1 => ?_) (fun b1 => ?_)
  · replace h := zit b1 h
    refine zrun hF [(.iconst 0, 1, pI 0)] 14 _ (by decide +kernel) ?_
    show zG w f 1 15 ([some (pI a1)], [pI 0], M)
    exact zretI (pc := 15) hF hR (by decide +kernel) (by decide +kernel) (Option.some.inj h) rfl
  · replace h := zif b1 h
    refine zrun hF [(.iload_n 0, 1, pI 0), (.bipush 9, 2, pI 9)] 4 _ (by decide +kernel) ?_
    show zG w f 1 7 ([some (pI a1)], [pI 9, pI a1], M)
    refine zicmp_gt (tgt := 14) (pc := 7) hF (by decide +kernel) (fun b2 => ?_) (fun b2 => ?_)
    · replace h := zit b2 h
      refine zrun hF [(.iconst 0, 1, pI 0)] 14 _ (by decide +kernel) ?_
      show zG w f 1 15 ([some (pI a1)], [pI 0], M)
      exact zretI (pc := 15) hF hR (by decide +kernel) (by decide +kernel) (Option.some.inj h) rfl
    · replace h := zif b2 h
      refine zrun hF [(.iconst 1, 1, pI 1)] 10 _ (by decide +kernel) ?_
      show zG w f 1 11 ([some (pI a1)], [pI 1], M)
      refine zgoto (tgt := 15) (pc := 11) hF (by decide +kernel) ?_
      exact zretI (pc := 15) hF hR (by decide +kernel) (by decide +kernel) (Option.some.inj h) rfl

set_option maxHeartbeats 4000000 in
set_option maxRecDepth 100000 in
theorem m_X5_isFull {w : zWd} {lc : Launch} {n : zMem} {t : Nat} {m : zMem} {x : Int32} (ht : Nat.blt t 3 = true) (h : s_X5_isFull t m = some x) : zMet w lc 1 yX5_isFull cX5_isFull 1 (some .boolean) [pR 1 t] (m, n) (zQI w x (m, n)) := by
  refine zmet (o := 5) (by decide +kernel) rfl (Nat.le_of_ble_eq_true rfl) rfl (fun f hl hF hR => ?_)
  unfold s_X5_isFull at h
  show zG w f 1 0 ([some (pR 1 t)], [], (m, n))
  refine zrun hF [(.aload_n 0, 1, pI 0), (.getfield 31, 3, pR 1 6), (.bipush 10, 2, pI 10)] 0 _ (by decide +kernel) ?_
  refine (And.intro rfl (And.intro ht ?_))
  show zG w f 1 6 ([some (pR 1 t)], [pI 10, pI (m.1 1 t 6)], (m, n))
  refine zicmp_lt (tgt := 13) (pc := 6) hF (by decide +kernel) (fun b1 => ?_) (fun b1 => ?_)
  · replace h := zit b1 h
    refine zrun hF [(.iconst 0, 1, pI 0)] 13 _ (by decide +kernel) ?_
    show zG w f 1 14 ([some (pR 1 t)], [pI 0], (m, n))
    exact zretI (pc := 14) hF hR (by decide +kernel) (by decide +kernel) (Option.some.inj h) rfl
  · replace h := zif b1 h
    refine zrun hF [(.iconst 1, 1, pI 1)] 9 _ (by decide +kernel) ?_
    show zG w f 1 10 ([some (pR 1 t)], [pI 1], (m, n))
    refine zgoto (tgt := 14) (pc := 10) hF (by decide +kernel) ?_
    exact zretI (pc := 14) hF hR (by decide +kernel) (by decide +kernel) (Option.some.inj h) rfl

set_option maxHeartbeats 4000000 in
set_option maxRecDepth 100000 in
theorem m_X5_add {w : zWd} {lc : Launch} {n : zMem} {t : Nat} {a1 : Int32} {a2 : Int32} {a3 : Int32} {m : zMem} {m0 : zMem} (ht : Nat.blt t 3 = true) (h : s_X5_add t a1 a2 a3 m = some m0) : zMet w lc 2 yX5_add cX5_add 4 none [pR 1 t, pI a1, pI a2, pI a3] (m, n) (zQV w (m0, n)) := by
  refine zmet (o := 5) (by decide +kernel) rfl (Nat.le_of_ble_eq_true rfl) rfl (fun f hl hF hR => ?_)
  unfold s_X5_add at h
  show zG w f 4 0 ([some (pR 1 t), some (pI a1), some (pI a2), some (pI a3)], [], (m, n))
  refine zrun hF [(.aload_n 0, 1, pI 0)] 0 _ (by decide +kernel) ?_
  show zG w f 4 1 ([some (pR 1 t), some (pI a1), some (pI a2), some (pI a3)], [pR 1 t], (m, n))
  obtain ⟨r2, q1, h⟩ := zr_k h
  refine zcallVI (pc := 1) (As := []) (st := []) (c := 1) (j := t) hF (m_X5_isFull ht q1) w_X5_isFull k_5_66 (by decide +kernel) rfl ht rfl rfl rfl rfl rfl ?_
  refine zif_eq (tgt := 8) (pc := 4) hF (by decide +kernel) (fun b3 => ?_) (fun b3 => ?_)
  · replace h := zit b3 h
    obtain ⟨c4, h⟩ := zchk h
    refine zrun hF [(.aload_n 0, 1, pI 0), (.getfield 9, 3, pR 1 0), (.aload_n 0, 1, pI 0), (.getfield 31, 3, pR 1 6), (.iload_n 1, 1, pI 0), (.iastore, 1, pI 0)] 8 _ (by decide +kernel) ?_
    refine (And.intro rfl (And.intro ht (And.intro rfl (And.intro ht (And.intro rfl (And.intro ht (And.intro c4 ?_)))))))
    refine zlet_k (P := fun (m5 : zMem) => zG w f 4 18 ([some (pR 1 t), some (pI a1), some (pI a2), some (pI a3)], [], (m5, n))) h (fun m5 h => ?_)
    obtain ⟨c6, h⟩ := zchk h
    refine zrun hF [(.aload_n 0, 1, pI 0), (.getfield 15, 3, pR 1 1), (.aload_n 0, 1, pI 0), (.getfield 31, 3, pR 1 6), (.iload_n 2, 1, pI 0), (.iastore, 1, pI 0)] 18 _ (by decide +kernel) ?_
    refine (And.intro rfl (And.intro ht (And.intro rfl (And.intro ht (And.intro rfl (And.intro ht (And.intro c6 ?_)))))))
    refine zlet_k (P := fun (m7 : zMem) => zG w f 4 28 ([some (pR 1 t), some (pI a1), some (pI a2), some (pI a3)], [], (m7, n))) h (fun m7 h => ?_)
    obtain ⟨c8, h⟩ := zchk h
    refine zrun hF [(.aload_n 0, 1, pI 0), (.getfield 18, 3, pR 1 2), (.aload_n 0, 1, pI 0), (.getfield 31, 3, pR 1 6), (.iload_n 3, 1, pI 0), (.iastore, 1, pI 0)] 28 _ (by decide +kernel) ?_
    refine (And.intro rfl (And.intro ht (And.intro rfl (And.intro ht (And.intro rfl (And.intro ht (And.intro c8 ?_)))))))
    refine zlet_k (P := fun (m9 : zMem) => zG w f 4 38 ([some (pR 1 t), some (pI a1), some (pI a2), some (pI a3)], [], (m9, n))) h (fun m9 h => ?_)
    obtain ⟨c10, h⟩ := zchk h
    refine zrun hF [(.aload_n 0, 1, pI 0), (.getfield 21, 3, pR 1 3), (.aload_n 0, 1, pI 0), (.getfield 31, 3, pR 1 6), (.iconst 0, 1, pI 0), (.iastore, 1, pI 0)] 38 _ (by decide +kernel) ?_
    refine (And.intro rfl (And.intro ht (And.intro rfl (And.intro ht (And.intro rfl (And.intro ht (And.intro c10 ?_)))))))
    refine zlet_k (P := fun (m11 : zMem) => zG w f 4 48 ([some (pR 1 t), some (pI a1), some (pI a2), some (pI a3)], [], (m11, n))) h (fun m11 h => ?_)
    obtain ⟨c12, h⟩ := zchk h
    refine zrun hF [(.aload_n 0, 1, pI 0), (.getfield 24, 3, pR 1 4), (.aload_n 0, 1, pI 0), (.getfield 31, 3, pR 1 6), (.iconst 0, 1, pI 0), (.iastore, 1, pI 0)] 48 _ (by decide +kernel) ?_
    refine (And.intro rfl (And.intro ht (And.intro rfl (And.intro ht (And.intro rfl (And.intro ht (And.intro c12 ?_)))))))
    refine zlet_k (P := fun (m13 : zMem) => zG w f 4 58 ([some (pR 1 t), some (pI a1), some (pI a2), some (pI a3)], [], (m13, n))) h (fun m13 h => ?_)
    refine zrun hF [(.aload_n 0, 1, pI 0), (.dup, 1, pI 0), (.getfield 31, 3, pR 1 6), (.iconst 1, 1, pI 1), (.iadd, 1, pI 0), (.putfield 31, 3, pR 1 6)] 58 _ (by decide +kernel) ?_
    refine (And.intro rfl (And.intro rfl (And.intro ht (And.intro rfl (And.intro ht (And.intro trivial ?_))))))
    refine zlet_k (P := fun (m14 : zMem) => zG w f 4 68 ([some (pR 1 t), some (pI a1), some (pI a2), some (pI a3)], [], (m14, n))) h (fun m14 h => ?_)
    exact zretV (pc := 68) hF hR (by decide +kernel) (congrArg (fun q => (q, n)) (Option.some.inj h))
  · replace h := zif b3 h
    exact zretV (pc := 7) hF hR (by decide +kernel) (congrArg (fun q => (q, n)) (Option.some.inj h))

set_option maxHeartbeats 4000000 in
set_option maxRecDepth 100000 in
theorem m_X6_guest_L31 {w : zWd} {f : zFr} {n : zMem} {x : Int32} {m0 : zMem} {lc : Launch} (hl : f.2.1 = lc) (hF : zFOK w f 6 cX6_guest 4 4) (hR : zFin w f (some .int) (zQI w x (m0, n))) : ∀ (m : zMem), s_X6_guest_L31 m = some (x, m0) → zG w f 4 31 ([some (pR 0 0), none, none, none], [], (m, n)) := by
  intro m h
  unfold s_X6_guest_L31 at h
  refine zrun hF [(.aload_n 0, 1, pI 0), (.bipush (-6), 2, pI (-6))] 31 _ (by decide +kernel) ?_
  show zG w f 4 34 ([some (pR 0 0), none, none, none], [pI (-6), pR 0 0], (m, n))
  obtain ⟨r23, m24, q22, h⟩ := zb_k h
  refine zcallVI (pc := 34) (As := [pI (-6)]) (st := []) (c := 0) (j := 0) hF (m_X6_refuse  q22) w_X6_refuse k_6_73 (by decide +kernel) rfl rfl rfl rfl rfl rfl rfl ?_
  exact zretI (pc := 37) hF hR (by decide +kernel) rfl (congrArg Prod.fst (Option.some.inj h)) (congrArg (fun (q : Int32 × zMem) => (q.2, n)) (Option.some.inj h))

set_option maxHeartbeats 4000000 in
set_option maxRecDepth 100000 in
theorem m_X6_guest {w : zWd} {lc : Launch} {n : zMem} {a1 : Int32} {a2 : Int32} {a3 : Int32} {m : zMem} {x : Int32} {m0 : zMem}  (h : s_X6_guest a1 a2 a3 m = some (x, m0)) : zMet w lc 4 yX6_guest cX6_guest 4 (some .int) [pR 0 0, pI a1, pI a2, pI a3] (m, n) (zQI w x (m0, n)) := by
  refine zmet (o := 6) (by decide +kernel) rfl (Nat.le_of_ble_eq_true rfl) rfl (fun f hl hF hR => ?_)
  unfold s_X6_guest at h
  show zG w f 4 0 ([some (pR 0 0), some (pI a1), some (pI a2), some (pI a3)], [], (m, n))
  refine zrun hF [(.iload_n 1, 1, pI 0)] 0 _ (by decide +kernel) ?_
  show zG w f 4 1 ([some (pR 0 0), some (pI a1), some (pI a2), some (pI a3)], [pI a1], (m, n))
  obtain ⟨r2, q1, h⟩ := zr_k h
  refine zcallSI (pc := 1) (As := [pI a1]) (st := []) hF (m_X6_isKind  q1) w_X6_isKind k_6_122 (by decide +kernel) rfl rfl rfl rfl ?_
  refine zif_ne (tgt := 13) (pc := 4) hF (by decide +kernel) (fun b3 => ?_) (fun b3 => ?_)
  · replace h := zit b3 h
    refine zrun hF [(.aload_n 0, 1, pI 0), (.iconst (-1), 1, pI (-1))] 7 _ (by decide +kernel) ?_
    show zG w f 4 9 ([some (pR 0 0), some (pI a1), some (pI a2), some (pI a3)], [pI (-1), pR 0 0], (m, n))
    obtain ⟨r5, m6, q4, h⟩ := zb_k h
    refine zcallVI (pc := 9) (As := [pI (-1)]) (st := []) (c := 0) (j := 0) hF (m_X6_refuse  q4) w_X6_refuse k_6_73 (by decide +kernel) rfl rfl rfl rfl rfl rfl rfl ?_
    exact zretI (pc := 12) hF hR (by decide +kernel) rfl (congrArg Prod.fst (Option.some.inj h)) (congrArg (fun (q : Int32 × zMem) => (q.2, n)) (Option.some.inj h))
  · replace h := zif b3 h
    refine zrun hF [(.aload_n 0, 1, pI 0), (.getfield 10, 3, pR 0 0), (.iload_n 2, 1, pI 0)] 13 _ (by decide +kernel) ?_
    refine (And.intro rfl (And.intro rfl ?_))
    show zG w f 4 18 ([some (pR 0 0), some (pI a1), some (pI a2), some (pI a3)], [pI a2, pR 1 0], (m, n))
    obtain ⟨r8, q7, h⟩ := zr_k h
    refine zcallVI (pc := 18) (As := [pI a2]) (st := []) (c := 1) (j := 0) hF (m_X5_isFree rfl q7) w_X5_isFree k_6_138 (by decide +kernel) rfl rfl rfl rfl rfl rfl rfl ?_
    refine zif_eq (tgt := 31) (pc := 21) hF (by decide +kernel) (fun b9 => ?_) (fun b9 => ?_)
    · replace h := zit b9 h
      refine zcut [true, false, false, false] ?_
      exact m_X6_guest_L31 hl hF hR  _  h
    · replace h := zif b9 h
      refine zrun hF [(.iload_n 3, 1, pI 0)] 24 _ (by decide +kernel) ?_
      show zG w f 4 25 ([some (pR 0 0), some (pI a1), some (pI a2), some (pI a3)], [pI a3], (m, n))
      obtain ⟨r11, q10, h⟩ := zr_k h
      refine zcallSI (pc := 25) (As := [pI a3]) (st := []) hF (m_X6_isAmount  q10) w_X6_isAmount k_6_141 (by decide +kernel) rfl rfl rfl rfl ?_
      refine zif_ne (tgt := 38) (pc := 28) hF (by decide +kernel) (fun b12 => ?_) (fun b12 => ?_)
      · replace h := zit b12 h
        refine zcut [true, false, false, false] ?_
        exact m_X6_guest_L31 hl hF hR  _  h
      · replace h := zif b12 h
        refine zrun hF [(.aload_n 0, 1, pI 0), (.getfield 10, 3, pR 0 0)] 38 _ (by decide +kernel) ?_
        refine (And.intro rfl (And.intro rfl ?_))
        show zG w f 4 42 ([some (pR 0 0), some (pI a1), some (pI a2), some (pI a3)], [pR 1 0], (m, n))
        obtain ⟨r14, q13, h⟩ := zr_k h
        refine zcallVI (pc := 42) (As := []) (st := []) (c := 1) (j := 0) hF (m_X5_isFull rfl q13) w_X5_isFull k_6_144 (by decide +kernel) rfl rfl rfl rfl rfl rfl rfl ?_
        refine zif_eq (tgt := 55) (pc := 45) hF (by decide +kernel) (fun b15 => ?_) (fun b15 => ?_)
        · replace h := zit b15 h
          refine zrun hF [(.aload_n 0, 1, pI 0), (.getfield 10, 3, pR 0 0), (.iload_n 1, 1, pI 0), (.iload_n 2, 1, pI 0), (.iload_n 3, 1, pI 0)] 55 _ (by decide +kernel) ?_
          refine (And.intro rfl (And.intro rfl ?_))
          show zG w f 4 62 ([some (pR 0 0), some (pI a1), some (pI a2), some (pI a3)], [pI a3, pI a2, pI a1, pR 1 0], (m, n))
          obtain ⟨m18, q16, h⟩ := zr_k h
          refine zcallVV (pc := 62) (As := [pI a1, pI a2, pI a3]) (st := []) (c := 1) (j := 0) hF (m_X5_add rfl q16) w_X5_add k_6_147 (by decide +kernel) rfl rfl rfl rfl rfl rfl rfl ?_
          refine zrun hF [(.aload_n 0, 1, pI 0), (.getfield 10, 3, pR 0 0), (.getfield 132, 3, pR 1 6), (.iconst 1, 1, pI 1), (.isub, 1, pI 0)] 65 _ (by decide +kernel) ?_
          refine (And.intro rfl (And.intro rfl (And.intro rfl (And.intro rfl ?_))))
          show zG w f 4 74 ([some (pR 0 0), some (pI a1), some (pI a2), some (pI a3)], [pI ((m18.1 1 0 6) - 1)], (m18, n))
          exact zretI (pc := 74) hF hR (by decide +kernel) rfl (congrArg Prod.fst (Option.some.inj h)) (congrArg (fun (q : Int32 × zMem) => (q.2, n)) (Option.some.inj h))
        · replace h := zif b15 h
          refine zrun hF [(.aload_n 0, 1, pI 0), (.bipush (-7), 2, pI (-7))] 48 _ (by decide +kernel) ?_
          show zG w f 4 51 ([some (pR 0 0), some (pI a1), some (pI a2), some (pI a3)], [pI (-7), pR 0 0], (m, n))
          obtain ⟨r20, m21, q19, h⟩ := zb_k h
          refine zcallVI (pc := 51) (As := [pI (-7)]) (st := []) (c := 0) (j := 0) hF (m_X6_refuse  q19) w_X6_refuse k_6_73 (by decide +kernel) rfl rfl rfl rfl rfl rfl rfl ?_
          exact zretI (pc := 54) hF hR (by decide +kernel) rfl (congrArg Prod.fst (Option.some.inj h)) (congrArg (fun (q : Int32 × zMem) => (q.2, n)) (Option.some.inj h))

set_option maxHeartbeats 4000000 in
set_option maxRecDepth 100000 in
theorem m_X7_guestAt_L2 {w : zWd} {f : zFr} {n : zMem} {x : Int32} {lc : Launch} {mr : zMem} (hl : f.2.1 = lc) (hF : zFOK w f 7 cX7_guestAt 3 1) (hR : zFin w f (some .int) (zQI w x (n, mr))) : ∀ (k : Nat) (x1 : Int32) (x2 : Int32) (m : zMem), m = mr → s_X7_guestAt_L2 k x1 x2 m = some x → zG w f 3 2 ([some (pR 64 0), some (pI x1), some (pI x2)], [], (n, m)) := by
  intro k
  induction k with
  | zero => intro x1 x2 m hm h; exact zno h
  | succ k ih =>
    intro x1 x2 m hm h
    unfold s_X7_guestAt_L2 at h
    refine zrun hF [(.iload_n 2, 1, pI 0), (.aload_n 0, 1, pI 0), (.getfield 93, 3, pR 64 0)] 2 _ (by decide +kernel) ?_
    refine (And.intro rfl (And.intro rfl ?_))
    show zG w f 3 7 ([some (pR 64 0), some (pI x1), some (pI x2)], [pI (m.1 64 0 0), pI x2], (n, m))
    refine zicmp_ge (tgt := 28) (pc := 7) hF (by decide +kernel) (fun b1 => ?_) (fun b1 => ?_)
    · replace h := zit b1 h
      refine zrun hF [(.iconst (-1), 1, pI (-1))] 28 _ (by decide +kernel) ?_
      show zG w f 3 29 ([some (pR 64 0), some (pI x1), some (pI x2)], [pI (-1)], (n, m))
      exact zretI (pc := 29) hF hR (by decide +kernel) rfl (Option.some.inj h) (congrArg (fun q => (n, q)) hm)
    · replace h := zif b1 h
      obtain ⟨c2, h⟩ := zchk h
      refine zrun hF [(.aload_n 0, 1, pI 0), (.getfield 29, 3, pR 64 10), (.iload_n 2, 1, pI 0), (.iaload, 1, pI 0), (.iload_n 1, 1, pI 0)] 10 _ (by decide +kernel) ?_
      refine (And.intro rfl (And.intro rfl (And.intro rfl (And.intro rfl (And.intro c2 ?_)))))
      show zG w f 3 17 ([some (pR 64 0), some (pI x1), some (pI x2)], [pI x1, pI (m.1 68 0 (ix x2))], (n, m))
      refine zicmp_ne (tgt := 22) (pc := 17) hF (by decide +kernel) (fun b3 => ?_) (fun b3 => ?_)
      · replace h := zit b3 h
        refine zrun hF [(.iload_n 2, 1, pI 0)] 20 _ (by decide +kernel) ?_
        show zG w f 3 21 ([some (pR 64 0), some (pI x1), some (pI x2)], [pI x2], (n, m))
        exact zretI (pc := 21) hF hR (by decide +kernel) rfl (Option.some.inj h) (congrArg (fun q => (n, q)) hm)
      · replace h := zif b3 h
        refine zrun hF [(.iinc 2 1, 3, pI 1)] 22 _ (by decide +kernel) ?_
        refine (And.intro rfl ?_)
        show zG w f 3 25 ([some (pR 64 0), some (pI x1), some (pI (x2 + 1))], [], (n, m))
        refine zgoto (tgt := 2) (pc := 25) hF (by decide +kernel) ?_
        exact ih _ _ _  hm h

set_option maxHeartbeats 4000000 in
set_option maxRecDepth 100000 in
theorem m_X7_guestAt {w : zWd} {lc : Launch} {n : zMem} {a1 : Int32} {m : zMem} {x : Int32}  (h : s_X7_guestAt a1 m = some x) : zMet w lc 1 yX7_guestAt cX7_guestAt 3 (some .int) [pR 64 0, pI a1] (n, m) (zQI w x (n, m)) := by
  refine zmet (o := 7) (by decide +kernel) rfl (Nat.le_of_ble_eq_true rfl) rfl (fun f hl hF hR => ?_)
  unfold s_X7_guestAt at h
  show zG w f 3 0 ([some (pR 64 0), some (pI a1), none], [], (n, m))
  refine zrun hF [(.iconst 0, 1, pI 0), (.istore_n 2, 1, pI 0)] 0 _ (by decide +kernel) ?_
  refine (And.intro rfl ?_)
  show zG w f 3 2 ([some (pR 64 0), some (pI a1), some (pI 0)], [], (n, m))
  exact m_X7_guestAt_L2 hl hF hR  zF _ _ _  rfl h

set_option maxHeartbeats 4000000 in
set_option maxRecDepth 100000 in
theorem m_X7_isFree {w : zWd} {lc : Launch} {n : zMem} {a1 : Int32} {m : zMem} {x : Int32}  (h : s_X7_isFree a1 m = some x) : zMet w lc 2 yX7_isFree cX7_isFree 2 (some .boolean) [pR 64 0, pI a1] (n, m) (zQI w x (n, m)) := by
  refine zmet (o := 7) (by decide +kernel) rfl (Nat.le_of_ble_eq_true rfl) rfl (fun f hl hF hR => ?_)
  unfold s_X7_isFree at h
  show zG w f 2 0 ([some (pR 64 0), some (pI a1)], [], (n, m))
  refine zrun hF [(.iload_n 1, 1, pI 0)] 0 _ (by decide +kernel) ?_
  show zG w f 2 1 ([some (pR 64 0), some (pI a1)], [pI a1], (n, m))
  refine zif_lt (tgt := 25) (pc := 1) hF (by decide +kernel) (fun b1 => ?_) (fun b1 => ?_)
  · replace h := zit b1 h
    refine zrun hF [(.iconst 0, 1, pI 0)] 25 _ (by decide +kernel) ?_
    show zG w f 2 26 ([some (pR 64 0), some (pI a1)], [pI 0], (n, m))
    exact zretI (pc := 26) hF hR (by decide +kernel) (by decide +kernel) (Option.some.inj h) rfl
  · replace h := zif b1 h
    refine zrun hF [(.iload_n 1, 1, pI 0), (.aload_n 0, 1, pI 0), (.getfield 7, 3, pR 64 1)] 4 _ (by decide +kernel) ?_
    refine (And.intro rfl (And.intro rfl ?_))
    show zG w f 2 9 ([some (pR 64 0), some (pI a1)], [pI (m.1 64 0 1), pI a1], (n, m))
    refine zicmp_ge (tgt := 25) (pc := 9) hF (by decide +kernel) (fun b2 => ?_) (fun b2 => ?_)
    · replace h := zit b2 h
      refine zrun hF [(.iconst 0, 1, pI 0)] 25 _ (by decide +kernel) ?_
      show zG w f 2 26 ([some (pR 64 0), some (pI a1)], [pI 0], (n, m))
      exact zretI (pc := 26) hF hR (by decide +kernel) (by decide +kernel) (Option.some.inj h) rfl
    · replace h := zif b2 h
      refine zrun hF [(.aload_n 0, 1, pI 0), (.iload_n 1, 1, pI 0)] 12 _ (by decide +kernel) ?_
      show zG w f 2 14 ([some (pR 64 0), some (pI a1)], [pI a1, pR 64 0], (n, m))
      obtain ⟨r4, q3, h⟩ := zr_k h
      refine zcallVI (pc := 14) (As := [pI a1]) (st := []) (c := 64) (j := 0) hF (m_X7_guestAt  q3) w_X7_guestAt k_7_120 (by decide +kernel) rfl rfl rfl rfl rfl rfl rfl ?_
      refine zrun hF [(.iconst (-1), 1, pI (-1))] 17 _ (by decide +kernel) ?_
      show zG w f 2 18 ([some (pR 64 0), some (pI a1)], [pI (-1), pI r4], (n, m))
      refine zicmp_ne (tgt := 25) (pc := 18) hF (by decide +kernel) (fun b5 => ?_) (fun b5 => ?_)
      · replace h := zit b5 h
        refine zrun hF [(.iconst 1, 1, pI 1)] 21 _ (by decide +kernel) ?_
        show zG w f 2 22 ([some (pR 64 0), some (pI a1)], [pI 1], (n, m))
        refine zgoto (tgt := 26) (pc := 22) hF (by decide +kernel) ?_
        exact zretI (pc := 26) hF hR (by decide +kernel) (by decide +kernel) (Option.some.inj h) rfl
      · replace h := zif b5 h
        refine zrun hF [(.iconst 0, 1, pI 0)] 25 _ (by decide +kernel) ?_
        show zG w f 2 26 ([some (pR 64 0), some (pI a1)], [pI 0], (n, m))
        exact zretI (pc := 26) hF hR (by decide +kernel) (by decide +kernel) (Option.some.inj h) rfl

set_option maxHeartbeats 4000000 in
set_option maxRecDepth 100000 in
theorem m_X7_adds {w : zWd} {lc : Launch} {n : zMem} {a1 : Int32} {a2 : Int32} {a3 : Int32} {m : zMem} {x : Int32} {m0 : zMem}  (h : s_X7_adds a1 a2 a3 m = some (x, m0)) : zMet w lc 1 yX7_adds cX7_adds 4 (some .int) [pR 64 0, pI a1, pI a2, pI a3] (n, m) (zQI w x (n, m0)) := by
  refine zmet (o := 7) (by decide +kernel) rfl (Nat.le_of_ble_eq_true rfl) rfl (fun f hl hF hR => ?_)
  unfold s_X7_adds at h
  show zG w f 4 0 ([some (pR 64 0), some (pI a1), some (pI a2), some (pI a3)], [], (n, m))
  obtain ⟨c1, h⟩ := zchk h
  refine zrun hF [(.aload_n 0, 1, pI 0), (.getfield 23, 3, pR 64 8), (.aload_n 0, 1, pI 0), (.getfield 93, 3, pR 64 0), (.iload_n 1, 1, pI 0), (.iastore, 1, pI 0)] 0 _ (by decide +kernel) ?_
  refine (And.intro rfl (And.intro rfl (And.intro rfl (And.intro rfl (And.intro rfl (And.intro rfl (And.intro c1 ?_)))))))
  refine zlet_k (P := fun (m2 : zMem) => zG w f 4 10 ([some (pR 64 0), some (pI a1), some (pI a2), some (pI a3)], [], (n, m2))) h (fun m2 h => ?_)
  obtain ⟨c3, h⟩ := zchk h
  refine zrun hF [(.aload_n 0, 1, pI 0), (.getfield 29, 3, pR 64 10), (.aload_n 0, 1, pI 0), (.getfield 93, 3, pR 64 0), (.iload_n 2, 1, pI 0), (.iastore, 1, pI 0)] 10 _ (by decide +kernel) ?_
  refine (And.intro rfl (And.intro rfl (And.intro rfl (And.intro rfl (And.intro rfl (And.intro rfl (And.intro c3 ?_)))))))
  refine zlet_k (P := fun (m4 : zMem) => zG w f 4 20 ([some (pR 64 0), some (pI a1), some (pI a2), some (pI a3)], [], (n, m4))) h (fun m4 h => ?_)
  obtain ⟨c5, h⟩ := zchk h
  refine zrun hF [(.aload_n 0, 1, pI 0), (.getfield 26, 3, pR 64 9), (.aload_n 0, 1, pI 0), (.getfield 93, 3, pR 64 0), (.iload_n 3, 1, pI 0), (.iastore, 1, pI 0)] 20 _ (by decide +kernel) ?_
  refine (And.intro rfl (And.intro rfl (And.intro rfl (And.intro rfl (And.intro rfl (And.intro rfl (And.intro c5 ?_)))))))
  refine zlet_k (P := fun (m6 : zMem) => zG w f 4 30 ([some (pR 64 0), some (pI a1), some (pI a2), some (pI a3)], [], (n, m6))) h (fun m6 h => ?_)
  obtain ⟨c7, h⟩ := zchk h
  refine zrun hF [(.aload_n 0, 1, pI 0), (.getfield 32, 3, pR 64 11), (.aload_n 0, 1, pI 0), (.getfield 93, 3, pR 64 0), (.iconst 0, 1, pI 0), (.iastore, 1, pI 0)] 30 _ (by decide +kernel) ?_
  refine (And.intro rfl (And.intro rfl (And.intro rfl (And.intro rfl (And.intro rfl (And.intro rfl (And.intro c7 ?_)))))))
  refine zlet_k (P := fun (m8 : zMem) => zG w f 4 40 ([some (pR 64 0), some (pI a1), some (pI a2), some (pI a3)], [], (n, m8))) h (fun m8 h => ?_)
  obtain ⟨c9, h⟩ := zchk h
  refine zrun hF [(.aload_n 0, 1, pI 0), (.getfield 35, 3, pR 64 12), (.aload_n 0, 1, pI 0), (.getfield 93, 3, pR 64 0), (.iconst 0, 1, pI 0), (.iastore, 1, pI 0)] 40 _ (by decide +kernel) ?_
  refine (And.intro rfl (And.intro rfl (And.intro rfl (And.intro rfl (And.intro rfl (And.intro rfl (And.intro c9 ?_)))))))
  refine zlet_k (P := fun (m10 : zMem) => zG w f 4 50 ([some (pR 64 0), some (pI a1), some (pI a2), some (pI a3)], [], (n, m10))) h (fun m10 h => ?_)
  refine zrun hF [(.aload_n 0, 1, pI 0), (.dup, 1, pI 0), (.getfield 93, 3, pR 64 0), (.dup_x1, 1, pI 0), (.iconst 1, 1, pI 1), (.iadd, 1, pI 0), (.putfield 93, 3, pR 64 0)] 50 _ (by decide +kernel) ?_
  refine (And.intro rfl (And.intro rfl (And.intro rfl (And.intro rfl (And.intro rfl (And.intro rfl (And.intro trivial ?_)))))))
  refine zlet_k (P := fun (m11 : zMem) => zG w f 4 61 ([some (pR 64 0), some (pI a1), some (pI a2), some (pI a3)], [pI (m10.1 64 0 0)], (n, m11))) h (fun m11 h => ?_)
  exact zretI (pc := 61) hF hR (by decide +kernel) rfl (congrArg Prod.fst (Option.some.inj h)) (congrArg (fun (q : Int32 × zMem) => (n, q.2)) (Option.some.inj h))

set_option maxHeartbeats 4000000 in
set_option maxRecDepth 100000 in
theorem m_X7_guest_L10 {w : zWd} {f : zFr} {n : zMem} {x : Int32} {m0 : zMem} {lc : Launch} (hl : f.2.1 = lc) (hF : zFOK w f 7 cX7_guest 4 3) (hR : zFin w f (some .int) (zQI w x (n, m0))) : ∀ (m : zMem), s_X7_guest_L10 m = some (x, m0) → zG w f 4 10 ([some (pR 64 0), none, none, none], [], (n, m)) := by
  intro m h
  unfold s_X7_guest_L10 at h
  refine zrun hF [(.aload_n 0, 1, pI 0), (.iconst (-1), 1, pI (-1))] 10 _ (by decide +kernel) ?_
  show zG w f 4 12 ([some (pR 64 0), none, none, none], [pI (-1), pR 64 0], (n, m))
  obtain ⟨r16, m17, q15, h⟩ := zb_k h
  refine zcallVI (pc := 12) (As := [pI (-1)]) (st := []) (c := 64) (j := 0) hF (m_X7_no  q15) w_X7_no k_7_100 (by decide +kernel) rfl rfl rfl rfl rfl rfl rfl ?_
  exact zretI (pc := 15) hF hR (by decide +kernel) rfl (congrArg Prod.fst (Option.some.inj h)) (congrArg (fun (q : Int32 × zMem) => (n, q.2)) (Option.some.inj h))

set_option maxHeartbeats 4000000 in
set_option maxRecDepth 100000 in
theorem m_X7_guest_L34 {w : zWd} {f : zFr} {n : zMem} {x : Int32} {m0 : zMem} {lc : Launch} (hl : f.2.1 = lc) (hF : zFOK w f 7 cX7_guest 4 3) (hR : zFin w f (some .int) (zQI w x (n, m0))) : ∀ (m : zMem), s_X7_guest_L34 m = some (x, m0) → zG w f 4 34 ([some (pR 64 0), none, none, none], [], (n, m)) := by
  intro m h
  unfold s_X7_guest_L34 at h
  refine zrun hF [(.aload_n 0, 1, pI 0), (.bipush (-6), 2, pI (-6))] 34 _ (by decide +kernel) ?_
  show zG w f 4 37 ([some (pR 64 0), none, none, none], [pI (-6), pR 64 0], (n, m))
  obtain ⟨r19, m20, q18, h⟩ := zb_k h
  refine zcallVI (pc := 37) (As := [pI (-6)]) (st := []) (c := 64) (j := 0) hF (m_X7_no  q18) w_X7_no k_7_100 (by decide +kernel) rfl rfl rfl rfl rfl rfl rfl ?_
  exact zretI (pc := 40) hF hR (by decide +kernel) rfl (congrArg Prod.fst (Option.some.inj h)) (congrArg (fun (q : Int32 × zMem) => (n, q.2)) (Option.some.inj h))

set_option maxHeartbeats 4000000 in
set_option maxRecDepth 100000 in
theorem m_X7_guest {w : zWd} {lc : Launch} {n : zMem} {a1 : Int32} {a2 : Int32} {a3 : Int32} {m : zMem} {x : Int32} {m0 : zMem}  (h : s_X7_guest a1 a2 a3 m = some (x, m0)) : zMet w lc 3 yX7_guest cX7_guest 4 (some .int) [pR 64 0, pI a1, pI a2, pI a3] (n, m) (zQI w x (n, m0)) := by
  refine zmet (o := 7) (by decide +kernel) rfl (Nat.le_of_ble_eq_true rfl) rfl (fun f hl hF hR => ?_)
  unfold s_X7_guest at h
  show zG w f 4 0 ([some (pR 64 0), some (pI a1), some (pI a2), some (pI a3)], [], (n, m))
  refine zrun hF [(.iload_n 1, 1, pI 0)] 0 _ (by decide +kernel) ?_
  show zG w f 4 1 ([some (pR 64 0), some (pI a1), some (pI a2), some (pI a3)], [pI a1], (n, m))
  refine zif_lt (tgt := 10) (pc := 1) hF (by decide +kernel) (fun b1 => ?_) (fun b1 => ?_)
  · replace h := zit b1 h
    refine zcut [true, false, false, false] ?_
    exact m_X7_guest_L10 hl hF hR  _  h
  · replace h := zif b1 h
    refine zrun hF [(.iload_n 1, 1, pI 0), (.bipush 6, 2, pI 6)] 4 _ (by decide +kernel) ?_
    show zG w f 4 7 ([some (pR 64 0), some (pI a1), some (pI a2), some (pI a3)], [pI 6, pI a1], (n, m))
    refine zicmp_le (tgt := 16) (pc := 7) hF (by decide +kernel) (fun b2 => ?_) (fun b2 => ?_)
    · replace h := zit b2 h
      refine zrun hF [(.aload_n 0, 1, pI 0), (.iload_n 2, 1, pI 0)] 16 _ (by decide +kernel) ?_
      show zG w f 4 18 ([some (pR 64 0), some (pI a1), some (pI a2), some (pI a3)], [pI a2, pR 64 0], (n, m))
      obtain ⟨r4, q3, h⟩ := zr_k h
      refine zcallVI (pc := 18) (As := [pI a2]) (st := []) (c := 64) (j := 0) hF (m_X7_isFree  q3) w_X7_isFree k_7_123 (by decide +kernel) rfl rfl rfl rfl rfl rfl rfl ?_
      refine zif_eq (tgt := 34) (pc := 21) hF (by decide +kernel) (fun b5 => ?_) (fun b5 => ?_)
      · replace h := zit b5 h
        refine zcut [true, false, false, false] ?_
        exact m_X7_guest_L34 hl hF hR  _  h
      · replace h := zif b5 h
        refine zrun hF [(.iload_n 3, 1, pI 0)] 24 _ (by decide +kernel) ?_
        show zG w f 4 25 ([some (pR 64 0), some (pI a1), some (pI a2), some (pI a3)], [pI a3], (n, m))
        refine zif_lt (tgt := 34) (pc := 25) hF (by decide +kernel) (fun b6 => ?_) (fun b6 => ?_)
        · replace h := zit b6 h
          refine zcut [true, false, false, false] ?_
          exact m_X7_guest_L34 hl hF hR  _  h
        · replace h := zif b6 h
          refine zrun hF [(.iload_n 3, 1, pI 0), (.bipush 9, 2, pI 9)] 28 _ (by decide +kernel) ?_
          show zG w f 4 31 ([some (pR 64 0), some (pI a1), some (pI a2), some (pI a3)], [pI 9, pI a3], (n, m))
          refine zicmp_le (tgt := 41) (pc := 31) hF (by decide +kernel) (fun b7 => ?_) (fun b7 => ?_)
          · replace h := zit b7 h
            refine zrun hF [(.aload_n 0, 1, pI 0), (.getfield 93, 3, pR 64 0), (.bipush 10, 2, pI 10)] 41 _ (by decide +kernel) ?_
            refine (And.intro rfl (And.intro rfl ?_))
            show zG w f 4 47 ([some (pR 64 0), some (pI a1), some (pI a2), some (pI a3)], [pI 10, pI (m.1 64 0 0)], (n, m))
            refine zicmp_ne (tgt := 59) (pc := 47) hF (by decide +kernel) (fun b8 => ?_) (fun b8 => ?_)
            · replace h := zit b8 h
              refine zrun hF [(.aload_n 0, 1, pI 0), (.bipush (-7), 2, pI (-7))] 50 _ (by decide +kernel) ?_
              show zG w f 4 53 ([some (pR 64 0), some (pI a1), some (pI a2), some (pI a3)], [pI (-7), pR 64 0], (n, m))
              obtain ⟨r10, m11, q9, h⟩ := zb_k h
              refine zcallVI (pc := 53) (As := [pI (-7)]) (st := []) (c := 64) (j := 0) hF (m_X7_no  q9) w_X7_no k_7_100 (by decide +kernel) rfl rfl rfl rfl rfl rfl rfl ?_
              refine zgoto (tgt := 66) (pc := 56) hF (by decide +kernel) ?_
              exact zretI (pc := 66) hF hR (by decide +kernel) rfl (congrArg Prod.fst (Option.some.inj h)) (congrArg (fun (q : Int32 × zMem) => (n, q.2)) (Option.some.inj h))
            · replace h := zif b8 h
              refine zrun hF [(.aload_n 0, 1, pI 0), (.iload_n 1, 1, pI 0), (.iload_n 2, 1, pI 0), (.iload_n 3, 1, pI 0)] 59 _ (by decide +kernel) ?_
              show zG w f 4 63 ([some (pR 64 0), some (pI a1), some (pI a2), some (pI a3)], [pI a3, pI a2, pI a1, pR 64 0], (n, m))
              obtain ⟨r13, m14, q12, h⟩ := zb_k h
              refine zcallVI (pc := 63) (As := [pI a1, pI a2, pI a3]) (st := []) (c := 64) (j := 0) hF (m_X7_adds  q12) w_X7_adds k_7_126 (by decide +kernel) rfl rfl rfl rfl rfl rfl rfl ?_
              exact zretI (pc := 66) hF hR (by decide +kernel) rfl (congrArg Prod.fst (Option.some.inj h)) (congrArg (fun (q : Int32 × zMem) => (n, q.2)) (Option.some.inj h))
          · replace h := zif b7 h
            refine zcut [true, false, false, false] ?_
            exact m_X7_guest_L34 hl hF hR  _  h
    · replace h := zif b2 h
      refine zcut [true, false, false, false] ?_
      exact m_X7_guest_L10 hl hF hR  _  h

