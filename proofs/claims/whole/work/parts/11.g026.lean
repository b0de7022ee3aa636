set_option maxHeartbeats 4000000 in
set_option maxRecDepth 100000 in
theorem m_X7_leaves_L26 {w : zWd} {f : zFr} {n : zMem} {x : Int32} {m0 : zMem} {lc : Launch} (hl : f.2.1 = lc) (hF : zFOK w f 7 cX7_leaves 2 2) (hR : zFin w f (some .int) (zQI w x (n, m0))) : ∀ (k : Nat) (x1 : Int32) (m : zMem), s_X7_leaves_L26 k x1 m = some (x, m0) → zG w f 2 26 ([some (pR 64 0), some (pI x1)], [], (n, m)) := by
  intro k
  induction k with
  | zero => intro x1 m h; exact zno h
  | succ k ih =>
    intro x1 m h
    unfold s_X7_leaves_L26 at h
    refine zrun hF [(.iload_n 1, 1, pI 0), (.aload_n 0, 1, pI 0), (.getfield 93, 3, pR 64 0)] 26 _ (by decide +kernel) ?_
    refine (And.intro rfl (And.intro rfl ?_))
    show zG w f 2 31 ([some (pR 64 0), some (pI x1)], [pI (m.1 64 0 0), pI x1], (n, m))
    refine zicmp_ge (tgt := 74) (pc := 31) hF (by decide +kernel) (fun b6 => ?_) (fun b6 => ?_)
    · replace h := zit b6 h
      refine zrun hF [(.aload_n 0, 1, pI 0)] 74 _ (by decide +kernel) ?_
      show zG w f 2 75 ([some (pR 64 0), some (pI x1)], [pR 64 0], (n, m))
      obtain ⟨m9, q7, h⟩ := zr_k h
      refine zcallVV (pc := 75) (As := []) (st := []) (c := 64) (j := 0) hF (m_X7_shelvesFall  q7) w_X7_shelvesFall k_7_289 (by decide +kernel) rfl rfl rfl rfl rfl rfl rfl ?_
      refine zrun hF [(.aload_n 0, 1, pI 0), (.getfield 93, 3, pR 64 0)] 78 _ (by decide +kernel) ?_
      refine (And.intro rfl (And.intro rfl ?_))
      show zG w f 2 82 ([some (pR 64 0), some (pI x1)], [pI (m9.1 64 0 0)], (n, m9))
      exact zretI (pc := 82) hF hR (by decide +kernel) rfl (congrArg Prod.fst (Option.some.inj h)) (congrArg (fun (q : Int32 × zMem) => (n, q.2)) (Option.some.inj h))
    · replace h := zif b6 h
      obtain ⟨c10, h⟩ := zchk h
      refine zrun hF [(.aload_n 0, 1, pI 0), (.getfield 32, 3, pR 64 11), (.iload_n 1, 1, pI 0), (.dup2, 1, pI 0), (.iaload, 1, pI 0), (.iconst 1, 1, pI 1), (.aload_n 0, 1, pI 0), (.getfield 93, 3, pR 64 0), (.ishl, 1, pI 0), (.iconst (-1), 1, pI (-1)), (.ixor, 1, pI 0), (.iand, 1, pI 0), (.iastore, 1, pI 0)] 34 _ (by decide +kernel) ?_
      refine (And.intro rfl (And.intro rfl (And.intro rfl (And.intro rfl (And.intro rfl (And.intro c10 (And.intro rfl (And.intro rfl (And.intro rfl (And.intro rfl (And.intro c10 ?_)))))))))))
      refine zlet_k (P := fun (m11 : zMem) => zG w f 2 51 ([some (pR 64 0), some (pI x1)], [], (n, m11))) h (fun m11 h => ?_)
      refine zrun hF [(.aload_n 0, 1, pI 0), (.getfield 35, 3, pR 64 12), (.iload_n 1, 1, pI 0), (.dup2, 1, pI 0), (.iaload, 1, pI 0), (.iconst 1, 1, pI 1), (.aload_n 0, 1, pI 0), (.getfield 93, 3, pR 64 0), (.ishl, 1, pI 0), (.iconst (-1), 1, pI (-1)), (.ixor, 1, pI 0), (.iand, 1, pI 0), (.iastore, 1, pI 0)] 51 _ (by decide +kernel) ?_
      refine (And.intro rfl (And.intro rfl (And.intro rfl (And.intro rfl (And.intro rfl (And.intro c10 (And.intro rfl (And.intro rfl (And.intro rfl (And.intro rfl (And.intro c10 ?_)))))))))))
      refine zlet_k (P := fun (m12 : zMem) => zG w f 2 68 ([some (pR 64 0), some (pI x1)], [], (n, m12))) h (fun m12 h => ?_)
      refine zrun hF [(.iinc 1 1, 3, pI 1)] 68 _ (by decide +kernel) ?_
      refine (And.intro rfl ?_)
      show zG w f 2 71 ([some (pR 64 0), some (pI (x1 + 1))], [], (n, m12))
      refine zgoto (tgt := 26) (pc := 71) hF (by decide +kernel) ?_
      exact ih _ _  h

set_option maxHeartbeats 4000000 in
set_option maxRecDepth 100000 in
theorem m_X7_leaves {w : zWd} {lc : Launch} {n : zMem}  {m : zMem} {x : Int32} {m0 : zMem}  (h : s_X7_leaves m = some (x, m0)) : zMet w lc 2 yX7_leaves cX7_leaves 2 (some .int) [pR 64 0] (n, m) (zQI w x (n, m0)) := by
  refine zmet (o := 7) (by decide +kernel) rfl (Nat.le_of_ble_eq_true rfl) rfl (fun f hl hF hR => ?_)
  unfold s_X7_leaves at h
  show zG w f 2 0 ([some (pR 64 0), none], [], (n, m))
  refine zrun hF [(.aload_n 0, 1, pI 0), (.getfield 93, 3, pR 64 0)] 0 _ (by decide +kernel) ?_
  refine (And.intro rfl (And.intro rfl ?_))
  show zG w f 2 4 ([some (pR 64 0), none], [pI (m.1 64 0 0)], (n, m))
  refine zif_ne (tgt := 14) (pc := 4) hF (by decide +kernel) (fun b1 => ?_) (fun b1 => ?_)
  · replace h := zit b1 h
    refine zrun hF [(.aload_n 0, 1, pI 0), (.bipush (-6), 2, pI (-6))] 7 _ (by decide +kernel) ?_
    show zG w f 2 10 ([some (pR 64 0), none], [pI (-6), pR 64 0], (n, m))
    obtain ⟨r3, m4, q2, h⟩ := zb_k h
    refine zcallVI (pc := 10) (As := [pI (-6)]) (st := []) (c := 64) (j := 0) hF (m_X7_no  q2) w_X7_no k_7_100 (by decide +kernel) rfl rfl rfl rfl rfl rfl rfl ?_
    exact zretI (pc := 13) hF hR (by decide +kernel) rfl (congrArg Prod.fst (Option.some.inj h)) (congrArg (fun (q : Int32 × zMem) => (n, q.2)) (Option.some.inj h))
  · replace h := zif b1 h
    refine zrun hF [(.aload_n 0, 1, pI 0), (.dup, 1, pI 0), (.getfield 93, 3, pR 64 0), (.iconst 1, 1, pI 1), (.isub, 1, pI 0), (.putfield 93, 3, pR 64 0)] 14 _ (by decide +kernel) ?_
    refine (And.intro rfl (And.intro rfl (And.intro rfl (And.intro rfl (And.intro rfl (And.intro trivial ?_))))))
    refine zlet_k (P := fun (m5 : zMem) => zG w f 2 24 ([some (pR 64 0), none], [], (n, m5))) h (fun m5 h => ?_)
    refine zrun hF [(.iconst 0, 1, pI 0), (.istore_n 1, 1, pI 0)] 24 _ (by decide +kernel) ?_
    refine (And.intro rfl ?_)
    show zG w f 2 26 ([some (pR 64 0), some (pI 0)], [], (n, m5))
    exact m_X7_leaves_L26 hl hF hR  zF _ _  h

set_option maxHeartbeats 4000000 in
set_option maxRecDepth 100000 in
theorem m_X5_drawBelow {w : zWd} {lc : Launch} {n : zMem} {t : Nat} {a1 : Int32} {m : zMem} {x : Int32} {m0 : zMem} (ht : Nat.blt t 3 = true) (h : s_X5_drawBelow t a1 m = some (x, m0)) : zMet w lc 1 yX5_drawBelow cX5_drawBelow 2 (some .int) [pR 1 t, pI a1] (m, n) (zQI w x (m0, n)) := by
  refine zmet (o := 5) (by decide +kernel) rfl (Nat.le_of_ble_eq_true rfl) rfl (fun f hl hF hR => ?_)
  unfold s_X5_drawBelow at h
  show zG w f 2 0 ([some (pR 1 t), some (pI a1)], [], (m, n))
  refine zrun hF [(.aload_n 0, 1, pI 0), (.aload_n 0, 1, pI 0), (.getfield 43, 3, pR 1 10), (.ldc 121, 2, pI 1103515245), (.imul, 1, pI 0), (.sipush 12345, 3, pI 12345), (.iadd, 1, pI 0), (.putfield 43, 3, pR 1 10)] 0 _ (by decide +kernel) ?_
  refine (And.intro rfl (And.intro ht (And.intro rfl (And.intro ht (And.intro trivial ?_)))))
  refine zlet_k (P := fun (m1 : zMem) => zG w f 2 15 ([some (pR 1 t), some (pI a1)], [], (m1, n))) h (fun m1 h => ?_)
  refine zrun hF [(.iload_n 1, 1, pI 0)] 15 _ (by decide +kernel) ?_
  show zG w f 2 16 ([some (pR 1 t), some (pI a1)], [pI a1], (m1, n))
  refine zif_le (tgt := 31) (pc := 16) hF (by decide +kernel) (fun b2 => ?_) (fun b2 => ?_)
  · replace h := zit b2 h
    refine zrun hF [(.iconst 0, 1, pI 0)] 31 _ (by decide +kernel) ?_
    show zG w f 2 32 ([some (pR 1 t), some (pI a1)], [pI 0], (m1, n))
    exact zretI (pc := 32) hF hR (by decide +kernel) rfl (congrArg Prod.fst (Option.some.inj h)) (congrArg (fun (q : Int32 × zMem) => (q.2, n)) (Option.some.inj h))
  · replace h := zif b2 h
    obtain ⟨c3, h⟩ := znz_k h
    refine zrun hF [(.aload_n 0, 1, pI 0), (.getfield 43, 3, pR 1 10), (.bipush 16, 2, pI 16), (.iushr, 1, pI 0), (.iload_n 1, 1, pI 0), (.irem, 1, pI 0)] 19 _ (by decide +kernel) ?_
    refine (And.intro rfl (And.intro ht (And.intro c3 ?_)))
    show zG w f 2 28 ([some (pR 1 t), some (pI a1)], [pI (jrem (jushr (m1.1 1 t 10) 16) a1)], (m1, n))
    refine zgoto (tgt := 32) (pc := 28) hF (by decide +kernel) ?_
    exact zretI (pc := 32) hF hR (by decide +kernel) rfl (congrArg Prod.fst (Option.some.inj h)) (congrArg (fun (q : Int32 × zMem) => (q.2, n)) (Option.some.inj h))

set_option maxHeartbeats 4000000 in
set_option maxRecDepth 100000 in
theorem m_X6_feastOnce {w : zWd} {lc : Launch} {n : zMem}  {m : zMem} {m0 : zMem}  (h : s_X6_feastOnce m = some m0) : zMet w lc 5 yX6_feastOnce cX6_feastOnce 3 none [pR 0 0] (m, n) (zQV w (m0, n)) := by
  refine zmet (o := 6) (by decide +kernel) rfl (Nat.le_of_ble_eq_true rfl) rfl (fun f hl hF hR => ?_)
  unfold s_X6_feastOnce at h
  show zG w f 3 0 ([some (pR 0 0), none, none], [], (m, n))
  refine zrun hF [(.aload_n 0, 1, pI 0), (.getfield 10, 3, pR 0 0), (.aload_n 0, 1, pI 0), (.getfield 10, 3, pR 0 0), (.getfield 132, 3, pR 1 6)] 0 _ (by decide +kernel) ?_
  refine (And.intro rfl (And.intro rfl (And.intro rfl (And.intro rfl (And.intro rfl (And.intro rfl ?_))))))
  show zG w f 3 11 ([some (pR 0 0), none, none], [pI (m.1 1 0 6), pR 1 0], (m, n))
  obtain ⟨r2, m3, q1, h⟩ := zb_k h
  refine zcallVI (pc := 11) (As := [pI (m.1 1 0 6)]) (st := []) (c := 1) (j := 0) hF (m_X5_drawBelow rfl q1) w_X5_drawBelow k_6_385 (by decide +kernel) rfl rfl rfl rfl rfl rfl rfl ?_
  refine zrun hF [(.istore_n 1, 1, pI 0), (.aload_n 0, 1, pI 0), (.getfield 10, 3, pR 0 0), (.aload_n 0, 1, pI 0), (.getfield 10, 3, pR 0 0), (.getfield 132, 3, pR 1 6)] 14 _ (by decide +kernel) ?_
  refine (And.intro rfl (And.intro rfl (And.intro rfl (And.intro rfl (And.intro rfl (And.intro rfl (And.intro rfl ?_)))))))
  show zG w f 3 26 ([some (pR 0 0), some (pI r2), none], [pI (m3.1 1 0 6), pR 1 0], (m3, n))
  obtain ⟨r5, m6, q4, h⟩ := zb_k h
  refine zcallVI (pc := 26) (As := [pI (m3.1 1 0 6)]) (st := []) (c := 1) (j := 0) hF (m_X5_drawBelow rfl q4) w_X5_drawBelow k_6_385 (by decide +kernel) rfl rfl rfl rfl rfl rfl rfl ?_
  refine zrun hF [(.istore_n 2, 1, pI 0), (.iload_n 1, 1, pI 0), (.iload_n 2, 1, pI 0)] 29 _ (by decide +kernel) ?_
  refine (And.intro rfl ?_)
  show zG w f 3 32 ([some (pR 0 0), some (pI r2), some (pI r5)], [pI r5, pI r2], (m6, n))
  refine zicmp_ne (tgt := 36) (pc := 32) hF (by decide +kernel) (fun b7 => ?_) (fun b7 => ?_)
  · replace h := zit b7 h
    exact zretV (pc := 35) hF hR (by decide +kernel) (congrArg (fun q => (q, n)) (Option.some.inj h))
  · replace h := zif b7 h
    refine zrun hF [(.aload_n 0, 1, pI 0), (.getfield 10, 3, pR 0 0), (.iload_n 1, 1, pI 0), (.iload_n 2, 1, pI 0)] 36 _ (by decide +kernel) ?_
    refine (And.intro rfl (And.intro rfl ?_))
    show zG w f 3 42 ([some (pR 0 0), some (pI r2), some (pI r5)], [pI r5, pI r2, pR 1 0], (m6, n))
    obtain ⟨r9, q8, h⟩ := zr_k h
    refine zcallVI (pc := 42) (As := [pI r2, pI r5]) (st := []) (c := 1) (j := 0) hF (m_X5_isWanted rfl q8) w_X5_isWanted k_6_314 (by decide +kernel) rfl rfl rfl rfl rfl rfl rfl ?_
    refine zif_eq (tgt := 60) (pc := 45) hF (by decide +kernel) (fun b10 => ?_) (fun b10 => ?_)
    · replace h := zit b10 h
      refine zrun hF [(.aload_n 0, 1, pI 0), (.getfield 10, 3, pR 0 0), (.iload_n 1, 1, pI 0), (.iload_n 2, 1, pI 0)] 60 _ (by decide +kernel) ?_
      refine (And.intro rfl (And.intro rfl ?_))
      show zG w f 3 66 ([some (pR 0 0), some (pI r2), some (pI r5)], [pI r5, pI r2, pR 1 0], (m6, n))
      obtain ⟨m13, q11, h⟩ := zr_k h
      refine zcallVV (pc := 66) (As := [pI r2, pI r5]) (st := []) (c := 1) (j := 0) hF (m_X5_swap rfl q11) w_X5_swap k_6_260 (by decide +kernel) rfl rfl rfl rfl rfl rfl rfl ?_
      exact zretV (pc := 69) hF hR (by decide +kernel) (congrArg (fun q => (q, n)) (Option.some.inj h))
    · replace h := zif b10 h
      refine zrun hF [(.aload_n 0, 1, pI 0), (.getfield 10, 3, pR 0 0), (.iload_n 1, 1, pI 0), (.iload_n 2, 1, pI 0)] 48 _ (by decide +kernel) ?_
      refine (And.intro rfl (And.intro rfl ?_))
      show zG w f 3 54 ([some (pR 0 0), some (pI r2), some (pI r5)], [pI r5, pI r2, pR 1 0], (m6, n))
      obtain ⟨m16, q14, h⟩ := zr_k h
      refine zcallVV (pc := 54) (As := [pI r2, pI r5]) (st := []) (c := 1) (j := 0) hF (m_X5_clinkAlone rfl q14) w_X5_clinkAlone k_6_317 (by decide +kernel) rfl rfl rfl rfl rfl rfl rfl ?_
      refine zgoto (tgt := 69) (pc := 57) hF (by decide +kernel) ?_
      exact zretV (pc := 69) hF hR (by decide +kernel) (congrArg (fun q => (q, n)) (Option.some.inj h))

set_option maxHeartbeats 4000000 in
set_option maxRecDepth 100000 in
theorem m_X6_feast_L28 {w : zWd} {f : zFr} {n : zMem} {x : Int32} {m0 : zMem} {lc : Launch} (hl : f.2.1 = lc) (hF : zFOK w f 6 cX6_feast 4 6) (hR : zFin w f (some .int) (zQI w x (m0, n))) : ∀ (m : zMem), s_X6_feast_L28 m = some (x, m0) → zG w f 4 28 ([some (pR 0 0), none, none, none], [], (m, n)) := by
  intro m h
  unfold s_X6_feast_L28 at h
  refine zrun hF [(.aload_n 0, 1, pI 0), (.bipush (-6), 2, pI (-6))] 28 _ (by decide +kernel) ?_
  show zG w f 4 31 ([some (pR 0 0), none, none, none], [pI (-6), pR 0 0], (m, n))
  obtain ⟨r8, m9, q7, h⟩ := zb_k h
  refine zcallVI (pc := 31) (As := [pI (-6)]) (st := []) (c := 0) (j := 0) hF (m_X6_refuse  q7) w_X6_refuse k_6_73 (by decide +kernel) rfl rfl rfl rfl rfl rfl rfl ?_
  exact zretI (pc := 34) hF hR (by decide +kernel) rfl (congrArg Prod.fst (Option.some.inj h)) (congrArg (fun (q : Int32 × zMem) => (q.2, n)) (Option.some.inj h))

set_option maxHeartbeats 4000000 in
set_option maxRecDepth 100000 in
theorem m_X6_feast_L45 {w : zWd} {f : zFr} {n : zMem} {x : Int32} {m0 : zMem} {lc : Launch} (hl : f.2.1 = lc) (hF : zFOK w f 6 cX6_feast 4 6) (hR : zFin w f (some .int) (zQI w x (m0, n))) : ∀ (k : Nat) (x1 : Int32) (x2 : Int32) (x3 : Int32) (m : zMem), s_X6_feast_L45 k x1 x2 x3 m = some (x, m0) → zG w f 4 45 ([some (pR 0 0), some (pI x1), some (pI x2), some (pI x3)], [], (m, n)) := by
  intro k
  induction k with
  | zero => intro x1 x2 x3 m h; exact zno h
  | succ k ih =>
    intro x1 x2 x3 m h
    unfold s_X6_feast_L45 at h
    refine zrun hF [(.iload_n 3, 1, pI 0), (.iload_n 1, 1, pI 0)] 45 _ (by decide +kernel) ?_
    show zG w f 4 47 ([some (pR 0 0), some (pI x1), some (pI x2), some (pI x3)], [pI x1, pI x3], (m, n))
    refine zicmp_ge (tgt := 60) (pc := 47) hF (by decide +kernel) (fun b10 => ?_) (fun b10 => ?_)
    · replace h := zit b10 h
      refine zrun hF [(.aload_n 0, 1, pI 0), (.getfield 10, 3, pR 0 0), (.getfield 332, 3, pR 1 8), (.iload_n 2, 1, pI 0), (.isub, 1, pI 0)] 60 _ (by decide +kernel) ?_
      refine (And.intro rfl (And.intro rfl (And.intro rfl (And.intro rfl ?_))))
      show zG w f 4 69 ([some (pR 0 0), some (pI x1), some (pI x2), some (pI x3)], [pI ((m.1 1 0 8) - x2)], (m, n))
      exact zretI (pc := 69) hF hR (by decide +kernel) rfl (congrArg Prod.fst (Option.some.inj h)) (congrArg (fun (q : Int32 × zMem) => (q.2, n)) (Option.some.inj h))
    · replace h := zif b10 h
      refine zrun hF [(.aload_n 0, 1, pI 0)] 50 _ (by decide +kernel) ?_
      show zG w f 4 51 ([some (pR 0 0), some (pI x1), some (pI x2), some (pI x3)], [pR 0 0], (m, n))
      obtain ⟨m13, q11, h⟩ := zr_k h
      refine zcallVV (pc := 51) (As := []) (st := []) (c := 0) (j := 0) hF (m_X6_feastOnce  q11) w_X6_feastOnce k_6_335 (by decide +kernel) rfl rfl rfl rfl rfl rfl rfl ?_
      refine zrun hF [(.iinc 3 1, 3, pI 1)] 54 _ (by decide +kernel) ?_
      refine (And.intro rfl ?_)
      show zG w f 4 57 ([some (pR 0 0), some (pI x1), some (pI x2), some (pI (x3 + 1))], [], (m13, n))
      refine zgoto (tgt := 45) (pc := 57) hF (by decide +kernel) ?_
      exact ih _ _ _ _  h

set_option maxHeartbeats 4000000 in
set_option maxRecDepth 100000 in
theorem m_X6_feast {w : zWd} {lc : Launch} {n : zMem} {a1 : Int32} {m : zMem} {x : Int32} {m0 : zMem}  (h : s_X6_feast a1 m = some (x, m0)) : zMet w lc 6 yX6_feast cX6_feast 4 (some .int) [pR 0 0, pI a1] (m, n) (zQI w x (m0, n)) := by
  refine zmet (o := 6) (by decide +kernel) rfl (Nat.le_of_ble_eq_true rfl) rfl (fun f hl hF hR => ?_)
  unfold s_X6_feast at h
  show zG w f 4 0 ([some (pR 0 0), some (pI a1), none, none], [], (m, n))
  refine zrun hF [(.aload_n 0, 1, pI 0), (.getfield 10, 3, pR 0 0), (.getfield 132, 3, pR 1 6)] 0 _ (by decide +kernel) ?_
  refine (And.intro rfl (And.intro rfl (And.intro rfl (And.intro rfl ?_))))
  show zG w f 4 7 ([some (pR 0 0), some (pI a1), none, none], [pI (m.1 1 0 6)], (m, n))
  refine zif_ne (tgt := 17) (pc := 7) hF (by decide +kernel) (fun b1 => ?_) (fun b1 => ?_)
  · replace h := zit b1 h
    refine zrun hF [(.aload_n 0, 1, pI 0), (.bipush (-5), 2, pI (-5))] 10 _ (by decide +kernel) ?_
    show zG w f 4 13 ([some (pR 0 0), some (pI a1), none, none], [pI (-5), pR 0 0], (m, n))
    obtain ⟨r3, m4, q2, h⟩ := zb_k h
    refine zcallVI (pc := 13) (As := [pI (-5)]) (st := []) (c := 0) (j := 0) hF (m_X6_refuse  q2) w_X6_refuse k_6_73 (by decide +kernel) rfl rfl rfl rfl rfl rfl rfl ?_
    exact zretI (pc := 16) hF hR (by decide +kernel) rfl (congrArg Prod.fst (Option.some.inj h)) (congrArg (fun (q : Int32 × zMem) => (q.2, n)) (Option.some.inj h))
  · replace h := zif b1 h
    refine zrun hF [(.iload_n 1, 1, pI 0), (.iconst 1, 1, pI 1)] 17 _ (by decide +kernel) ?_
    show zG w f 4 19 ([some (pR 0 0), some (pI a1), none, none], [pI 1, pI a1], (m, n))
    refine zicmp_lt (tgt := 28) (pc := 19) hF (by decide +kernel) (fun b5 => ?_) (fun b5 => ?_)
    · replace h := zit b5 h
      refine zcut [true, false, true, true] ?_
      exact m_X6_feast_L28 hl hF hR  _  h
    · replace h := zif b5 h
      refine zrun hF [(.iload_n 1, 1, pI 0), (.bipush 60, 2, pI 60)] 22 _ (by decide +kernel) ?_
      show zG w f 4 25 ([some (pR 0 0), some (pI a1), none, none], [pI 60, pI a1], (m, n))
      refine zicmp_le (tgt := 35) (pc := 25) hF (by decide +kernel) (fun b6 => ?_) (fun b6 => ?_)
      · replace h := zit b6 h
        refine zrun hF [(.aload_n 0, 1, pI 0), (.getfield 10, 3, pR 0 0), (.getfield 332, 3, pR 1 8), (.istore_n 2, 1, pI 0), (.iconst 0, 1, pI 0), (.istore_n 3, 1, pI 0)] 35 _ (by decide +kernel) ?_
        refine (And.intro rfl (And.intro rfl (And.intro rfl (And.intro rfl (And.intro rfl (And.intro rfl ?_))))))
        show zG w f 4 45 ([some (pR 0 0), some (pI a1), some (pI (m.1 1 0 8)), some (pI 0)], [], (m, n))
        exact m_X6_feast_L45 hl hF hR  zF _ _ _ _  h
      · replace h := zif b6 h
        refine zcut [true, false, true, true] ?_
        exact m_X6_feast_L28 hl hF hR  _  h

set_option maxHeartbeats 4000000 in
set_option maxRecDepth 100000 in
theorem m_X7_draw {w : zWd} {lc : Launch} {n : zMem} {a1 : Int32} {m : zMem} {x : Int32} {m0 : zMem}  (h : s_X7_draw a1 m = some (x, m0)) : zMet w lc 1 yX7_draw cX7_draw 2 (some .int) [pR 64 0, pI a1] (n, m) (zQI w x (n, m0)) := by
  refine zmet (o := 7) (by decide +kernel) rfl (Nat.le_of_ble_eq_true rfl) rfl (fun f hl hF hR => ?_)
  unfold s_X7_draw at h
  show zG w f 2 0 ([some (pR 64 0), some (pI a1)], [], (n, m))
  refine zrun hF [(.aload_n 0, 1, pI 0), (.aload_n 0, 1, pI 0), (.getfield 13, 3, pR 64 5), (.ldc_w 292, 3, pI 1103515245), (.imul, 1, pI 0), (.sipush 12345, 3, pI 12345), (.iadd, 1, pI 0), (.putfield 13, 3, pR 64 5)] 0 _ (by decide +kernel) ?_
  refine (And.intro rfl (And.intro rfl (And.intro rfl (And.intro rfl (And.intro trivial ?_)))))
  refine zlet_k (P := fun (m1 : zMem) => zG w f 2 16 ([some (pR 64 0), some (pI a1)], [], (n, m1))) h (fun m1 h => ?_)
  obtain ⟨c2, h⟩ := znz_k h
  refine zrun hF [(.aload_n 0, 1, pI 0), (.getfield 13, 3, pR 64 5), (.bipush 16, 2, pI 16), (.iushr, 1, pI 0), (.iload_n 1, 1, pI 0), (.irem, 1, pI 0)] 16 _ (by decide +kernel) ?_
  refine (And.intro rfl (And.intro rfl (And.intro c2 ?_)))
  show zG w f 2 25 ([some (pR 64 0), some (pI a1)], [pI (jrem (jushr (m1.1 64 0 5) 16) a1)], (n, m1))
  exact zretI (pc := 25) hF hR (by decide +kernel) rfl (congrArg Prod.fst (Option.some.inj h)) (congrArg (fun (q : Int32 × zMem) => (n, q.2)) (Option.some.inj h))

set_option maxHeartbeats 4000000 in
set_option maxRecDepth 100000 in
theorem m_X7_feast_L25 {w : zWd} {f : zFr} {n : zMem} {x : Int32} {m0 : zMem} {lc : Launch} (hl : f.2.1 = lc) (hF : zFOK w f 7 cX7_feast 6 4) (hR : zFin w f (some .int) (zQI w x (n, m0))) : ∀ (m : zMem), s_X7_feast_L25 m = some (x, m0) → zG w f 6 25 ([some (pR 64 0), none, none, none, none, none], [], (n, m)) := by
  intro m h
  unfold s_X7_feast_L25 at h
  refine zrun hF [(.aload_n 0, 1, pI 0), (.bipush (-6), 2, pI (-6))] 25 _ (by decide +kernel) ?_
  show zG w f 6 28 ([some (pR 64 0), none, none, none, none, none], [pI (-6), pR 64 0], (n, m))
  obtain ⟨r8, m9, q7, h⟩ := zb_k h
  refine zcallVI (pc := 28) (As := [pI (-6)]) (st := []) (c := 64) (j := 0) hF (m_X7_no  q7) w_X7_no k_7_100 (by decide +kernel) rfl rfl rfl rfl rfl rfl rfl ?_
  exact zretI (pc := 31) hF hR (by decide +kernel) rfl (congrArg Prod.fst (Option.some.inj h)) (congrArg (fun (q : Int32 × zMem) => (n, q.2)) (Option.some.inj h))

set_option maxHeartbeats 4000000 in
set_option maxRecDepth 100000 in
theorem m_X7_feast_L101 {w : zWd} {f : zFr} {n : zMem} {x : Int32} {m0 : zMem} {lc : Launch} (hl : f.2.1 = lc) (hF : zFOK w f 7 cX7_feast 6 4) (hR : zFin w f (some .int) (zQI w x (n, m0))) {k39 : Int32 → Int32 → Int32 → zMem → Option (Int32 × zMem)} (hk39 : ∀ (x1 : Int32) (x2 : Int32) (x3 : Int32) (m : zMem), k39 x1 x2 x3 m = some (x, m0) → zG w f 6 39 ([some (pR 64 0), some (pI x1), some (pI x2), some (pI x3), none, none], [], (n, m))) : ∀ (x1 : Int32) (x2 : Int32) (x3 : Int32) (m : zMem), s_X7_feast_L101 k39 x1 x2 x3 m = some (x, m0) → zG w f 6 101 ([some (pR 64 0), some (pI x1), some (pI x2), some (pI x3), none, none], [], (n, m)) := by
  intro x1 x2 x3 m h
  unfold s_X7_feast_L101 at h
  refine zrun hF [(.iinc 3 1, 3, pI 1)] 101 _ (by decide +kernel) ?_
  refine (And.intro rfl ?_)
  show zG w f 6 104 ([some (pR 64 0), some (pI x1), some (pI x2), some (pI (x3 + 1)), none, none], [], (n, m))
  refine zgoto (tgt := 39) (pc := 104) hF (by decide +kernel) ?_
  exact hk39 _ _ _ _  h

set_option maxHeartbeats 4000000 in
set_option maxRecDepth 100000 in
theorem m_X7_feast_L39 {w : zWd} {f : zFr} {n : zMem} {x : Int32} {m0 : zMem} {lc : Launch} (hl : f.2.1 = lc) (hF : zFOK w f 7 cX7_feast 6 4) (hR : zFin w f (some .int) (zQI w x (n, m0))) : ∀ (k : Nat) (x1 : Int32) (x2 : Int32) (x3 : Int32) (m : zMem), s_X7_feast_L39 k x1 x2 x3 m = some (x, m0) → zG w f 6 39 ([some (pR 64 0), some (pI x1), some (pI x2), some (pI x3), none, none], [], (n, m)) := by
  intro k
  induction k with
  | zero => intro x1 x2 x3 m h; exact zno h
  | succ k ih =>
    intro x1 x2 x3 m h
    unfold s_X7_feast_L39 at h
    refine zrun hF [(.iload_n 3, 1, pI 0), (.iload_n 1, 1, pI 0)] 39 _ (by decide +kernel) ?_
    show zG w f 6 41 ([some (pR 64 0), some (pI x1), some (pI x2), some (pI x3), none, none], [pI x1, pI x3], (n, m))
    refine zicmp_ge (tgt := 107) (pc := 41) hF (by decide +kernel) (fun b10 => ?_) (fun b10 => ?_)
    · replace h := zit b10 h
      refine zrun hF [(.aload_n 0, 1, pI 0), (.getfield 183, 3, pR 64 3), (.iload_n 2, 1, pI 0), (.isub, 1, pI 0)] 107 _ (by decide +kernel) ?_
      refine (And.intro rfl (And.intro rfl ?_))
      show zG w f 6 113 ([some (pR 64 0), some (pI x1), some (pI x2), some (pI x3), none, none], [pI ((m.1 64 0 3) - x2)], (n, m))
      exact zretI (pc := 113) hF hR (by decide +kernel) rfl (congrArg Prod.fst (Option.some.inj h)) (congrArg (fun (q : Int32 × zMem) => (n, q.2)) (Option.some.inj h))
    · replace h := zif b10 h
      refine zrun hF [(.aload_n 0, 1, pI 0), (.aload_n 0, 1, pI 0), (.getfield 93, 3, pR 64 0)] 44 _ (by decide +kernel) ?_
      refine (And.intro rfl (And.intro rfl ?_))
      show zG w f 6 49 ([some (pR 64 0), some (pI x1), some (pI x2), some (pI x3), none, none], [pI (m.1 64 0 0), pR 64 0], (n, m))
      obtain ⟨r12, m13, q11, h⟩ := zb_k h
      refine zcallVI (pc := 49) (As := [pI (m.1 64 0 0)]) (st := []) (c := 64) (j := 0) hF (m_X7_draw  q11) w_X7_draw k_7_293 (by decide +kernel) rfl rfl rfl rfl rfl rfl rfl ?_
      refine zrun hF [(.istore 4, 2, pI 0), (.aload_n 0, 1, pI 0), (.aload_n 0, 1, pI 0), (.getfield 93, 3, pR 64 0)] 52 _ (by decide +kernel) ?_
      refine (And.intro rfl (And.intro rfl (And.intro rfl ?_)))
      show zG w f 6 59 ([some (pR 64 0), some (pI x1), some (pI x2), some (pI x3), some (pI r12), none], [pI (m13.1 64 0 0), pR 64 0], (n, m13))
      obtain ⟨r15, m16, q14, h⟩ := zb_k h
      refine zcallVI (pc := 59) (As := [pI (m13.1 64 0 0)]) (st := []) (c := 64) (j := 0) hF (m_X7_draw  q14) w_X7_draw k_7_293 (by decide +kernel) rfl rfl rfl rfl rfl rfl rfl ?_
      refine zrun hF [(.istore 5, 2, pI 0), (.aload_n 0, 1, pI 0), (.iload 4, 2, pI 0), (.iload 5, 2, pI 0)] 62 _ (by decide +kernel) ?_
      refine (And.intro rfl ?_)
      show zG w f 6 69 ([some (pR 64 0), some (pI x1), some (pI x2), some (pI x3), some (pI r12), some (pI r15)], [pI r15, pI r12, pR 64 0], (n, m16))
      obtain ⟨r18, q17, h⟩ := zr_k h
      refine zcallVI (pc := 69) (As := [pI r12, pI r15]) (st := []) (c := 64) (j := 0) hF (m_X7_isWanted  q17) w_X7_isWanted k_7_219 (by decide +kernel) rfl rfl rfl rfl rfl rfl rfl ?_
      refine zif_eq (tgt := 86) (pc := 72) hF (by decide +kernel) (fun b19 => ?_) (fun b19 => ?_)
      · replace h := zit b19 h
        refine zrun hF [(.iload 4, 2, pI 0), (.iload 5, 2, pI 0)] 86 _ (by decide +kernel) ?_
        show zG w f 6 90 ([some (pR 64 0), some (pI x1), some (pI x2), some (pI x3), some (pI r12), some (pI r15)], [pI r15, pI r12], (n, m16))
        refine zicmp_eq (tgt := 101) (pc := 90) hF (by decide +kernel) (fun b20 => ?_) (fun b20 => ?_)
        · replace h := zit b20 h
          refine zcut [true, true, true, true, false, false] ?_
          exact m_X7_feast_L101 hl hF hR ih _ _ _ _  h
        · replace h := zif b20 h
          refine zrun hF [(.aload_n 0, 1, pI 0), (.iload 4, 2, pI 0), (.iload 5, 2, pI 0)] 93 _ (by decide +kernel) ?_
          show zG w f 6 98 ([some (pR 64 0), some (pI x1), some (pI x2), some (pI x3), some (pI r12), some (pI r15)], [pI r15, pI r12, pR 64 0], (n, m16))
          obtain ⟨m23, q21, h⟩ := zr_k h
          refine zcallVV (pc := 98) (As := [pI r12, pI r15]) (st := []) (c := 64) (j := 0) hF (m_X7_changes  q21) w_X7_changes k_7_259 (by decide +kernel) rfl rfl rfl rfl rfl rfl rfl ?_
          refine zcut [true, true, true, true, false, false] ?_
          exact m_X7_feast_L101 hl hF hR ih _ _ _ _  h
      · replace h := zif b19 h
        refine zrun hF [(.aload_n 0, 1, pI 0), (.iload 4, 2, pI 0), (.iload 5, 2, pI 0)] 75 _ (by decide +kernel) ?_
        show zG w f 6 80 ([some (pR 64 0), some (pI x1), some (pI x2), some (pI x3), some (pI r12), some (pI r15)], [pI r15, pI r12, pR 64 0], (n, m16))
        obtain ⟨m26, q24, h⟩ := zr_k h
        refine zcallVV (pc := 80) (As := [pI r12, pI r15]) (st := []) (c := 64) (j := 0) hF (m_X7_clinks  q24) w_X7_clinks k_7_286 (by decide +kernel) rfl rfl rfl rfl rfl rfl rfl ?_
        refine zgoto (tgt := 101) (pc := 83) hF (by decide +kernel) ?_
        refine zcut [true, true, true, true, false, false] ?_
        exact m_X7_feast_L101 hl hF hR ih _ _ _ _  h

set_option maxHeartbeats 4000000 in
set_option maxRecDepth 100000 in
theorem m_X7_feast {w : zWd} {lc : Launch} {n : zMem} {a1 : Int32} {m : zMem} {x : Int32} {m0 : zMem}  (h : s_X7_feast a1 m = some (x, m0)) : zMet w lc 4 yX7_feast cX7_feast 6 (some .int) [pR 64 0, pI a1] (n, m) (zQI w x (n, m0)) := by
  refine zmet (o := 7) (by decide +kernel) rfl (Nat.le_of_ble_eq_true rfl) rfl (fun f hl hF hR => ?_)
  unfold s_X7_feast at h
  show zG w f 6 0 ([some (pR 64 0), some (pI a1), none, none, none, none], [], (n, m))
  refine zrun hF [(.aload_n 0, 1, pI 0), (.getfield 93, 3, pR 64 0)] 0 _ (by decide +kernel) ?_
  refine (And.intro rfl (And.intro rfl ?_))
  show zG w f 6 4 ([some (pR 64 0), some (pI a1), none, none, none, none], [pI (m.1 64 0 0)], (n, m))
  refine zif_ne (tgt := 14) (pc := 4) hF (by decide +kernel) (fun b1 => ?_) (fun b1 => ?_)
  · replace h := zit b1 h
    refine zrun hF [(.aload_n 0, 1, pI 0), (.bipush (-5), 2, pI (-5))] 7 _ (by decide +kernel) ?_
    show zG w f 6 10 ([some (pR 64 0), some (pI a1), none, none, none, none], [pI (-5), pR 64 0], (n, m))
    obtain ⟨r3, m4, q2, h⟩ := zb_k h
    refine zcallVI (pc := 10) (As := [pI (-5)]) (st := []) (c := 64) (j := 0) hF (m_X7_no  q2) w_X7_no k_7_100 (by decide +kernel) rfl rfl rfl rfl rfl rfl rfl ?_
    exact zretI (pc := 13) hF hR (by decide +kernel) rfl (congrArg Prod.fst (Option.some.inj h)) (congrArg (fun (q : Int32 × zMem) => (n, q.2)) (Option.some.inj h))
  · replace h := zif b1 h
    refine zrun hF [(.iload_n 1, 1, pI 0), (.iconst 1, 1, pI 1)] 14 _ (by decide +kernel) ?_
    show zG w f 6 16 ([some (pR 64 0), some (pI a1), none, none, none, none], [pI 1, pI a1], (n, m))
    refine zicmp_lt (tgt := 25) (pc := 16) hF (by decide +kernel) (fun b5 => ?_) (fun b5 => ?_)
    · replace h := zit b5 h
      refine zcut [true, false, true, true, true, true] ?_
      exact m_X7_feast_L25 hl hF hR  _  h
    · replace h := zif b5 h
      refine zrun hF [(.iload_n 1, 1, pI 0), (.bipush 60, 2, pI 60)] 19 _ (by decide +kernel) ?_
      show zG w f 6 22 ([some (pR 64 0), some (pI a1), none, none, none, none], [pI 60, pI a1], (n, m))
      refine zicmp_le (tgt := 32) (pc := 22) hF (by decide +kernel) (fun b6 => ?_) (fun b6 => ?_)
      · replace h := zit b6 h
        refine zrun hF [(.aload_n 0, 1, pI 0), (.getfield 183, 3, pR 64 3), (.istore_n 2, 1, pI 0), (.iconst 0, 1, pI 0), (.istore_n 3, 1, pI 0)] 32 _ (by decide +kernel) ?_
        refine (And.intro rfl (And.intro rfl (And.intro rfl (And.intro rfl ?_))))
        show zG w f 6 39 ([some (pR 64 0), some (pI a1), some (pI (m.1 64 0 3)), some (pI 0), none, none], [], (n, m))
        exact m_X7_feast_L39 hl hF hR  zF _ _ _ _  h
      · replace h := zif b6 h
        refine zcut [true, false, true, true, true, true] ?_
        exact m_X7_feast_L25 hl hF hR  _  h

set_option maxHeartbeats 4000000 in
set_option maxRecDepth 100000 in
theorem m_X6_seed {w : zWd} {lc : Launch} {n : zMem} {a1 : Int32} {m : zMem} {x : Int32} {m0 : zMem}  (h : s_X6_seed a1 m = some (x, m0)) : zMet w lc 1 yX6_seed cX6_seed 3 (some .int) [pR 0 0, pI a1] (m, n) (zQI w x (m0, n)) := by
  refine zmet (o := 6) (by decide +kernel) rfl (Nat.le_of_ble_eq_true rfl) rfl (fun f hl hF hR => ?_)
  unfold s_X6_seed at h
  show zG w f 3 0 ([some (pR 0 0), some (pI a1), none], [], (m, n))
  refine zrun hF [(.aload_n 0, 1, pI 0), (.getfield 10, 3, pR 0 0), (.getfield 338, 3, pR 1 10), (.istore_n 2, 1, pI 0), (.aload_n 0, 1, pI 0), (.getfield 10, 3, pR 0 0), (.iload_n 1, 1, pI 0), (.putfield 338, 3, pR 1 10)] 0 _ (by decide +kernel) ?_
  refine (And.intro rfl (And.intro rfl (And.intro rfl (And.intro rfl (And.intro rfl (And.intro rfl (And.intro rfl (And.intro rfl (And.intro rfl (And.intro trivial ?_))))))))))
  refine zlet_k (P := fun (m1 : zMem) => zG w f 3 16 ([some (pR 0 0), some (pI a1), some (pI (m.1 1 0 10))], [], (m1, n))) h (fun m1 h => ?_)
  refine zrun hF [(.iload_n 2, 1, pI 0)] 16 _ (by decide +kernel) ?_
  show zG w f 3 17 ([some (pR 0 0), some (pI a1), some (pI (m.1 1 0 10))], [pI (m.1 1 0 10)], (m1, n))
  exact zretI (pc := 17) hF hR (by decide +kernel) rfl (congrArg Prod.fst (Option.some.inj h)) (congrArg (fun (q : Int32 × zMem) => (q.2, n)) (Option.some.inj h))

set_option maxHeartbeats 4000000 in
set_option maxRecDepth 100000 in
theorem m_X7_seed {w : zWd} {lc : Launch} {n : zMem} {a1 : Int32} {m : zMem} {x : Int32} {m0 : zMem}  (h : s_X7_seed a1 m = some (x, m0)) : zMet w lc 1 yX7_seed cX7_seed 3 (some .int) [pR 64 0, pI a1] (n, m) (zQI w x (n, m0)) := by
  refine zmet (o := 7) (by decide +kernel) rfl (Nat.le_of_ble_eq_true rfl) rfl (fun f hl hF hR => ?_)
  unfold s_X7_seed at h
  show zG w f 3 0 ([some (pR 64 0), some (pI a1), none], [], (n, m))
  refine zrun hF [(.aload_n 0, 1, pI 0), (.getfield 13, 3, pR 64 5), (.istore_n 2, 1, pI 0), (.aload_n 0, 1, pI 0), (.iload_n 1, 1, pI 0), (.putfield 13, 3, pR 64 5)] 0 _ (by decide +kernel) ?_
  refine (And.intro rfl (And.intro rfl (And.intro rfl (And.intro rfl (And.intro rfl (And.intro trivial ?_))))))
  refine zlet_k (P := fun (m1 : zMem) => zG w f 3 10 ([some (pR 64 0), some (pI a1), some (pI (m.1 64 0 5))], [], (n, m1))) h (fun m1 h => ?_)
  refine zrun hF [(.iload_n 2, 1, pI 0)] 10 _ (by decide +kernel) ?_
  show zG w f 3 11 ([some (pR 64 0), some (pI a1), some (pI (m.1 64 0 5))], [pI (m.1 64 0 5)], (n, m1))
  exact zretI (pc := 11) hF hR (by decide +kernel) rfl (congrArg Prod.fst (Option.some.inj h)) (congrArg (fun (q : Int32 × zMem) => (n, q.2)) (Option.some.inj h))

set_option maxHeartbeats 4000000 in
set_option maxRecDepth 100000 in
theorem m_X0_forget {w : zWd} {lc : Launch} {n : zMem}  {m : zMem} {m0 : zMem}  (h : s_X0_forget m = some m0) : zMet w lc 1 yX0_forget cX0_forget 1 none [pR 20 0] (m, n) (zQV w (m0, n)) := by
  refine zmet (o := 0) (by decide +kernel) rfl (Nat.le_of_ble_eq_true rfl) rfl (fun f hl hF hR => ?_)
  unfold s_X0_forget at h
  show zG w f 1 0 ([some (pR 20 0)], [], (m, n))
  refine zrun hF [(.aload_n 0, 1, pI 0), (.iconst 0, 1, pI 0), (.putfield 15, 3, pR 20 1)] 0 _ (by decide +kernel) ?_
  refine (And.intro rfl (And.intro rfl (And.intro trivial ?_)))
  refine zlet_k (P := fun (m1 : zMem) => zG w f 1 5 ([some (pR 20 0)], [], (m1, n))) h (fun m1 h => ?_)
  exact zretV (pc := 5) hF hR (by decide +kernel) (congrArg (fun q => (q, n)) (Option.some.inj h))

set_option maxHeartbeats 4000000 in
set_option maxRecDepth 100000 in
theorem m_X0_is {w : zWd} {lc : Launch} {n : zMem} {a1 : Int32} {m : zMem} {x : Int32}  (h : s_X0_is a1 m = some x) : zMet w lc 1 yX0_is cX0_is 2 (some .boolean) [pR 20 0, pI a1] (m, n) (zQI w x (m, n)) := by
  refine zmet (o := 0) (by decide +kernel) rfl (Nat.le_of_ble_eq_true rfl) rfl (fun f hl hF hR => ?_)
  unfold s_X0_is at h
  show zG w f 2 0 ([some (pR 20 0), some (pI a1)], [], (m, n))
  refine zrun hF [(.aload_n 0, 1, pI 0), (.getfield 19, 3, pR 20 2), (.iload_n 1, 1, pI 0), (.ishr, 1, pI 0), (.iconst 1, 1, pI 1), (.iand, 1, pI 0)] 0 _ (by decide +kernel) ?_
  refine (And.intro rfl (And.intro rfl ?_))
  show zG w f 2 8 ([some (pR 20 0), some (pI a1)], [pI ((jshr (m.1 20 0 2) a1) &&& 1)], (m, n))
  refine zif_eq (tgt := 15) (pc := 8) hF (by decide +kernel) (fun b1 => ?_) (fun b1 => ?_)
  · replace h := zit b1 h
    refine zrun hF [(.iconst 0, 1, pI 0)] 15 _ (by decide +kernel) ?_
    show zG w f 2 16 ([some (pR 20 0), some (pI a1)], [pI 0], (m, n))
    exact zretI (pc := 16) hF hR (by decide +kernel) (by decide +kernel) (Option.some.inj h) rfl
  · replace h := zif b1 h
    refine zrun hF [(.iconst 1, 1, pI 1)] 11 _ (by decide +kernel) ?_
    show zG w f 2 12 ([some (pR 20 0), some (pI a1)], [pI 1], (m, n))
    refine zgoto (tgt := 16) (pc := 12) hF (by decide +kernel) ?_
    exact zretI (pc := 16) hF hR (by decide +kernel) (by decide +kernel) (Option.some.inj h) rfl

set_option maxHeartbeats 4000000 in
set_option maxRecDepth 100000 in
theorem m_X0_begin_L19 {w : zWd} {f : zFr} {n : zMem} {m0 : zMem} {lc : Launch} (hl : f.2.1 = lc) (hF : zFOK w f 0 cX0_begin 2 1) (hR : zFin w f none (zQV w (m0, n))) : ∀ (m : zMem), s_X0_begin_L19 m = some m0 → zG w f 2 19 ([some (pR 20 0), none], [], (m, n)) := by
  intro m h
  unfold s_X0_begin_L19 at h
  refine zrun hF [(.aload_n 0, 1, pI 0), (.dup, 1, pI 0), (.getfield 15, 3, pR 20 1), (.iconst 1, 1, pI 1), (.iadd, 1, pI 0), (.putfield 15, 3, pR 20 1)] 19 _ (by decide +kernel) ?_
  refine (And.intro rfl (And.intro rfl (And.intro rfl (And.intro rfl (And.intro rfl (And.intro trivial ?_))))))
  refine zlet_k (P := fun (m4 : zMem) => zG w f 2 29 ([some (pR 20 0), none], [], (m4, n))) h (fun m4 h => ?_)
  exact zretV (pc := 29) hF hR (by decide +kernel) (congrArg (fun q => (q, n)) (Option.some.inj h))

set_option maxHeartbeats 4000000 in
set_option maxRecDepth 100000 in
theorem m_X0_begin {w : zWd} {lc : Launch} {n : zMem} {a1 : Int32} {m : zMem} {m0 : zMem}  (h : s_X0_begin a1 m = some m0) : zMet w lc 1 yX0_begin cX0_begin 2 none [pR 20 0, pI a1] (m, n) (zQV w (m0, n)) := by
  refine zmet (o := 0) (by decide +kernel) rfl (Nat.le_of_ble_eq_true rfl) rfl (fun f hl hF hR => ?_)
  unfold s_X0_begin at h
  show zG w f 2 0 ([some (pR 20 0), some (pI a1)], [], (m, n))
  refine zrun hF [(.aload_n 0, 1, pI 0), (.getfield 15, 3, pR 20 1), (.bipush 20, 2, pI 20)] 0 _ (by decide +kernel) ?_
  refine (And.intro rfl (And.intro rfl ?_))
  show zG w f 2 6 ([some (pR 20 0), some (pI a1)], [pI 20, pI (m.1 20 0 1)], (m, n))
  refine zicmp_ge (tgt := 19) (pc := 6) hF (by decide +kernel) (fun b1 => ?_) (fun b1 => ?_)
  · replace h := zit b1 h
    refine zcut [true, false] ?_
    exact m_X0_begin_L19 hl hF hR  _  h
  · replace h := zif b1 h
    obtain ⟨c2, h⟩ := zchk h
    refine zrun hF [(.aload_n 0, 1, pI 0), (.getfield 9, 3, pR 20 0), (.aload_n 0, 1, pI 0), (.getfield 15, 3, pR 20 1), (.iload_n 1, 1, pI 0), (.iastore, 1, pI 0)] 9 _ (by decide +kernel) ?_
    refine (And.intro rfl (And.intro rfl (And.intro rfl (And.intro rfl (And.intro rfl (And.intro rfl (And.intro c2 ?_)))))))
    refine zlet_k (P := fun (m3 : zMem) => zG w f 2 19 ([some (pR 20 0), some (pI a1)], [], (m3, n))) h (fun m3 h => ?_)
    refine zcut [true, false] ?_
    exact m_X0_begin_L19 hl hF hR  _  h

set_option maxHeartbeats 4000000 in
set_option maxRecDepth 100000 in
theorem m_X0_beginIf {w : zWd} {lc : Launch} {n : zMem} {a1 : Int32} {a2 : Int32} {m : zMem} {m0 : zMem}  (h : s_X0_beginIf a1 a2 m = some m0) : zMet w lc 2 yX0_beginIf cX0_beginIf 3 none [pR 20 0, pI a1, pI a2] (m, n) (zQV w (m0, n)) := by
  refine zmet (o := 0) (by decide +kernel) rfl (Nat.le_of_ble_eq_true rfl) rfl (fun f hl hF hR => ?_)
  unfold s_X0_beginIf at h
  show zG w f 3 0 ([some (pR 20 0), some (pI a1), some (pI a2)], [], (m, n))
  refine zrun hF [(.aload_n 0, 1, pI 0), (.iload_n 1, 1, pI 0)] 0 _ (by decide +kernel) ?_
  show zG w f 3 2 ([some (pR 20 0), some (pI a1), some (pI a2)], [pI a1, pR 20 0], (m, n))
  obtain ⟨r2, q1, h⟩ := zr_k h
  refine zcallVI (pc := 2) (As := [pI a1]) (st := []) (c := 20) (j := 0) hF (m_X0_is  q1) w_X0_is k_0_45 (by decide +kernel) rfl rfl rfl rfl rfl rfl rfl ?_
  refine zif_eq (tgt := 13) (pc := 5) hF (by decide +kernel) (fun b3 => ?_) (fun b3 => ?_)
  · replace h := zit b3 h
    exact zretV (pc := 13) hF hR (by decide +kernel) (congrArg (fun q => (q, n)) (Option.some.inj h))
  · replace h := zif b3 h
    refine zrun hF [(.aload_n 0, 1, pI 0), (.iload_n 2, 1, pI 0)] 8 _ (by decide +kernel) ?_
    show zG w f 3 10 ([some (pR 20 0), some (pI a1), some (pI a2)], [pI a2, pR 20 0], (m, n))
    obtain ⟨m6, q4, h⟩ := zr_k h
    refine zcallVV (pc := 10) (As := [pI a2]) (st := []) (c := 20) (j := 0) hF (m_X0_begin  q4) w_X0_begin k_0_48 (by decide +kernel) rfl rfl rfl rfl rfl rfl rfl ?_
    exact zretV (pc := 13) hF hR (by decide +kernel) (congrArg (fun q => (q, n)) (Option.some.inj h))

set_option maxHeartbeats 4000000 in
set_option maxRecDepth 100000 in
theorem m_X0_clinksOf_L71 {w : zWd} {f : zFr} {n : zMem} {x : Int32} {m0 : zMem} {lc : Launch} (hl : f.2.1 = lc) (hF : zFOK w f 0 cX0_clinksOf 3 3) (hR : zFin w f (some .int) (zQI w x (m0, n))) : ∀ (y0 : Int32) (y1 : Int32) (m : zMem), s_X0_clinksOf_L71 y0 y1 m = some (x, m0) → zG w f 3 71 ([some (pR 20 0), none, none], [pI y1, pI y0], (m, n)) := by
  intro y0 y1 m h
  unfold s_X0_clinksOf_L71 at h
  refine zrun hF [(.isub, 1, pI 0), (.istore_n 2, 1, pI 0), (.aload_n 0, 1, pI 0), (.bipush 6, 2, pI 6)] 71 _ (by decide +kernel) ?_
  refine (And.intro rfl ?_)
  show zG w f 3 76 ([some (pR 20 0), none, some (pI (y0 - y1))], [pI 6, pR 20 0], (m, n))
  obtain ⟨r21, q20, h⟩ := zr_k h
  refine zcallVI (pc := 76) (As := [pI 6]) (st := []) (c := 20) (j := 0) hF (m_X0_is  q20) w_X0_is k_0_45 (by decide +kernel) rfl rfl rfl rfl rfl rfl rfl ?_
  refine zif_eq (tgt := 88) (pc := 79) hF (by decide +kernel) (fun b22 => ?_) (fun b22 => ?_)
  · replace h := zit b22 h
    refine zrun hF [(.iload_n 2, 1, pI 0)] 88 _ (by decide +kernel) ?_
    show zG w f 3 89 ([some (pR 20 0), none, some (pI (y0 - y1))], [pI (y0 - y1)], (m, n))
    exact zretI (pc := 89) hF hR (by decide +kernel) rfl (congrArg Prod.fst (Option.some.inj h)) (congrArg (fun (q : Int32 × zMem) => (q.2, n)) (Option.some.inj h))
  · replace h := zif b22 h
    refine zrun hF [(.iconst 2, 1, pI 2), (.iload_n 2, 1, pI 0), (.imul, 1, pI 0)] 82 _ (by decide +kernel) ?_
    show zG w f 3 85 ([some (pR 20 0), none, some (pI (y0 - y1))], [pI (2 * (y0 - y1))], (m, n))
    refine zgoto (tgt := 89) (pc := 85) hF (by decide +kernel) ?_
    exact zretI (pc := 89) hF hR (by decide +kernel) rfl (congrArg Prod.fst (Option.some.inj h)) (congrArg (fun (q : Int32 × zMem) => (q.2, n)) (Option.some.inj h))

set_option maxHeartbeats 4000000 in
set_option maxRecDepth 100000 in
theorem m_X0_clinksOf_L52 {w : zWd} {f : zFr} {n : zMem} {x : Int32} {m0 : zMem} {lc : Launch} (hl : f.2.1 = lc) (hF : zFOK w f 0 cX0_clinksOf 3 3) (hR : zFin w f (some .int) (zQI w x (m0, n))) : ∀ (y0 : Int32) (y1 : Int32) (m : zMem), s_X0_clinksOf_L52 y0 y1 m = some (x, m0) → zG w f 3 52 ([some (pR 20 0), none, none], [pI y1, pI y0], (m, n)) := by
  intro y0 y1 m h
  unfold s_X0_clinksOf_L52 at h
  refine zrun hF [(.iadd, 1, pI 0), (.istore_n 2, 1, pI 0), (.iload_n 2, 1, pI 0), (.aload_n 0, 1, pI 0), (.iconst 4, 1, pI 4)] 52 _ (by decide +kernel) ?_
  refine (And.intro rfl ?_)
  show zG w f 3 57 ([some (pR 20 0), none, some (pI (y0 + y1))], [pI 4, pR 20 0, pI (y0 + y1)], (m, n))
  obtain ⟨r18, q17, h⟩ := zr_k h
  refine zcallVI (pc := 57) (As := [pI 4]) (st := [pI (y0 + y1)]) (c := 20) (j := 0) hF (m_X0_is  q17) w_X0_is k_0_45 (by decide +kernel) rfl rfl rfl rfl rfl rfl rfl ?_
  refine zif_eq (tgt := 70) (pc := 60) hF (by decide +kernel) (fun b19 => ?_) (fun b19 => ?_)
  · replace h := zit b19 h
    refine zrun hF [(.iconst 0, 1, pI 0)] 70 _ (by decide +kernel) ?_
    show zG w f 3 71 ([some (pR 20 0), none, some (pI (y0 + y1))], [pI 0, pI (y0 + y1)], (m, n))
    refine zcut [true, true, false] ?_
    exact m_X0_clinksOf_L71 hl hF hR  _ _ _  h
  · replace h := zif b19 h
    refine zrun hF [(.aload_n 0, 1, pI 0), (.getfield 22, 3, pR 20 3)] 63 _ (by decide +kernel) ?_
    refine (And.intro rfl (And.intro rfl ?_))
    show zG w f 3 67 ([some (pR 20 0), none, some (pI (y0 + y1))], [pI (m.1 20 0 3), pI (y0 + y1)], (m, n))
    refine zgoto (tgt := 71) (pc := 67) hF (by decide +kernel) ?_
    refine zcut [true, true, false] ?_
    exact m_X0_clinksOf_L71 hl hF hR  _ _ _  h

set_option maxHeartbeats 4000000 in
set_option maxRecDepth 100000 in
theorem m_X0_clinksOf {w : zWd} {lc : Launch} {n : zMem} {a1 : Int32} {m : zMem} {x : Int32} {m0 : zMem}  (h : s_X0_clinksOf a1 m = some (x, m0)) : zMet w lc 3 yX0_clinksOf cX0_clinksOf 3 (some .int) [pR 20 0, pI a1] (m, n) (zQI w x (m0, n)) := by
  refine zmet (o := 0) (by decide +kernel) rfl (Nat.le_of_ble_eq_true rfl) rfl (fun f hl hF hR => ?_)
  unfold s_X0_clinksOf at h
  show zG w f 3 0 ([some (pR 20 0), some (pI a1), none], [], (m, n))
  refine zrun hF [(.aload_n 0, 1, pI 0), (.bipush 6, 2, pI 6), (.bipush 70, 2, pI 70)] 0 _ (by decide +kernel) ?_
  show zG w f 3 5 ([some (pR 20 0), some (pI a1), none], [pI 70, pI 6, pR 20 0], (m, n))
  obtain ⟨m3, q1, h⟩ := zr_k h
  refine zcallVV (pc := 5) (As := [pI 6, pI 70]) (st := []) (c := 20) (j := 0) hF (m_X0_beginIf  q1) w_X0_beginIf k_0_52 (by decide +kernel) rfl rfl rfl rfl rfl rfl rfl ?_
  refine zrun hF [(.aload_n 0, 1, pI 0), (.iconst 4, 1, pI 4), (.bipush 51, 2, pI 51)] 8 _ (by decide +kernel) ?_
  show zG w f 3 12 ([some (pR 20 0), some (pI a1), none], [pI 51, pI 4, pR 20 0], (m3, n))
  obtain ⟨m6, q4, h⟩ := zr_k h
  refine zcallVV (pc := 12) (As := [pI 4, pI 51]) (st := []) (c := 20) (j := 0) hF (m_X0_beginIf  q4) w_X0_beginIf k_0_52 (by decide +kernel) rfl rfl rfl rfl rfl rfl rfl ?_
  refine zrun hF [(.aload_n 0, 1, pI 0), (.iconst 1, 1, pI 1), (.bipush 20, 2, pI 20)] 15 _ (by decide +kernel) ?_
  show zG w f 3 19 ([some (pR 20 0), some (pI a1), none], [pI 20, pI 1, pR 20 0], (m6, n))
  obtain ⟨m9, q7, h⟩ := zr_k h
  refine zcallVV (pc := 19) (As := [pI 1, pI 20]) (st := []) (c := 20) (j := 0) hF (m_X0_beginIf  q7) w_X0_beginIf k_0_52 (by decide +kernel) rfl rfl rfl rfl rfl rfl rfl ?_
  refine zrun hF [(.aload_n 0, 1, pI 0), (.bipush 10, 2, pI 10)] 22 _ (by decide +kernel) ?_
  show zG w f 3 25 ([some (pR 20 0), some (pI a1), none], [pI 10, pR 20 0], (m9, n))
  obtain ⟨m12, q10, h⟩ := zr_k h
  refine zcallVV (pc := 25) (As := [pI 10]) (st := []) (c := 20) (j := 0) hF (m_X0_begin  q10) w_X0_begin k_0_48 (by decide +kernel) rfl rfl rfl rfl rfl rfl rfl ?_
  refine zrun hF [(.iload_n 1, 1, pI 0), (.aload_n 0, 1, pI 0), (.getfield 22, 3, pR 20 3), (.iadd, 1, pI 0), (.istore_n 2, 1, pI 0)] 28 _ (by decide +kernel) ?_
  refine (And.intro rfl (And.intro rfl (And.intro rfl ?_)))
  refine zlet_k (P := fun (v13 : Int32) => zG w f 3 35 ([some (pR 20 0), some (pI a1), some (pI v13)], [], (m12, n))) h (fun v13 h => ?_)
  refine zrun hF [(.iload_n 2, 1, pI 0), (.aload_n 0, 1, pI 0), (.iconst 1, 1, pI 1)] 35 _ (by decide +kernel) ?_
  show zG w f 3 38 ([some (pR 20 0), some (pI a1), some (pI v13)], [pI 1, pR 20 0, pI v13], (m12, n))
  obtain ⟨r15, q14, h⟩ := zr_k h
  refine zcallVI (pc := 38) (As := [pI 1]) (st := [pI v13]) (c := 20) (j := 0) hF (m_X0_is  q14) w_X0_is k_0_45 (by decide +kernel) rfl rfl rfl rfl rfl rfl rfl ?_
  refine zif_eq (tgt := 51) (pc := 41) hF (by decide +kernel) (fun b16 => ?_) (fun b16 => ?_)
  · replace h := zit b16 h
    refine zrun hF [(.iconst 0, 1, pI 0)] 51 _ (by decide +kernel) ?_
    show zG w f 3 52 ([some (pR 20 0), some (pI a1), some (pI v13)], [pI 0, pI v13], (m12, n))
    refine zcut [true, false, false] ?_
    exact m_X0_clinksOf_L52 hl hF hR  _ _ _  h
  · replace h := zif b16 h
    refine zrun hF [(.aload_n 0, 1, pI 0), (.getfield 25, 3, pR 20 4)] 44 _ (by decide +kernel) ?_
    refine (And.intro rfl (And.intro rfl ?_))
    show zG w f 3 48 ([some (pR 20 0), some (pI a1), some (pI v13)], [pI (m12.1 20 0 4), pI v13], (m12, n))
    refine zgoto (tgt := 52) (pc := 48) hF (by decide +kernel) ?_
    refine zcut [true, false, false] ?_
    exact m_X0_clinksOf_L52 hl hF hR  _ _ _  h

