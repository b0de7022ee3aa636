set_option maxHeartbeats 4000000 in
set_option maxRecDepth 100000 in
theorem m_X7_all_79 {w : zWd} {lc : Launch} {n : zMem} {a2 : Int32} {m : zMem} {m0 : zMem}  (h : s_X7_all_79 a2 m = some m0) : zMet w lc 2 yX7_all cX7_all 4 none [pR 64 0, pR 79 0, pI a2] (n, m) (zQV w (n, m0)) := by
  refine zmet (o := 7) (by decide +kernel) rfl (Nat.le_of_ble_eq_true rfl) rfl (fun f hl hF hR => ?_)
  unfold s_X7_all_79 at h
  show zG w f 4 0 ([some (pR 64 0), some (pR 79 0), some (pI a2), none], [], (n, m))
  refine zrun hF [(.aload_n 0, 1, pI 0), (.aload_n 0, 1, pI 0), (.getfield 23, 3, pR 64 8), (.bipush 10, 2, pI 10), (.aload_n 1, 1, pI 0), (.iconst 0, 1, pI 0), (.iload_n 2, 1, pI 0)] 0 _ (by decide +kernel) ?_
  refine (And.intro rfl (And.intro rfl ?_))
  show zG w f 4 10 ([some (pR 64 0), some (pR 79 0), some (pI a2), none], [pI a2, pI 0, pR 79 0, pI 10, pR 66 0, pR 64 0], (n, m))
  obtain ⟨r2, m3, q1, h⟩ := zb_k h
  refine zcallVI (pc := 10) (As := [pR 66 0, pI 10, pR 79 0, pI 0, pI a2]) (st := []) (c := 64) (j := 0) hF (m_X7_carries_66_79  q1) w_X7_carries k_7_179 (by decide +kernel) rfl rfl rfl rfl rfl rfl rfl ?_
  refine zrun hF [(.istore_n 3, 1, pI 0), (.aload_n 0, 1, pI 0), (.aload_n 0, 1, pI 0), (.getfield 26, 3, pR 64 9), (.bipush 10, 2, pI 10), (.aload_n 1, 1, pI 0), (.iload_n 3, 1, pI 0), (.iload_n 2, 1, pI 0)] 13 _ (by decide +kernel) ?_
  refine (And.intro rfl (And.intro rfl (And.intro rfl ?_)))
  show zG w f 4 24 ([some (pR 64 0), some (pR 79 0), some (pI a2), some (pI r2)], [pI a2, pI r2, pR 79 0, pI 10, pR 67 0, pR 64 0], (n, m3))
  obtain ⟨r5, m6, q4, h⟩ := zb_k h
  refine zcallVI (pc := 24) (As := [pR 67 0, pI 10, pR 79 0, pI r2, pI a2]) (st := []) (c := 64) (j := 0) hF (m_X7_carries_67_79  q4) w_X7_carries k_7_179 (by decide +kernel) rfl rfl rfl rfl rfl rfl rfl ?_
  refine zrun hF [(.istore_n 3, 1, pI 0), (.aload_n 0, 1, pI 0), (.aload_n 0, 1, pI 0), (.getfield 29, 3, pR 64 10), (.bipush 10, 2, pI 10), (.aload_n 1, 1, pI 0), (.iload_n 3, 1, pI 0), (.iload_n 2, 1, pI 0)] 27 _ (by decide +kernel) ?_
  refine (And.intro rfl (And.intro rfl (And.intro rfl ?_)))
  show zG w f 4 38 ([some (pR 64 0), some (pR 79 0), some (pI a2), some (pI r5)], [pI a2, pI r5, pR 79 0, pI 10, pR 68 0, pR 64 0], (n, m6))
  obtain ⟨r8, m9, q7, h⟩ := zb_k h
  refine zcallVI (pc := 38) (As := [pR 68 0, pI 10, pR 79 0, pI r5, pI a2]) (st := []) (c := 64) (j := 0) hF (m_X7_carries_68_79  q7) w_X7_carries k_7_179 (by decide +kernel) rfl rfl rfl rfl rfl rfl rfl ?_
  refine zrun hF [(.istore_n 3, 1, pI 0), (.aload_n 0, 1, pI 0), (.aload_n 0, 1, pI 0), (.getfield 32, 3, pR 64 11), (.bipush 10, 2, pI 10), (.aload_n 1, 1, pI 0), (.iload_n 3, 1, pI 0), (.iload_n 2, 1, pI 0)] 41 _ (by decide +kernel) ?_
  refine (And.intro rfl (And.intro rfl (And.intro rfl ?_)))
  show zG w f 4 52 ([some (pR 64 0), some (pR 79 0), some (pI a2), some (pI r8)], [pI a2, pI r8, pR 79 0, pI 10, pR 69 0, pR 64 0], (n, m9))
  obtain ⟨r11, m12, q10, h⟩ := zb_k h
  refine zcallVI (pc := 52) (As := [pR 69 0, pI 10, pR 79 0, pI r8, pI a2]) (st := []) (c := 64) (j := 0) hF (m_X7_carries_69_79  q10) w_X7_carries k_7_179 (by decide +kernel) rfl rfl rfl rfl rfl rfl rfl ?_
  refine zrun hF [(.istore_n 3, 1, pI 0), (.aload_n 0, 1, pI 0), (.aload_n 0, 1, pI 0), (.getfield 35, 3, pR 64 12), (.bipush 10, 2, pI 10), (.aload_n 1, 1, pI 0), (.iload_n 3, 1, pI 0), (.iload_n 2, 1, pI 0)] 55 _ (by decide +kernel) ?_
  refine (And.intro rfl (And.intro rfl (And.intro rfl ?_)))
  show zG w f 4 66 ([some (pR 64 0), some (pR 79 0), some (pI a2), some (pI r11)], [pI a2, pI r11, pR 79 0, pI 10, pR 70 0, pR 64 0], (n, m12))
  obtain ⟨r14, m15, q13, h⟩ := zb_k h
  refine zcallVI (pc := 66) (As := [pR 70 0, pI 10, pR 79 0, pI r11, pI a2]) (st := []) (c := 64) (j := 0) hF (m_X7_carries_70_79  q13) w_X7_carries k_7_179 (by decide +kernel) rfl rfl rfl rfl rfl rfl rfl ?_
  refine zrun hF [(.istore_n 3, 1, pI 0), (.iload_n 2, 1, pI 0)] 69 _ (by decide +kernel) ?_
  refine (And.intro rfl ?_)
  show zG w f 4 71 ([some (pR 64 0), some (pR 79 0), some (pI a2), some (pI r14)], [pI a2], (n, m15))
  refine zif_eq (tgt := 129) (pc := 71) hF (by decide +kernel) (fun b16 => ?_) (fun b16 => ?_)
  · replace h := zit b16 h
    obtain ⟨c17, h⟩ := zchk h
    refine zrun hF [(.aload_n 1, 1, pI 0), (.iload_n 3, 1, pI 0), (.aload_n 0, 1, pI 0), (.getfield 93, 3, pR 64 0), (.iastore, 1, pI 0)] 129 _ (by decide +kernel) ?_
    refine (And.intro rfl (And.intro rfl (And.intro rfl (And.intro rfl (And.intro c17 ?_)))))
    refine zlet_k (P := fun (m18 : zMem) => zG w f 4 136 ([some (pR 64 0), some (pR 79 0), some (pI a2), some (pI r14)], [], (n, m18))) h (fun m18 h => ?_)
    obtain ⟨c19, h⟩ := zchk h
    refine zrun hF [(.aload_n 1, 1, pI 0), (.iload_n 3, 1, pI 0), (.iconst 1, 1, pI 1), (.iadd, 1, pI 0), (.aload_n 0, 1, pI 0), (.getfield 7, 3, pR 64 1), (.iastore, 1, pI 0)] 136 _ (by decide +kernel) ?_
    refine (And.intro rfl (And.intro rfl (And.intro rfl (And.intro rfl (And.intro c19 ?_)))))
    refine zlet_k (P := fun (m20 : zMem) => zG w f 4 145 ([some (pR 64 0), some (pR 79 0), some (pI a2), some (pI r14)], [], (n, m20))) h (fun m20 h => ?_)
    obtain ⟨c21, h⟩ := zchk h
    refine zrun hF [(.aload_n 1, 1, pI 0), (.iload_n 3, 1, pI 0), (.iconst 2, 1, pI 2), (.iadd, 1, pI 0), (.aload_n 0, 1, pI 0), (.getfield 141, 3, pR 64 2), (.iastore, 1, pI 0)] 145 _ (by decide +kernel) ?_
    refine (And.intro rfl (And.intro rfl (And.intro rfl (And.intro rfl (And.intro c21 ?_)))))
    refine zlet_k (P := fun (m22 : zMem) => zG w f 4 154 ([some (pR 64 0), some (pR 79 0), some (pI a2), some (pI r14)], [], (n, m22))) h (fun m22 h => ?_)
    obtain ⟨c23, h⟩ := zchk h
    refine zrun hF [(.aload_n 1, 1, pI 0), (.iload_n 3, 1, pI 0), (.iconst 3, 1, pI 3), (.iadd, 1, pI 0), (.aload_n 0, 1, pI 0), (.getfield 183, 3, pR 64 3), (.iastore, 1, pI 0)] 154 _ (by decide +kernel) ?_
    refine (And.intro rfl (And.intro rfl (And.intro rfl (And.intro rfl (And.intro c23 ?_)))))
    refine zlet_k (P := fun (m24 : zMem) => zG w f 4 163 ([some (pR 64 0), some (pR 79 0), some (pI a2), some (pI r14)], [], (n, m24))) h (fun m24 h => ?_)
    obtain ⟨c25, h⟩ := zchk h
    refine zrun hF [(.aload_n 1, 1, pI 0), (.iload_n 3, 1, pI 0), (.iconst 4, 1, pI 4), (.iadd, 1, pI 0), (.aload_n 0, 1, pI 0), (.getfield 186, 3, pR 64 4), (.iastore, 1, pI 0)] 163 _ (by decide +kernel) ?_
    refine (And.intro rfl (And.intro rfl (And.intro rfl (And.intro rfl (And.intro c25 ?_)))))
    refine zlet_k (P := fun (m26 : zMem) => zG w f 4 172 ([some (pR 64 0), some (pR 79 0), some (pI a2), some (pI r14)], [], (n, m26))) h (fun m26 h => ?_)
    obtain ⟨c27, h⟩ := zchk h
    refine zrun hF [(.aload_n 1, 1, pI 0), (.iload_n 3, 1, pI 0), (.iconst 5, 1, pI 5), (.iadd, 1, pI 0), (.aload_n 0, 1, pI 0), (.getfield 13, 3, pR 64 5), (.iastore, 1, pI 0)] 172 _ (by decide +kernel) ?_
    refine (And.intro rfl (And.intro rfl (And.intro rfl (And.intro rfl (And.intro c27 ?_)))))
    refine zlet_k (P := fun (m28 : zMem) => zG w f 4 181 ([some (pR 64 0), some (pR 79 0), some (pI a2), some (pI r14)], [], (n, m28))) h (fun m28 h => ?_)
    exact zretV (pc := 181) hF hR (by decide +kernel) (congrArg (fun q => (n, q)) (Option.some.inj h))
  · replace h := zif b16 h
    obtain ⟨c29, h⟩ := zchk h
    refine zrun hF [(.aload_n 0, 1, pI 0), (.aload_n 1, 1, pI 0), (.iload_n 3, 1, pI 0), (.iaload, 1, pI 0), (.putfield 93, 3, pR 64 0)] 74 _ (by decide +kernel) ?_
    refine (And.intro rfl (And.intro rfl (And.intro c29 (And.intro rfl (And.intro rfl (And.intro trivial ?_))))))
    refine zlet_k (P := fun (m30 : zMem) => zG w f 4 81 ([some (pR 64 0), some (pR 79 0), some (pI a2), some (pI r14)], [], (n, m30))) h (fun m30 h => ?_)
    obtain ⟨c31, h⟩ := zchk h
    refine zrun hF [(.aload_n 0, 1, pI 0), (.aload_n 1, 1, pI 0), (.iload_n 3, 1, pI 0), (.iconst 1, 1, pI 1), (.iadd, 1, pI 0), (.iaload, 1, pI 0), (.putfield 7, 3, pR 64 1)] 81 _ (by decide +kernel) ?_
    refine (And.intro rfl (And.intro rfl (And.intro c31 (And.intro rfl (And.intro rfl (And.intro trivial ?_))))))
    refine zlet_k (P := fun (m32 : zMem) => zG w f 4 90 ([some (pR 64 0), some (pR 79 0), some (pI a2), some (pI r14)], [], (n, m32))) h (fun m32 h => ?_)
    obtain ⟨c33, h⟩ := zchk h
    refine zrun hF [(.aload_n 0, 1, pI 0), (.aload_n 1, 1, pI 0), (.iload_n 3, 1, pI 0), (.iconst 2, 1, pI 2), (.iadd, 1, pI 0), (.iaload, 1, pI 0), (.putfield 141, 3, pR 64 2)] 90 _ (by decide +kernel) ?_
    refine (And.intro rfl (And.intro rfl (And.intro c33 (And.intro rfl (And.intro rfl (And.intro trivial ?_))))))
    refine zlet_k (P := fun (m34 : zMem) => zG w f 4 99 ([some (pR 64 0), some (pR 79 0), some (pI a2), some (pI r14)], [], (n, m34))) h (fun m34 h => ?_)
    obtain ⟨c35, h⟩ := zchk h
    refine zrun hF [(.aload_n 0, 1, pI 0), (.aload_n 1, 1, pI 0), (.iload_n 3, 1, pI 0), (.iconst 3, 1, pI 3), (.iadd, 1, pI 0), (.iaload, 1, pI 0), (.putfield 183, 3, pR 64 3)] 99 _ (by decide +kernel) ?_
    refine (And.intro rfl (And.intro rfl (And.intro c35 (And.intro rfl (And.intro rfl (And.intro trivial ?_))))))
    refine zlet_k (P := fun (m36 : zMem) => zG w f 4 108 ([some (pR 64 0), some (pR 79 0), some (pI a2), some (pI r14)], [], (n, m36))) h (fun m36 h => ?_)
    obtain ⟨c37, h⟩ := zchk h
    refine zrun hF [(.aload_n 0, 1, pI 0), (.aload_n 1, 1, pI 0), (.iload_n 3, 1, pI 0), (.iconst 4, 1, pI 4), (.iadd, 1, pI 0), (.iaload, 1, pI 0), (.putfield 186, 3, pR 64 4)] 108 _ (by decide +kernel) ?_
    refine (And.intro rfl (And.intro rfl (And.intro c37 (And.intro rfl (And.intro rfl (And.intro trivial ?_))))))
    refine zlet_k (P := fun (m38 : zMem) => zG w f 4 117 ([some (pR 64 0), some (pR 79 0), some (pI a2), some (pI r14)], [], (n, m38))) h (fun m38 h => ?_)
    obtain ⟨c39, h⟩ := zchk h
    refine zrun hF [(.aload_n 0, 1, pI 0), (.aload_n 1, 1, pI 0), (.iload_n 3, 1, pI 0), (.iconst 5, 1, pI 5), (.iadd, 1, pI 0), (.iaload, 1, pI 0), (.putfield 13, 3, pR 64 5)] 117 _ (by decide +kernel) ?_
    refine (And.intro rfl (And.intro rfl (And.intro c39 (And.intro rfl (And.intro rfl (And.intro trivial ?_))))))
    refine zlet_k (P := fun (m40 : zMem) => zG w f 4 126 ([some (pR 64 0), some (pR 79 0), some (pI a2), some (pI r14)], [], (n, m40))) h (fun m40 h => ?_)
    refine zgoto (tgt := 181) (pc := 126) hF (by decide +kernel) ?_
    exact zretV (pc := 181) hF hR (by decide +kernel) (congrArg (fun q => (n, q)) (Option.some.inj h))

set_option maxHeartbeats 4000000 in
set_option maxRecDepth 100000 in
theorem m_X7_isWordAt_L86 {w : zWd} {f : zFr} {n : zMem} {x : Int32} {lc : Launch} {mr : zMem} (hl : f.2.1 = lc) (hF : zFOK w f 7 cX7_isWordAt 4 1) (hR : zFin w f (some .boolean) (zQI w x (n, mr))) : ∀ (x2 : Int32) (m : zMem), m = mr → s_X7_isWordAt_L86 x2 m = some x → zG w f 4 86 ([some (pR 64 0), none, some (pI x2), none], [], (n, m)) := by
  intro x2 m hm h
  unfold s_X7_isWordAt_L86 at h
  obtain ⟨c9, h⟩ := zchk h
  refine zrun hF [(.aload_n 0, 1, pI 0), (.getfield 57, 3, pR 64 19), (.iload_n 2, 1, pI 0), (.iaload, 1, pI 0), (.bipush 32, 2, pI 32)] 86 _ (by decide +kernel) ?_
  refine (And.intro rfl (And.intro rfl (And.intro rfl (And.intro rfl (And.intro c9 ?_)))))
  show zG w f 4 94 ([some (pR 64 0), none, some (pI x2), none], [pI 32, pI (m.1 77 0 (ix x2))], (n, m))
  refine zicmp_gt (tgt := 101) (pc := 94) hF (by decide +kernel) (fun b10 => ?_) (fun b10 => ?_)
  · replace h := zit b10 h
    refine zrun hF [(.iconst 0, 1, pI 0)] 101 _ (by decide +kernel) ?_
    show zG w f 4 102 ([some (pR 64 0), none, some (pI x2), none], [pI 0], (n, m))
    exact zretI (pc := 102) hF hR (by decide +kernel) (by decide +kernel) (Option.some.inj h) (congrArg (fun q => (n, q)) hm)
  · replace h := zif b10 h
    refine zrun hF [(.iconst 1, 1, pI 1)] 97 _ (by decide +kernel) ?_
    show zG w f 4 98 ([some (pR 64 0), none, some (pI x2), none], [pI 1], (n, m))
    refine zgoto (tgt := 102) (pc := 98) hF (by decide +kernel) ?_
    exact zretI (pc := 102) hF hR (by decide +kernel) (by decide +kernel) (Option.some.inj h) (congrArg (fun q => (n, q)) hm)

set_option maxHeartbeats 4000000 in
set_option maxRecDepth 100000 in
theorem m_X7_isWordAt_L37 {w : zWd} {f : zFr} {n : zMem} {x : Int32} {lc : Launch} {mr : zMem} (hl : f.2.1 = lc) (hF : zFOK w f 7 cX7_isWordAt 4 1) (hR : zFin w f (some .boolean) (zQI w x (n, mr))) : ∀ (k : Nat) (x2 : Int32) (x3 : Int32) (m : zMem), m = mr → s_X7_isWordAt_L37 k x2 x3 m = some x → zG w f 4 37 ([some (pR 64 0), none, some (pI x2), some (pI x3)], [], (n, m)) := by
  intro k
  induction k with
  | zero => intro x2 x3 m hm h; exact zno h
  | succ k ih =>
    intro x2 x3 m hm h
    unfold s_X7_isWordAt_L37 at h
    obtain ⟨c4, h⟩ := zchk h
    refine zrun hF [(.aload_n 0, 1, pI 0), (.getfield 57, 3, pR 64 19), (.iload_n 2, 1, pI 0), (.iaload, 1, pI 0), (.bipush 32, 2, pI 32)] 37 _ (by decide +kernel) ?_
    refine (And.intro rfl (And.intro rfl (And.intro rfl (And.intro rfl (And.intro c4 ?_)))))
    show zG w f 4 45 ([some (pR 64 0), none, some (pI x2), some (pI x3)], [pI 32, pI (m.1 77 0 (ix x2))], (n, m))
    refine zicmp_le (tgt := 86) (pc := 45) hF (by decide +kernel) (fun b5 => ?_) (fun b5 => ?_)
    · replace h := zit b5 h
      refine zcut [true, true, true, false] ?_
      exact m_X7_isWordAt_L86 hl hF hR  _ _  hm h
    · replace h := zif b5 h
      refine zrun hF [(.iload_n 3, 1, pI 0), (.aload_n 0, 1, pI 0), (.getfield 150, 3, pR 64 23)] 48 _ (by decide +kernel) ?_
      refine (And.intro rfl (And.intro rfl ?_))
      show zG w f 4 53 ([some (pR 64 0), none, some (pI x2), some (pI x3)], [pI (m.1 64 0 23), pI x3], (n, m))
      refine zicmp_ge (tgt := 86) (pc := 53) hF (by decide +kernel) (fun b6 => ?_) (fun b6 => ?_)
      · replace h := zit b6 h
        refine zcut [true, true, true, false] ?_
        exact m_X7_isWordAt_L86 hl hF hR  _ _  hm h
      · replace h := zif b6 h
        obtain ⟨c7, h⟩ := zchk h
        refine zrun hF [(.aload_n 0, 1, pI 0), (.getfield 50, 3, pR 64 17), (.aload_n 0, 1, pI 0), (.getfield 153, 3, pR 64 21), (.iload_n 3, 1, pI 0), (.iadd, 1, pI 0), (.laload, 1, pI 0), (.l2i, 1, pI 0), (.aload_n 0, 1, pI 0), (.getfield 57, 3, pR 64 19), (.iload_n 2, 1, pI 0), (.iaload, 1, pI 0)] 56 _ (by decide +kernel) ?_
        refine (And.intro rfl (And.intro rfl (And.intro rfl (And.intro rfl (And.intro rfl (And.intro rfl (And.intro c7 (And.intro rfl (And.intro rfl (And.intro rfl (And.intro rfl (And.intro c4 ?_))))))))))))
        show zG w f 4 74 ([some (pR 64 0), none, some (pI x2), some (pI x3)], [pI (m.1 77 0 (ix x2)), pI (Int64.toInt32 (m.2 75 0 (ix ((m.1 64 0 21) + x3))))], (n, m))
        refine zicmp_ne (tgt := 86) (pc := 74) hF (by decide +kernel) (fun b8 => ?_) (fun b8 => ?_)
        · replace h := zit b8 h
          refine zrun hF [(.iinc 3 1, 3, pI 1), (.iinc 2 1, 3, pI 1)] 77 _ (by decide +kernel) ?_
          refine (And.intro rfl (And.intro rfl ?_))
          show zG w f 4 83 ([some (pR 64 0), none, some (pI (x2 + 1)), some (pI (x3 + 1))], [], (n, m))
          refine zgoto (tgt := 37) (pc := 83) hF (by decide +kernel) ?_
          exact ih _ _ _  hm h
        · replace h := zif b8 h
          refine zcut [true, true, true, false] ?_
          exact m_X7_isWordAt_L86 hl hF hR  _ _  hm h

set_option maxHeartbeats 4000000 in
set_option maxRecDepth 100000 in
theorem m_X7_isWordAt_L24 {w : zWd} {f : zFr} {n : zMem} {x : Int32} {lc : Launch} {mr : zMem} (hl : f.2.1 = lc) (hF : zFOK w f 7 cX7_isWordAt 4 1) (hR : zFin w f (some .boolean) (zQI w x (n, mr))) {k4 : Int32 → Int32 → Int32 → zMem → Option Int32} (hk4 : ∀ (x1 : Int32) (x2 : Int32) (x3 : Int32) (m : zMem), m = mr → k4 x1 x2 x3 m = some x → zG w f 4 4 ([some (pR 64 0), some (pI x1), some (pI x2), some (pI x3)], [], (n, m))) : ∀ (x1 : Int32) (x2 : Int32) (y0 : Int32) (y1 : Int32) (m : zMem), m = mr → s_X7_isWordAt_L24 k4 x1 x2 y0 y1 m = some x → zG w f 4 24 ([some (pR 64 0), some (pI x1), some (pI x2), none], [pI y1, pI y0], (n, m)) := by
  intro x1 x2 y0 y1 m hm h
  unfold s_X7_isWordAt_L24 at h
  refine zrun hF [(.iadd, 1, pI 0), (.istore_n 3, 1, pI 0), (.iinc 2 1, 3, pI 1)] 24 _ (by decide +kernel) ?_
  refine (And.intro rfl (And.intro rfl ?_))
  show zG w f 4 29 ([some (pR 64 0), some (pI x1), some (pI (x2 + 1)), some (pI (y0 + y1))], [], (n, m))
  refine zgoto (tgt := 4) (pc := 29) hF (by decide +kernel) ?_
  exact hk4 _ _ _ _  hm h

set_option maxHeartbeats 4000000 in
set_option maxRecDepth 100000 in
theorem m_X7_isWordAt_L4 {w : zWd} {f : zFr} {n : zMem} {x : Int32} {lc : Launch} {mr : zMem} (hl : f.2.1 = lc) (hF : zFOK w f 7 cX7_isWordAt 4 1) (hR : zFin w f (some .boolean) (zQI w x (n, mr))) : ∀ (k : Nat) (x1 : Int32) (x2 : Int32) (x3 : Int32) (m : zMem), m = mr → s_X7_isWordAt_L4 k x1 x2 x3 m = some x → zG w f 4 4 ([some (pR 64 0), some (pI x1), some (pI x2), some (pI x3)], [], (n, m)) := by
  intro k
  induction k with
  | zero => intro x1 x2 x3 m hm h; exact zno h
  | succ k ih =>
    intro x1 x2 x3 m hm h
    unfold s_X7_isWordAt_L4 at h
    refine zrun hF [(.iload_n 3, 1, pI 0), (.iload_n 1, 1, pI 0)] 4 _ (by decide +kernel) ?_
    show zG w f 4 6 ([some (pR 64 0), some (pI x1), some (pI x2), some (pI x3)], [pI x1, pI x3], (n, m))
    refine zicmp_ge (tgt := 32) (pc := 6) hF (by decide +kernel) (fun b1 => ?_) (fun b1 => ?_)
    · replace h := zit b1 h
      refine zrun hF [(.aload_n 0, 1, pI 0), (.getfield 147, 3, pR 64 22), (.istore_n 3, 1, pI 0)] 32 _ (by decide +kernel) ?_
      refine (And.intro rfl (And.intro rfl (And.intro rfl ?_)))
      show zG w f 4 37 ([some (pR 64 0), some (pI x1), some (pI x2), some (pI (m.1 64 0 22))], [], (n, m))
      refine zcut [true, false, true, true] ?_
      exact m_X7_isWordAt_L37 hl hF hR  zF _ _ _  hm h
    · replace h := zif b1 h
      obtain ⟨c2, h⟩ := zchk h
      refine zrun hF [(.iload_n 3, 1, pI 0), (.aload_n 0, 1, pI 0), (.getfield 57, 3, pR 64 19), (.iload_n 2, 1, pI 0), (.iaload, 1, pI 0)] 9 _ (by decide +kernel) ?_
      refine (And.intro rfl (And.intro rfl (And.intro rfl (And.intro rfl (And.intro c2 ?_)))))
      show zG w f 4 16 ([some (pR 64 0), some (pI x1), some (pI x2), some (pI x3)], [pI (m.1 77 0 (ix x2)), pI x3], (n, m))
      refine zif_ne (tgt := 23) (pc := 16) hF (by decide +kernel) (fun b3 => ?_) (fun b3 => ?_)
      · replace h := zit b3 h
        refine zrun hF [(.iconst 1, 1, pI 1)] 19 _ (by decide +kernel) ?_
        show zG w f 4 20 ([some (pR 64 0), some (pI x1), some (pI x2), some (pI x3)], [pI 1, pI x3], (n, m))
        refine zgoto (tgt := 24) (pc := 20) hF (by decide +kernel) ?_
        refine zcut [true, true, true, false] ?_
        exact m_X7_isWordAt_L24 hl hF hR ih _ _ _ _ _  hm h
      · replace h := zif b3 h
        refine zrun hF [(.iconst 0, 1, pI 0)] 23 _ (by decide +kernel) ?_
        show zG w f 4 24 ([some (pR 64 0), some (pI x1), some (pI x2), some (pI x3)], [pI 0, pI x3], (n, m))
        refine zcut [true, true, true, false] ?_
        exact m_X7_isWordAt_L24 hl hF hR ih _ _ _ _ _  hm h

set_option maxHeartbeats 4000000 in
set_option maxRecDepth 100000 in
theorem m_X7_isWordAt {w : zWd} {lc : Launch} {n : zMem} {a1 : Int32} {m : zMem} {x : Int32}  (h : s_X7_isWordAt a1 m = some x) : zMet w lc 1 yX7_isWordAt cX7_isWordAt 4 (some .boolean) [pR 64 0, pI a1] (n, m) (zQI w x (n, m)) := by
  refine zmet (o := 7) (by decide +kernel) rfl (Nat.le_of_ble_eq_true rfl) rfl (fun f hl hF hR => ?_)
  unfold s_X7_isWordAt at h
  show zG w f 4 0 ([some (pR 64 0), some (pI a1), none, none], [], (n, m))
  refine zrun hF [(.iconst 0, 1, pI 0), (.istore_n 2, 1, pI 0), (.iconst 0, 1, pI 0), (.istore_n 3, 1, pI 0)] 0 _ (by decide +kernel) ?_
  refine (And.intro rfl (And.intro rfl ?_))
  show zG w f 4 4 ([some (pR 64 0), some (pI a1), some (pI 0), some (pI 0)], [], (n, m))
  exact m_X7_isWordAt_L4 hl hF hR  zF _ _ _ _  rfl h

set_option maxHeartbeats 4000000 in
set_option maxRecDepth 100000 in
theorem m_X7_word_L106 {w : zWd} {f : zFr} {n : zMem} {x : Int32} {m0 : zMem} {lc : Launch} (hl : f.2.1 = lc) (hF : zFOK w f 7 cX7_word 6 1) (hR : zFin w f (some .int) (zQI w x (n, m0))) {k9 : Int32 → Int32 → Int32 → zMem → Option (Int32 × zMem)} (hk9 : ∀ (x1 : Int32) (x2 : Int32) (x3 : Int32) (m : zMem), k9 x1 x2 x3 m = some (x, m0) → zG w f 6 9 ([some (pR 64 0), some (pI x1), some (pI x2), some (pI x3), none, none], [], (n, m))) : ∀ (k : Nat) (x1 : Int32) (x2 : Int32) (x3 : Int32) (m : zMem), s_X7_word_L106 k9 k x1 x2 x3 m = some (x, m0) → zG w f 6 106 ([some (pR 64 0), some (pI x1), some (pI x2), some (pI x3), none, none], [], (n, m)) := by
  intro k
  induction k with
  | zero => intro x1 x2 x3 m h; exact zno h
  | succ k ih =>
    intro x1 x2 x3 m h
    unfold s_X7_word_L106 at h
    obtain ⟨c12, h⟩ := zchk h
    refine zrun hF [(.aload_n 0, 1, pI 0), (.getfield 57, 3, pR 64 19), (.iload_n 1, 1, pI 0), (.iaload, 1, pI 0)] 106 _ (by decide +kernel) ?_
    refine (And.intro rfl (And.intro rfl (And.intro rfl (And.intro rfl (And.intro c12 ?_)))))
    show zG w f 6 112 ([some (pR 64 0), some (pI x1), some (pI x2), some (pI x3), none, none], [pI (m.1 77 0 (ix x1))], (n, m))
    refine zif_eq (tgt := 121) (pc := 112) hF (by decide +kernel) (fun b13 => ?_) (fun b13 => ?_)
    · replace h := zit b13 h
      refine zrun hF [(.iinc 1 1, 3, pI 1), (.iinc 3 1, 3, pI 1)] 121 _ (by decide +kernel) ?_
      refine (And.intro rfl (And.intro rfl ?_))
      show zG w f 6 127 ([some (pR 64 0), some (pI (x1 + 1)), some (pI x2), some (pI (x3 + 1)), none, none], [], (n, m))
      refine zgoto (tgt := 9) (pc := 127) hF (by decide +kernel) ?_
      exact hk9 _ _ _ _  h
    · replace h := zif b13 h
      refine zrun hF [(.iinc 1 1, 3, pI 1)] 115 _ (by decide +kernel) ?_
      refine (And.intro rfl ?_)
      show zG w f 6 118 ([some (pR 64 0), some (pI (x1 + 1)), some (pI x2), some (pI x3), none, none], [], (n, m))
      refine zgoto (tgt := 106) (pc := 118) hF (by decide +kernel) ?_
      exact ih _ _ _ _  h

set_option maxHeartbeats 4000000 in
set_option maxRecDepth 100000 in
theorem m_X7_word_L105 {w : zWd} {f : zFr} {n : zMem} {x : Int32} {m0 : zMem} {lc : Launch} (hl : f.2.1 = lc) (hF : zFOK w f 7 cX7_word 6 1) (hR : zFin w f (some .int) (zQI w x (n, m0))) {k9 : Int32 → Int32 → Int32 → zMem → Option (Int32 × zMem)} (hk9 : ∀ (x1 : Int32) (x2 : Int32) (x3 : Int32) (m : zMem), k9 x1 x2 x3 m = some (x, m0) → zG w f 6 9 ([some (pR 64 0), some (pI x1), some (pI x2), some (pI x3), none, none], [], (n, m))) : ∀ (x1 : Int32) (x3 : Int32) (y0 : Int32) (m : zMem), s_X7_word_L105 k9 x1 x3 y0 m = some (x, m0) → zG w f 6 105 ([some (pR 64 0), some (pI x1), none, some (pI x3), none, none], [pI y0], (n, m)) := by
  intro x1 x3 y0 m h
  unfold s_X7_word_L105 at h
  refine zrun hF [(.istore_n 2, 1, pI 0)] 105 _ (by decide +kernel) ?_
  refine (And.intro rfl ?_)
  show zG w f 6 106 ([some (pR 64 0), some (pI x1), some (pI y0), some (pI x3), none, none], [], (n, m))
  exact m_X7_word_L106 hl hF hR hk9 zF _ _ _ _  h

set_option maxHeartbeats 4000000 in
set_option maxRecDepth 100000 in
theorem m_X7_word_L75 {w : zWd} {f : zFr} {n : zMem} {x : Int32} {m0 : zMem} {lc : Launch} (hl : f.2.1 = lc) (hF : zFOK w f 7 cX7_word 6 1) (hR : zFin w f (some .int) (zQI w x (n, m0))) {k9 : Int32 → Int32 → Int32 → zMem → Option (Int32 × zMem)} (hk9 : ∀ (x1 : Int32) (x2 : Int32) (x3 : Int32) (m : zMem), k9 x1 x2 x3 m = some (x, m0) → zG w f 6 9 ([some (pR 64 0), some (pI x1), some (pI x2), some (pI x3), none, none], [], (n, m))) : ∀ (x1 : Int32) (x2 : Int32) (x3 : Int32) (x4 : Int32) (x5 : Int32) (m : zMem), s_X7_word_L75 k9 x1 x2 x3 x4 x5 m = some (x, m0) → zG w f 6 75 ([some (pR 64 0), some (pI x1), some (pI x2), some (pI x3), some (pI x4), some (pI x5)], [], (n, m)) := by
  intro x1 x2 x3 x4 x5 m h
  unfold s_X7_word_L75 at h
  obtain ⟨c8, h⟩ := zchk h
  refine zrun hF [(.aload_n 0, 1, pI 0), (.getfield 57, 3, pR 64 19), (.iload 5, 2, pI 0), (.iaload, 1, pI 0)] 75 _ (by decide +kernel) ?_
  refine (And.intro rfl (And.intro rfl (And.intro rfl (And.intro rfl (And.intro c8 ?_)))))
  show zG w f 6 82 ([some (pR 64 0), some (pI x1), some (pI x2), some (pI x3), some (pI x4), some (pI x5)], [pI (m.1 77 0 (ix x5))], (n, m))
  refine zif_ne (tgt := 93) (pc := 82) hF (by decide +kernel) (fun b9 => ?_) (fun b9 => ?_)
  · replace h := zit b9 h
    refine zrun hF [(.aload_n 0, 1, pI 0), (.iload 4, 2, pI 0), (.putfield 147, 3, pR 64 22)] 85 _ (by decide +kernel) ?_
    refine (And.intro rfl (And.intro rfl (And.intro trivial ?_)))
    refine zlet_k (P := fun (m10 : zMem) => zG w f 6 91 ([some (pR 64 0), some (pI x1), some (pI x2), some (pI x3), some (pI x4), some (pI x5)], [], (n, m10))) h (fun m10 h => ?_)
    refine zrun hF [(.iload_n 3, 1, pI 0)] 91 _ (by decide +kernel) ?_
    show zG w f 6 92 ([some (pR 64 0), some (pI x1), some (pI x2), some (pI x3), some (pI x4), some (pI x5)], [pI x3], (n, m10))
    exact zretI (pc := 92) hF hR (by decide +kernel) rfl (congrArg Prod.fst (Option.some.inj h)) (congrArg (fun (q : Int32 × zMem) => (n, q.2)) (Option.some.inj h))
  · replace h := zif b9 h
    refine zrun hF [(.iload 4, 2, pI 0), (.iload_n 2, 1, pI 0)] 93 _ (by decide +kernel) ?_
    show zG w f 6 96 ([some (pR 64 0), some (pI x1), some (pI x2), some (pI x3), some (pI x4), some (pI x5)], [pI x2, pI x4], (n, m))
    refine zicmp_le (tgt := 104) (pc := 96) hF (by decide +kernel) (fun b11 => ?_) (fun b11 => ?_)
    · replace h := zit b11 h
      refine zrun hF [(.iload_n 2, 1, pI 0)] 104 _ (by decide +kernel) ?_
      show zG w f 6 105 ([some (pR 64 0), some (pI x1), some (pI x2), some (pI x3), some (pI x4), some (pI x5)], [pI x2], (n, m))
      refine zcut [true, true, false, true, false, false] ?_
      exact m_X7_word_L105 hl hF hR hk9 _ _ _ _  h
    · replace h := zif b11 h
      refine zrun hF [(.iload 4, 2, pI 0)] 99 _ (by decide +kernel) ?_
      show zG w f 6 101 ([some (pR 64 0), some (pI x1), some (pI x2), some (pI x3), some (pI x4), some (pI x5)], [pI x4], (n, m))
      refine zgoto (tgt := 105) (pc := 101) hF (by decide +kernel) ?_
      refine zcut [true, true, false, true, false, false] ?_
      exact m_X7_word_L105 hl hF hR hk9 _ _ _ _  h

set_option maxHeartbeats 4000000 in
set_option maxRecDepth 100000 in
theorem m_X7_word_L24 {w : zWd} {f : zFr} {n : zMem} {x : Int32} {m0 : zMem} {lc : Launch} (hl : f.2.1 = lc) (hF : zFOK w f 7 cX7_word 6 1) (hR : zFin w f (some .int) (zQI w x (n, m0))) {k9 : Int32 → Int32 → Int32 → zMem → Option (Int32 × zMem)} (hk9 : ∀ (x1 : Int32) (x2 : Int32) (x3 : Int32) (m : zMem), k9 x1 x2 x3 m = some (x, m0) → zG w f 6 9 ([some (pR 64 0), some (pI x1), some (pI x2), some (pI x3), none, none], [], (n, m))) : ∀ (k : Nat) (x1 : Int32) (x2 : Int32) (x3 : Int32) (x4 : Int32) (x5 : Int32) (m : zMem), s_X7_word_L24 k9 k x1 x2 x3 x4 x5 m = some (x, m0) → zG w f 6 24 ([some (pR 64 0), some (pI x1), some (pI x2), some (pI x3), some (pI x4), some (pI x5)], [], (n, m)) := by
  intro k
  induction k with
  | zero => intro x1 x2 x3 x4 x5 m h; exact zno h
  | succ k ih =>
    intro x1 x2 x3 x4 x5 m h
    unfold s_X7_word_L24 at h
    obtain ⟨c3, h⟩ := zchk h
    refine zrun hF [(.aload_n 0, 1, pI 0), (.getfield 57, 3, pR 64 19), (.iload 5, 2, pI 0), (.iaload, 1, pI 0)] 24 _ (by decide +kernel) ?_
    refine (And.intro rfl (And.intro rfl (And.intro rfl (And.intro rfl (And.intro c3 ?_)))))
    show zG w f 6 31 ([some (pR 64 0), some (pI x1), some (pI x2), some (pI x3), some (pI x4), some (pI x5)], [pI (m.1 77 0 (ix x5))], (n, m))
    refine zif_eq (tgt := 75) (pc := 31) hF (by decide +kernel) (fun b4 => ?_) (fun b4 => ?_)
    · replace h := zit b4 h
      exact m_X7_word_L75 hl hF hR hk9 _ _ _ _ _ _  h
    · replace h := zif b4 h
      refine zrun hF [(.iload 4, 2, pI 0), (.aload_n 0, 1, pI 0), (.getfield 150, 3, pR 64 23)] 34 _ (by decide +kernel) ?_
      refine (And.intro rfl (And.intro rfl ?_))
      show zG w f 6 40 ([some (pR 64 0), some (pI x1), some (pI x2), some (pI x3), some (pI x4), some (pI x5)], [pI (m.1 64 0 23), pI x4], (n, m))
      refine zicmp_ge (tgt := 75) (pc := 40) hF (by decide +kernel) (fun b5 => ?_) (fun b5 => ?_)
      · replace h := zit b5 h
        exact m_X7_word_L75 hl hF hR hk9 _ _ _ _ _ _  h
      · replace h := zif b5 h
        obtain ⟨c6, h⟩ := zchk h
        refine zrun hF [(.aload_n 0, 1, pI 0), (.getfield 50, 3, pR 64 17), (.aload_n 0, 1, pI 0), (.getfield 153, 3, pR 64 21), (.iload 4, 2, pI 0), (.iadd, 1, pI 0), (.laload, 1, pI 0), (.l2i, 1, pI 0), (.aload_n 0, 1, pI 0), (.getfield 57, 3, pR 64 19), (.iload 5, 2, pI 0), (.iaload, 1, pI 0)] 43 _ (by decide +kernel) ?_
        refine (And.intro rfl (And.intro rfl (And.intro rfl (And.intro rfl (And.intro rfl (And.intro rfl (And.intro c6 (And.intro rfl (And.intro rfl (And.intro rfl (And.intro rfl (And.intro c3 ?_))))))))))))
        show zG w f 6 63 ([some (pR 64 0), some (pI x1), some (pI x2), some (pI x3), some (pI x4), some (pI x5)], [pI (m.1 77 0 (ix x5)), pI (Int64.toInt32 (m.2 75 0 (ix ((m.1 64 0 21) + x4))))], (n, m))
        refine zicmp_ne (tgt := 75) (pc := 63) hF (by decide +kernel) (fun b7 => ?_) (fun b7 => ?_)
        · replace h := zit b7 h
          refine zrun hF [(.iinc 4 1, 3, pI 1), (.iinc 5 1, 3, pI 1)] 66 _ (by decide +kernel) ?_
          refine (And.intro rfl (And.intro rfl ?_))
          show zG w f 6 72 ([some (pR 64 0), some (pI x1), some (pI x2), some (pI x3), some (pI (x4 + 1)), some (pI (x5 + 1))], [], (n, m))
          refine zgoto (tgt := 24) (pc := 72) hF (by decide +kernel) ?_
          exact ih _ _ _ _ _ _  h
        · replace h := zif b7 h
          exact m_X7_word_L75 hl hF hR hk9 _ _ _ _ _ _  h

set_option maxHeartbeats 4000000 in
set_option maxRecDepth 100000 in
theorem m_X7_word_L9 {w : zWd} {f : zFr} {n : zMem} {x : Int32} {m0 : zMem} {lc : Launch} (hl : f.2.1 = lc) (hF : zFOK w f 7 cX7_word 6 1) (hR : zFin w f (some .int) (zQI w x (n, m0))) : ∀ (k : Nat) (x1 : Int32) (x2 : Int32) (x3 : Int32) (m : zMem), s_X7_word_L9 k x1 x2 x3 m = some (x, m0) → zG w f 6 9 ([some (pR 64 0), some (pI x1), some (pI x2), some (pI x3), none, none], [], (n, m)) := by
  intro k
  induction k with
  | zero => intro x1 x2 x3 m h; exact zno h
  | succ k ih =>
    intro x1 x2 x3 m h
    unfold s_X7_word_L9 at h
    refine zrun hF [(.iload_n 3, 1, pI 0), (.bipush 6, 2, pI 6)] 9 _ (by decide +kernel) ?_
    show zG w f 6 12 ([some (pR 64 0), some (pI x1), some (pI x2), some (pI x3), none, none], [pI 6, pI x3], (n, m))
    refine zicmp_ge (tgt := 130) (pc := 12) hF (by decide +kernel) (fun b1 => ?_) (fun b1 => ?_)
    · replace h := zit b1 h
      refine zrun hF [(.aload_n 0, 1, pI 0), (.iload_n 2, 1, pI 0), (.putfield 144, 3, pR 64 25)] 130 _ (by decide +kernel) ?_
      refine (And.intro rfl (And.intro rfl (And.intro trivial ?_)))
      refine zlet_k (P := fun (m2 : zMem) => zG w f 6 135 ([some (pR 64 0), some (pI x1), some (pI x2), some (pI x3), none, none], [], (n, m2))) h (fun m2 h => ?_)
      refine zrun hF [(.iconst (-1), 1, pI (-1))] 135 _ (by decide +kernel) ?_
      show zG w f 6 136 ([some (pR 64 0), some (pI x1), some (pI x2), some (pI x3), none, none], [pI (-1)], (n, m2))
      exact zretI (pc := 136) hF hR (by decide +kernel) rfl (congrArg Prod.fst (Option.some.inj h)) (congrArg (fun (q : Int32 × zMem) => (n, q.2)) (Option.some.inj h))
    · replace h := zif b1 h
      refine zrun hF [(.aload_n 0, 1, pI 0), (.getfield 147, 3, pR 64 22), (.istore 4, 2, pI 0), (.iload_n 1, 1, pI 0), (.istore 5, 2, pI 0)] 15 _ (by decide +kernel) ?_
      refine (And.intro rfl (And.intro rfl (And.intro rfl (And.intro rfl ?_))))
      show zG w f 6 24 ([some (pR 64 0), some (pI x1), some (pI x2), some (pI x3), some (pI (m.1 64 0 22)), some (pI x1)], [], (n, m))
      exact m_X7_word_L24 hl hF hR ih zF _ _ _ _ _ _  h

set_option maxHeartbeats 4000000 in
set_option maxRecDepth 100000 in
theorem m_X7_word {w : zWd} {lc : Launch} {n : zMem}  {m : zMem} {x : Int32} {m0 : zMem}  (h : s_X7_word m = some (x, m0)) : zMet w lc 1 yX7_word cX7_word 6 (some .int) [pR 64 0] (n, m) (zQI w x (n, m0)) := by
  refine zmet (o := 7) (by decide +kernel) rfl (Nat.le_of_ble_eq_true rfl) rfl (fun f hl hF hR => ?_)
  unfold s_X7_word at h
  show zG w f 6 0 ([some (pR 64 0), none, none, none, none, none], [], (n, m))
  refine zrun hF [(.iconst 0, 1, pI 0), (.istore_n 1, 1, pI 0), (.aload_n 0, 1, pI 0), (.getfield 147, 3, pR 64 22), (.istore_n 2, 1, pI 0), (.iconst 0, 1, pI 0), (.istore_n 3, 1, pI 0)] 0 _ (by decide +kernel) ?_
  refine (And.intro rfl (And.intro rfl (And.intro rfl (And.intro rfl (And.intro rfl ?_)))))
  show zG w f 6 9 ([some (pR 64 0), some (pI 0), some (pI (m.1 64 0 22)), some (pI 0), none, none], [], (n, m))
  exact m_X7_word_L9 hl hF hR  zF _ _ _ _  h

set_option maxHeartbeats 4000000 in
set_option maxRecDepth 100000 in
theorem m_X7_isDigit {w : zWd} {lc : Launch} {n : zMem}  {m : zMem} {x : Int32}  (h : s_X7_isDigit m = some x) : zMet w lc 1 yX7_isDigit cX7_isDigit 1 (some .boolean) [pR 64 0] (n, m) (zQI w x (n, m)) := by
  refine zmet (o := 7) (by decide +kernel) rfl (Nat.le_of_ble_eq_true rfl) rfl (fun f hl hF hR => ?_)
  unfold s_X7_isDigit at h
  show zG w f 1 0 ([some (pR 64 0)], [], (n, m))
  refine zrun hF [(.aload_n 0, 1, pI 0), (.getfield 147, 3, pR 64 22), (.aload_n 0, 1, pI 0), (.getfield 150, 3, pR 64 23)] 0 _ (by decide +kernel) ?_
  refine (And.intro rfl (And.intro rfl (And.intro rfl (And.intro rfl ?_))))
  show zG w f 1 8 ([some (pR 64 0)], [pI (m.1 64 0 23), pI (m.1 64 0 22)], (n, m))
  refine zicmp_ge (tgt := 55) (pc := 8) hF (by decide +kernel) (fun b1 => ?_) (fun b1 => ?_)
  · replace h := zit b1 h
    refine zrun hF [(.iconst 0, 1, pI 0)] 55 _ (by decide +kernel) ?_
    show zG w f 1 56 ([some (pR 64 0)], [pI 0], (n, m))
    exact zretI (pc := 56) hF hR (by decide +kernel) (by decide +kernel) (Option.some.inj h) rfl
  · replace h := zif b1 h
    obtain ⟨c2, h⟩ := zchk h
    refine zrun hF [(.aload_n 0, 1, pI 0), (.getfield 50, 3, pR 64 17), (.aload_n 0, 1, pI 0), (.getfield 153, 3, pR 64 21), (.aload_n 0, 1, pI 0), (.getfield 147, 3, pR 64 22), (.iadd, 1, pI 0), (.laload, 1, pI 0), (.l2i, 1, pI 0), (.bipush 48, 2, pI 48)] 11 _ (by decide +kernel) ?_
    refine (And.intro rfl (And.intro rfl (And.intro rfl (And.intro rfl (And.intro rfl (And.intro rfl (And.intro rfl (And.intro rfl (And.intro c2 ?_)))))))))
    show zG w f 1 28 ([some (pR 64 0)], [pI 48, pI (Int64.toInt32 (m.2 75 0 (ix ((m.1 64 0 21) + (m.1 64 0 22)))))], (n, m))
    refine zicmp_lt (tgt := 55) (pc := 28) hF (by decide +kernel) (fun b3 => ?_) (fun b3 => ?_)
    · replace h := zit b3 h
      refine zrun hF [(.iconst 0, 1, pI 0)] 55 _ (by decide +kernel) ?_
      show zG w f 1 56 ([some (pR 64 0)], [pI 0], (n, m))
      exact zretI (pc := 56) hF hR (by decide +kernel) (by decide +kernel) (Option.some.inj h) rfl
    · replace h := zif b3 h
      refine zrun hF [(.aload_n 0, 1, pI 0), (.getfield 50, 3, pR 64 17), (.aload_n 0, 1, pI 0), (.getfield 153, 3, pR 64 21), (.aload_n 0, 1, pI 0), (.getfield 147, 3, pR 64 22), (.iadd, 1, pI 0), (.laload, 1, pI 0), (.l2i, 1, pI 0), (.bipush 57, 2, pI 57)] 31 _ (by decide +kernel) ?_
      refine (And.intro rfl (And.intro rfl (And.intro rfl (And.intro rfl (And.intro rfl (And.intro rfl (And.intro rfl (And.intro rfl (And.intro c2 ?_)))))))))
      show zG w f 1 48 ([some (pR 64 0)], [pI 57, pI (Int64.toInt32 (m.2 75 0 (ix ((m.1 64 0 21) + (m.1 64 0 22)))))], (n, m))
      refine zicmp_gt (tgt := 55) (pc := 48) hF (by decide +kernel) (fun b4 => ?_) (fun b4 => ?_)
      · replace h := zit b4 h
        refine zrun hF [(.iconst 0, 1, pI 0)] 55 _ (by decide +kernel) ?_
        show zG w f 1 56 ([some (pR 64 0)], [pI 0], (n, m))
        exact zretI (pc := 56) hF hR (by decide +kernel) (by decide +kernel) (Option.some.inj h) rfl
      · replace h := zif b4 h
        refine zrun hF [(.iconst 1, 1, pI 1)] 51 _ (by decide +kernel) ?_
        show zG w f 1 52 ([some (pR 64 0)], [pI 1], (n, m))
        refine zgoto (tgt := 56) (pc := 52) hF (by decide +kernel) ?_
        exact zretI (pc := 56) hF hR (by decide +kernel) (by decide +kernel) (Option.some.inj h) rfl

set_option maxHeartbeats 4000000 in
set_option maxRecDepth 100000 in
theorem m_X7_wrong {w : zWd} {lc : Launch} {n : zMem} {a1 : Int32} {m : zMem} {x : Int32} {m0 : zMem}  (h : s_X7_wrong a1 m = some (x, m0)) : zMet w lc 1 yX7_wrong cX7_wrong 2 (some .boolean) [pR 64 0, pI a1] (n, m) (zQI w x (n, m0)) := by
  refine zmet (o := 7) (by decide +kernel) rfl (Nat.le_of_ble_eq_true rfl) rfl (fun f hl hF hR => ?_)
  unfold s_X7_wrong at h
  show zG w f 2 0 ([some (pR 64 0), some (pI a1)], [], (n, m))
  refine zrun hF [(.aload_n 0, 1, pI 0), (.iload_n 1, 1, pI 0), (.putfield 144, 3, pR 64 25)] 0 _ (by decide +kernel) ?_
  refine (And.intro rfl (And.intro rfl (And.intro trivial ?_)))
  refine zlet_k (P := fun (m1 : zMem) => zG w f 2 5 ([some (pR 64 0), some (pI a1)], [], (n, m1))) h (fun m1 h => ?_)
  refine zrun hF [(.iconst 0, 1, pI 0)] 5 _ (by decide +kernel) ?_
  show zG w f 2 6 ([some (pR 64 0), some (pI a1)], [pI 0], (n, m1))
  exact zretI (pc := 6) hF hR (by decide +kernel) (by decide +kernel) (congrArg Prod.fst (Option.some.inj h)) (congrArg (fun (q : Int32 × zMem) => (n, q.2)) (Option.some.inj h))

set_option maxHeartbeats 4000000 in
set_option maxRecDepth 100000 in
theorem m_X7_reads {w : zWd} {lc : Launch} {n : zMem}  {m : zMem} {x : Int32} {m0 : zMem}  (h : s_X7_reads m = some (x, m0)) : zMet w lc 2 yX7_reads cX7_reads 1 (some .boolean) [pR 64 0] (n, m) (zQI w x (n, m0)) := by
  refine zmet (o := 7) (by decide +kernel) rfl (Nat.le_of_ble_eq_true rfl) rfl (fun f hl hF hR => ?_)
  unfold s_X7_reads at h
  show zG w f 1 0 ([some (pR 64 0)], [], (n, m))
  refine zrun hF [(.aload_n 0, 1, pI 0), (.iconst 0, 1, pI 0), (.putfield 156, 3, pR 64 24)] 0 _ (by decide +kernel) ?_
  refine (And.intro rfl (And.intro rfl (And.intro trivial ?_)))
  refine zlet_k (P := fun (m1 : zMem) => zG w f 1 5 ([some (pR 64 0)], [], (n, m1))) h (fun m1 h => ?_)
  refine zrun hF [(.aload_n 0, 1, pI 0)] 5 _ (by decide +kernel) ?_
  show zG w f 1 6 ([some (pR 64 0)], [pR 64 0], (n, m1))
  obtain ⟨r3, q2, h⟩ := zr_k h
  refine zcallVI (pc := 6) (As := []) (st := []) (c := 64) (j := 0) hF (m_X7_isDigit  q2) w_X7_isDigit k_7_159 (by decide +kernel) rfl rfl rfl rfl rfl rfl rfl ?_
  refine zif_ne (tgt := 21) (pc := 9) hF (by decide +kernel) (fun b4 => ?_) (fun b4 => ?_)
  · replace h := zit b4 h
    refine zrun hF [(.aload_n 0, 1, pI 0), (.aload_n 0, 1, pI 0), (.getfield 147, 3, pR 64 22)] 12 _ (by decide +kernel) ?_
    refine (And.intro rfl (And.intro rfl ?_))
    show zG w f 1 17 ([some (pR 64 0)], [pI (m1.1 64 0 22), pR 64 0], (n, m1))
    obtain ⟨r6, m7, q5, h⟩ := zb_k h
    refine zcallVI (pc := 17) (As := [pI (m1.1 64 0 22)]) (st := []) (c := 64) (j := 0) hF (m_X7_wrong  q5) w_X7_wrong k_7_163 (by decide +kernel) rfl rfl rfl rfl rfl rfl rfl ?_
    obtain ⟨c8, h⟩ := zbo_k h
    exact zretI (pc := 20) hF hR (by decide +kernel) c8 (congrArg Prod.fst (Option.some.inj h)) (congrArg (fun (q : Int32 × zMem) => (n, q.2)) (Option.some.inj h))
  · replace h := zif b4 h
    obtain ⟨c9, h⟩ := zchk h
    refine zrun hF [(.aload_n 0, 1, pI 0), (.aload_n 0, 1, pI 0), (.getfield 50, 3, pR 64 17), (.aload_n 0, 1, pI 0), (.getfield 153, 3, pR 64 21), (.aload_n 0, 1, pI 0), (.getfield 147, 3, pR 64 22), (.iadd, 1, pI 0), (.laload, 1, pI 0), (.l2i, 1, pI 0), (.bipush 48, 2, pI 48), (.isub, 1, pI 0), (.putfield 156, 3, pR 64 24)] 21 _ (by decide +kernel) ?_
    refine (And.intro rfl (And.intro rfl (And.intro rfl (And.intro rfl (And.intro rfl (And.intro rfl (And.intro rfl (And.intro rfl (And.intro c9 (And.intro rfl (And.intro rfl (And.intro trivial ?_))))))))))))
    refine zlet_k (P := fun (m10 : zMem) => zG w f 1 43 ([some (pR 64 0)], [], (n, m10))) h (fun m10 h => ?_)
    refine zrun hF [(.aload_n 0, 1, pI 0), (.dup, 1, pI 0), (.getfield 147, 3, pR 64 22), (.iconst 1, 1, pI 1), (.iadd, 1, pI 0), (.putfield 147, 3, pR 64 22)] 43 _ (by decide +kernel) ?_
    refine (And.intro rfl (And.intro rfl (And.intro rfl (And.intro rfl (And.intro rfl (And.intro trivial ?_))))))
    refine zlet_k (P := fun (m11 : zMem) => zG w f 1 53 ([some (pR 64 0)], [], (n, m11))) h (fun m11 h => ?_)
    refine zrun hF [(.aload_n 0, 1, pI 0)] 53 _ (by decide +kernel) ?_
    show zG w f 1 54 ([some (pR 64 0)], [pR 64 0], (n, m11))
    obtain ⟨r13, q12, h⟩ := zr_k h
    refine zcallVI (pc := 54) (As := []) (st := []) (c := 64) (j := 0) hF (m_X7_isDigit  q12) w_X7_isDigit k_7_159 (by decide +kernel) rfl rfl rfl rfl rfl rfl rfl ?_
    refine zif_eq (tgt := 100) (pc := 57) hF (by decide +kernel) (fun b14 => ?_) (fun b14 => ?_)
    · replace h := zit b14 h
      refine zrun hF [(.iconst 1, 1, pI 1)] 100 _ (by decide +kernel) ?_
      show zG w f 1 101 ([some (pR 64 0)], [pI 1], (n, m11))
      exact zretI (pc := 101) hF hR (by decide +kernel) (by decide +kernel) (congrArg Prod.fst (Option.some.inj h)) (congrArg (fun (q : Int32 × zMem) => (n, q.2)) (Option.some.inj h))
    · replace h := zif b14 h
      obtain ⟨c15, h⟩ := zchk h
      refine zrun hF [(.aload_n 0, 1, pI 0), (.bipush 10, 2, pI 10), (.aload_n 0, 1, pI 0), (.getfield 156, 3, pR 64 24), (.imul, 1, pI 0), (.aload_n 0, 1, pI 0), (.getfield 50, 3, pR 64 17), (.aload_n 0, 1, pI 0), (.getfield 153, 3, pR 64 21), (.aload_n 0, 1, pI 0), (.getfield 147, 3, pR 64 22), (.iadd, 1, pI 0), (.laload, 1, pI 0), (.l2i, 1, pI 0), (.iadd, 1, pI 0), (.bipush 48, 2, pI 48), (.isub, 1, pI 0), (.putfield 156, 3, pR 64 24)] 60 _ (by decide +kernel) ?_
      refine (And.intro rfl (And.intro rfl (And.intro rfl (And.intro rfl (And.intro rfl (And.intro rfl (And.intro rfl (And.intro rfl (And.intro rfl (And.intro rfl (And.intro c15 (And.intro rfl (And.intro rfl (And.intro trivial ?_))))))))))))))
      refine zlet_k (P := fun (m16 : zMem) => zG w f 1 90 ([some (pR 64 0)], [], (n, m16))) h (fun m16 h => ?_)
      refine zrun hF [(.aload_n 0, 1, pI 0), (.dup, 1, pI 0), (.getfield 147, 3, pR 64 22), (.iconst 1, 1, pI 1), (.iadd, 1, pI 0), (.putfield 147, 3, pR 64 22)] 90 _ (by decide +kernel) ?_
      refine (And.intro rfl (And.intro rfl (And.intro rfl (And.intro rfl (And.intro rfl (And.intro trivial ?_))))))
      refine zlet_k (P := fun (m17 : zMem) => zG w f 1 100 ([some (pR 64 0)], [], (n, m17))) h (fun m17 h => ?_)
      refine zrun hF [(.iconst 1, 1, pI 1)] 100 _ (by decide +kernel) ?_
      show zG w f 1 101 ([some (pR 64 0)], [pI 1], (n, m17))
      exact zretI (pc := 101) hF hR (by decide +kernel) (by decide +kernel) (congrArg Prod.fst (Option.some.inj h)) (congrArg (fun (q : Int32 × zMem) => (n, q.2)) (Option.some.inj h))

