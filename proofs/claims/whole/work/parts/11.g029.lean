set_option maxHeartbeats 4000000 in
set_option maxRecDepth 100000 in
theorem m_X7_carries_70_80_L39 {w : zWd} {f : zFr} {n : zMem} {x : Int32} {m0 : zMem} {lc : Launch} (hl : f.2.1 = lc) (hF : zFOK w f 7 cX7_carries 7 1) (hR : zFin w f (some .int) (zQI w x (n, m0))) {k3 : Int32 → Int32 → Int32 → Int32 → zMem → Option (Int32 × zMem)} (hk3 : ∀ (x2 : Int32) (x4 : Int32) (x5 : Int32) (x6 : Int32) (m : zMem), k3 x2 x4 x5 x6 m = some (x, m0) → zG w f 7 3 ([none, some (pR 70 0), some (pI x2), some (pR 80 0), some (pI x4), some (pI x5), some (pI x6)], [], (n, m))) : ∀ (x2 : Int32) (x4 : Int32) (x5 : Int32) (x6 : Int32) (m : zMem), s_X7_carries_70_80_L39 k3 x2 x4 x5 x6 m = some (x, m0) → zG w f 7 39 ([none, some (pR 70 0), some (pI x2), some (pR 80 0), some (pI x4), some (pI x5), some (pI x6)], [], (n, m)) := by
  intro x2 x4 x5 x6 m h
  unfold s_X7_carries_70_80_L39 at h
  refine zrun hF [(.iinc 6 1, 3, pI 1)] 39 _ (by decide +kernel) ?_
  refine (And.intro rfl ?_)
  show zG w f 7 42 ([none, some (pR 70 0), some (pI x2), some (pR 80 0), some (pI x4), some (pI x5), some (pI (x6 + 1))], [], (n, m))
  refine zgoto (tgt := 3) (pc := 42) hF (by decide +kernel) ?_
  exact hk3 _ _ _ _ _  h

set_option maxHeartbeats 4000000 in
set_option maxRecDepth 100000 in
theorem m_X7_carries_70_80_L3 {w : zWd} {f : zFr} {n : zMem} {x : Int32} {m0 : zMem} {lc : Launch} (hl : f.2.1 = lc) (hF : zFOK w f 7 cX7_carries 7 1) (hR : zFin w f (some .int) (zQI w x (n, m0))) : ∀ (k : Nat) (x2 : Int32) (x4 : Int32) (x5 : Int32) (x6 : Int32) (m : zMem), s_X7_carries_70_80_L3 k x2 x4 x5 x6 m = some (x, m0) → zG w f 7 3 ([none, some (pR 70 0), some (pI x2), some (pR 80 0), some (pI x4), some (pI x5), some (pI x6)], [], (n, m)) := by
  intro k
  induction k with
  | zero => intro x2 x4 x5 x6 m h; exact zno h
  | succ k ih =>
    intro x2 x4 x5 x6 m h
    unfold s_X7_carries_70_80_L3 at h
    refine zrun hF [(.iload 6, 2, pI 0), (.iload_n 2, 1, pI 0)] 3 _ (by decide +kernel) ?_
    show zG w f 7 6 ([none, some (pR 70 0), some (pI x2), some (pR 80 0), some (pI x4), some (pI x5), some (pI x6)], [pI x2, pI x6], (n, m))
    refine zicmp_ge (tgt := 45) (pc := 6) hF (by decide +kernel) (fun b1 => ?_) (fun b1 => ?_)
    · replace h := zit b1 h
      refine zrun hF [(.iload 4, 2, pI 0), (.iload_n 2, 1, pI 0), (.iadd, 1, pI 0)] 45 _ (by decide +kernel) ?_
      show zG w f 7 49 ([none, some (pR 70 0), some (pI x2), some (pR 80 0), some (pI x4), some (pI x5), some (pI x6)], [pI (x4 + x2)], (n, m))
      exact zretI (pc := 49) hF hR (by decide +kernel) rfl (congrArg Prod.fst (Option.some.inj h)) (congrArg (fun (q : Int32 × zMem) => (n, q.2)) (Option.some.inj h))
    · replace h := zif b1 h
      refine zrun hF [(.iload 5, 2, pI 0)] 9 _ (by decide +kernel) ?_
      show zG w f 7 11 ([none, some (pR 70 0), some (pI x2), some (pR 80 0), some (pI x4), some (pI x5), some (pI x6)], [pI x5], (n, m))
      refine zif_eq (tgt := 28) (pc := 11) hF (by decide +kernel) (fun b2 => ?_) (fun b2 => ?_)
      · replace h := zit b2 h
        obtain ⟨c3, h⟩ := zchk h
        obtain ⟨c4, h⟩ := zchk h
        refine zrun hF [(.aload_n 3, 1, pI 0), (.iload 4, 2, pI 0), (.iload 6, 2, pI 0), (.iadd, 1, pI 0), (.aload_n 1, 1, pI 0), (.iload 6, 2, pI 0), (.iaload, 1, pI 0), (.iastore, 1, pI 0)] 28 _ (by decide +kernel) ?_
        refine (And.intro rfl (And.intro rfl (And.intro c3 (And.intro rfl (And.intro rfl (And.intro c4 ?_))))))
        refine zlet_k (P := fun (m5 : zMem) => zG w f 7 39 ([none, some (pR 70 0), some (pI x2), some (pR 80 0), some (pI x4), some (pI x5), some (pI x6)], [], (n, m5))) h (fun m5 h => ?_)
        exact m_X7_carries_70_80_L39 hl hF hR ih _ _ _ _ _  h
      · replace h := zif b2 h
        obtain ⟨c6, h⟩ := zchk h
        obtain ⟨c7, h⟩ := zchk h
        refine zrun hF [(.aload_n 1, 1, pI 0), (.iload 6, 2, pI 0), (.aload_n 3, 1, pI 0), (.iload 4, 2, pI 0), (.iload 6, 2, pI 0), (.iadd, 1, pI 0), (.iaload, 1, pI 0), (.iastore, 1, pI 0)] 14 _ (by decide +kernel) ?_
        refine (And.intro rfl (And.intro rfl (And.intro c6 (And.intro rfl (And.intro rfl (And.intro c7 ?_))))))
        refine zlet_k (P := fun (m8 : zMem) => zG w f 7 25 ([none, some (pR 70 0), some (pI x2), some (pR 80 0), some (pI x4), some (pI x5), some (pI x6)], [], (n, m8))) h (fun m8 h => ?_)
        refine zgoto (tgt := 39) (pc := 25) hF (by decide +kernel) ?_
        exact m_X7_carries_70_80_L39 hl hF hR ih _ _ _ _ _  h

set_option maxHeartbeats 4000000 in
set_option maxRecDepth 100000 in
theorem m_X7_carries_70_80 {w : zWd} {lc : Launch} {n : zMem} {a2 : Int32} {a4 : Int32} {a5 : Int32} {m : zMem} {x : Int32} {m0 : zMem}  (h : s_X7_carries_70_80 a2 a4 a5 m = some (x, m0)) : zMet w lc 1 yX7_carries cX7_carries 7 (some .int) [pR 64 0, pR 70 0, pI a2, pR 80 0, pI a4, pI a5] (n, m) (zQI w x (n, m0)) := by
  refine zmet (o := 7) (by decide +kernel) rfl (Nat.le_of_ble_eq_true rfl) rfl (fun f hl hF hR => ?_)
  unfold s_X7_carries_70_80 at h
  show zG w f 7 0 ([some (pR 64 0), some (pR 70 0), some (pI a2), some (pR 80 0), some (pI a4), some (pI a5), none], [], (n, m))
  refine zrun hF [(.iconst 0, 1, pI 0), (.istore 6, 2, pI 0)] 0 _ (by decide +kernel) ?_
  refine (And.intro rfl ?_)
  show zG w f 7 3 ([some (pR 64 0), some (pR 70 0), some (pI a2), some (pR 80 0), some (pI a4), some (pI a5), some (pI 0)], [], (n, m))
  refine zcut [false, true, true, true, true, true, true] ?_
  exact m_X7_carries_70_80_L3 hl hF hR  zF _ _ _ _ _  h

set_option maxHeartbeats 4000000 in
set_option maxRecDepth 100000 in
theorem m_X7_all_80 {w : zWd} {lc : Launch} {n : zMem} {a2 : Int32} {m : zMem} {m0 : zMem}  (h : s_X7_all_80 a2 m = some m0) : zMet w lc 2 yX7_all cX7_all 4 none [pR 64 0, pR 80 0, pI a2] (n, m) (zQV w (n, m0)) := by
  refine zmet (o := 7) (by decide +kernel) rfl (Nat.le_of_ble_eq_true rfl) rfl (fun f hl hF hR => ?_)
  unfold s_X7_all_80 at h
  show zG w f 4 0 ([some (pR 64 0), some (pR 80 0), some (pI a2), none], [], (n, m))
  refine zrun hF [(.aload_n 0, 1, pI 0), (.aload_n 0, 1, pI 0), (.getfield 23, 3, pR 64 8), (.bipush 10, 2, pI 10), (.aload_n 1, 1, pI 0), (.iconst 0, 1, pI 0), (.iload_n 2, 1, pI 0)] 0 _ (by decide +kernel) ?_
  refine (And.intro rfl (And.intro rfl ?_))
  show zG w f 4 10 ([some (pR 64 0), some (pR 80 0), some (pI a2), none], [pI a2, pI 0, pR 80 0, pI 10, pR 66 0, pR 64 0], (n, m))
  obtain ⟨r2, m3, q1, h⟩ := zb_k h
  refine zcallVI (pc := 10) (As := [pR 66 0, pI 10, pR 80 0, pI 0, pI a2]) (st := []) (c := 64) (j := 0) hF (m_X7_carries_66_80  q1) w_X7_carries k_7_179 (by decide +kernel) rfl rfl rfl rfl rfl rfl rfl ?_
  refine zrun hF [(.istore_n 3, 1, pI 0), (.aload_n 0, 1, pI 0), (.aload_n 0, 1, pI 0), (.getfield 26, 3, pR 64 9), (.bipush 10, 2, pI 10), (.aload_n 1, 1, pI 0), (.iload_n 3, 1, pI 0), (.iload_n 2, 1, pI 0)] 13 _ (by decide +kernel) ?_
  refine (And.intro rfl (And.intro rfl (And.intro rfl ?_)))
  show zG w f 4 24 ([some (pR 64 0), some (pR 80 0), some (pI a2), some (pI r2)], [pI a2, pI r2, pR 80 0, pI 10, pR 67 0, pR 64 0], (n, m3))
  obtain ⟨r5, m6, q4, h⟩ := zb_k h
  refine zcallVI (pc := 24) (As := [pR 67 0, pI 10, pR 80 0, pI r2, pI a2]) (st := []) (c := 64) (j := 0) hF (m_X7_carries_67_80  q4) w_X7_carries k_7_179 (by decide +kernel) rfl rfl rfl rfl rfl rfl rfl ?_
  refine zrun hF [(.istore_n 3, 1, pI 0), (.aload_n 0, 1, pI 0), (.aload_n 0, 1, pI 0), (.getfield 29, 3, pR 64 10), (.bipush 10, 2, pI 10), (.aload_n 1, 1, pI 0), (.iload_n 3, 1, pI 0), (.iload_n 2, 1, pI 0)] 27 _ (by decide +kernel) ?_
  refine (And.intro rfl (And.intro rfl (And.intro rfl ?_)))
  show zG w f 4 38 ([some (pR 64 0), some (pR 80 0), some (pI a2), some (pI r5)], [pI a2, pI r5, pR 80 0, pI 10, pR 68 0, pR 64 0], (n, m6))
  obtain ⟨r8, m9, q7, h⟩ := zb_k h
  refine zcallVI (pc := 38) (As := [pR 68 0, pI 10, pR 80 0, pI r5, pI a2]) (st := []) (c := 64) (j := 0) hF (m_X7_carries_68_80  q7) w_X7_carries k_7_179 (by decide +kernel) rfl rfl rfl rfl rfl rfl rfl ?_
  refine zrun hF [(.istore_n 3, 1, pI 0), (.aload_n 0, 1, pI 0), (.aload_n 0, 1, pI 0), (.getfield 32, 3, pR 64 11), (.bipush 10, 2, pI 10), (.aload_n 1, 1, pI 0), (.iload_n 3, 1, pI 0), (.iload_n 2, 1, pI 0)] 41 _ (by decide +kernel) ?_
  refine (And.intro rfl (And.intro rfl (And.intro rfl ?_)))
  show zG w f 4 52 ([some (pR 64 0), some (pR 80 0), some (pI a2), some (pI r8)], [pI a2, pI r8, pR 80 0, pI 10, pR 69 0, pR 64 0], (n, m9))
  obtain ⟨r11, m12, q10, h⟩ := zb_k h
  refine zcallVI (pc := 52) (As := [pR 69 0, pI 10, pR 80 0, pI r8, pI a2]) (st := []) (c := 64) (j := 0) hF (m_X7_carries_69_80  q10) w_X7_carries k_7_179 (by decide +kernel) rfl rfl rfl rfl rfl rfl rfl ?_
  refine zrun hF [(.istore_n 3, 1, pI 0), (.aload_n 0, 1, pI 0), (.aload_n 0, 1, pI 0), (.getfield 35, 3, pR 64 12), (.bipush 10, 2, pI 10), (.aload_n 1, 1, pI 0), (.iload_n 3, 1, pI 0), (.iload_n 2, 1, pI 0)] 55 _ (by decide +kernel) ?_
  refine (And.intro rfl (And.intro rfl (And.intro rfl ?_)))
  show zG w f 4 66 ([some (pR 64 0), some (pR 80 0), some (pI a2), some (pI r11)], [pI a2, pI r11, pR 80 0, pI 10, pR 70 0, pR 64 0], (n, m12))
  obtain ⟨r14, m15, q13, h⟩ := zb_k h
  refine zcallVI (pc := 66) (As := [pR 70 0, pI 10, pR 80 0, pI r11, pI a2]) (st := []) (c := 64) (j := 0) hF (m_X7_carries_70_80  q13) w_X7_carries k_7_179 (by decide +kernel) rfl rfl rfl rfl rfl rfl rfl ?_
  refine zrun hF [(.istore_n 3, 1, pI 0), (.iload_n 2, 1, pI 0)] 69 _ (by decide +kernel) ?_
  refine (And.intro rfl ?_)
  show zG w f 4 71 ([some (pR 64 0), some (pR 80 0), some (pI a2), some (pI r14)], [pI a2], (n, m15))
  refine zif_eq (tgt := 129) (pc := 71) hF (by decide +kernel) (fun b16 => ?_) (fun b16 => ?_)
  · replace h := zit b16 h
    obtain ⟨c17, h⟩ := zchk h
    refine zrun hF [(.aload_n 1, 1, pI 0), (.iload_n 3, 1, pI 0), (.aload_n 0, 1, pI 0), (.getfield 93, 3, pR 64 0), (.iastore, 1, pI 0)] 129 _ (by decide +kernel) ?_
    refine (And.intro rfl (And.intro rfl (And.intro rfl (And.intro rfl (And.intro c17 ?_)))))
    refine zlet_k (P := fun (m18 : zMem) => zG w f 4 136 ([some (pR 64 0), some (pR 80 0), some (pI a2), some (pI r14)], [], (n, m18))) h (fun m18 h => ?_)
    obtain ⟨c19, h⟩ := zchk h
    refine zrun hF [(.aload_n 1, 1, pI 0), (.iload_n 3, 1, pI 0), (.iconst 1, 1, pI 1), (.iadd, 1, pI 0), (.aload_n 0, 1, pI 0), (.getfield 7, 3, pR 64 1), (.iastore, 1, pI 0)] 136 _ (by decide +kernel) ?_
    refine (And.intro rfl (And.intro rfl (And.intro rfl (And.intro rfl (And.intro c19 ?_)))))
    refine zlet_k (P := fun (m20 : zMem) => zG w f 4 145 ([some (pR 64 0), some (pR 80 0), some (pI a2), some (pI r14)], [], (n, m20))) h (fun m20 h => ?_)
    obtain ⟨c21, h⟩ := zchk h
    refine zrun hF [(.aload_n 1, 1, pI 0), (.iload_n 3, 1, pI 0), (.iconst 2, 1, pI 2), (.iadd, 1, pI 0), (.aload_n 0, 1, pI 0), (.getfield 141, 3, pR 64 2), (.iastore, 1, pI 0)] 145 _ (by decide +kernel) ?_
    refine (And.intro rfl (And.intro rfl (And.intro rfl (And.intro rfl (And.intro c21 ?_)))))
    refine zlet_k (P := fun (m22 : zMem) => zG w f 4 154 ([some (pR 64 0), some (pR 80 0), some (pI a2), some (pI r14)], [], (n, m22))) h (fun m22 h => ?_)
    obtain ⟨c23, h⟩ := zchk h
    refine zrun hF [(.aload_n 1, 1, pI 0), (.iload_n 3, 1, pI 0), (.iconst 3, 1, pI 3), (.iadd, 1, pI 0), (.aload_n 0, 1, pI 0), (.getfield 183, 3, pR 64 3), (.iastore, 1, pI 0)] 154 _ (by decide +kernel) ?_
    refine (And.intro rfl (And.intro rfl (And.intro rfl (And.intro rfl (And.intro c23 ?_)))))
    refine zlet_k (P := fun (m24 : zMem) => zG w f 4 163 ([some (pR 64 0), some (pR 80 0), some (pI a2), some (pI r14)], [], (n, m24))) h (fun m24 h => ?_)
    obtain ⟨c25, h⟩ := zchk h
    refine zrun hF [(.aload_n 1, 1, pI 0), (.iload_n 3, 1, pI 0), (.iconst 4, 1, pI 4), (.iadd, 1, pI 0), (.aload_n 0, 1, pI 0), (.getfield 186, 3, pR 64 4), (.iastore, 1, pI 0)] 163 _ (by decide +kernel) ?_
    refine (And.intro rfl (And.intro rfl (And.intro rfl (And.intro rfl (And.intro c25 ?_)))))
    refine zlet_k (P := fun (m26 : zMem) => zG w f 4 172 ([some (pR 64 0), some (pR 80 0), some (pI a2), some (pI r14)], [], (n, m26))) h (fun m26 h => ?_)
    obtain ⟨c27, h⟩ := zchk h
    refine zrun hF [(.aload_n 1, 1, pI 0), (.iload_n 3, 1, pI 0), (.iconst 5, 1, pI 5), (.iadd, 1, pI 0), (.aload_n 0, 1, pI 0), (.getfield 13, 3, pR 64 5), (.iastore, 1, pI 0)] 172 _ (by decide +kernel) ?_
    refine (And.intro rfl (And.intro rfl (And.intro rfl (And.intro rfl (And.intro c27 ?_)))))
    refine zlet_k (P := fun (m28 : zMem) => zG w f 4 181 ([some (pR 64 0), some (pR 80 0), some (pI a2), some (pI r14)], [], (n, m28))) h (fun m28 h => ?_)
    exact zretV (pc := 181) hF hR (by decide +kernel) (congrArg (fun q => (n, q)) (Option.some.inj h))
  · replace h := zif b16 h
    obtain ⟨c29, h⟩ := zchk h
    refine zrun hF [(.aload_n 0, 1, pI 0), (.aload_n 1, 1, pI 0), (.iload_n 3, 1, pI 0), (.iaload, 1, pI 0), (.putfield 93, 3, pR 64 0)] 74 _ (by decide +kernel) ?_
    refine (And.intro rfl (And.intro rfl (And.intro c29 (And.intro rfl (And.intro rfl (And.intro trivial ?_))))))
    refine zlet_k (P := fun (m30 : zMem) => zG w f 4 81 ([some (pR 64 0), some (pR 80 0), some (pI a2), some (pI r14)], [], (n, m30))) h (fun m30 h => ?_)
    obtain ⟨c31, h⟩ := zchk h
    refine zrun hF [(.aload_n 0, 1, pI 0), (.aload_n 1, 1, pI 0), (.iload_n 3, 1, pI 0), (.iconst 1, 1, pI 1), (.iadd, 1, pI 0), (.iaload, 1, pI 0), (.putfield 7, 3, pR 64 1)] 81 _ (by decide +kernel) ?_
    refine (And.intro rfl (And.intro rfl (And.intro c31 (And.intro rfl (And.intro rfl (And.intro trivial ?_))))))
    refine zlet_k (P := fun (m32 : zMem) => zG w f 4 90 ([some (pR 64 0), some (pR 80 0), some (pI a2), some (pI r14)], [], (n, m32))) h (fun m32 h => ?_)
    obtain ⟨c33, h⟩ := zchk h
    refine zrun hF [(.aload_n 0, 1, pI 0), (.aload_n 1, 1, pI 0), (.iload_n 3, 1, pI 0), (.iconst 2, 1, pI 2), (.iadd, 1, pI 0), (.iaload, 1, pI 0), (.putfield 141, 3, pR 64 2)] 90 _ (by decide +kernel) ?_
    refine (And.intro rfl (And.intro rfl (And.intro c33 (And.intro rfl (And.intro rfl (And.intro trivial ?_))))))
    refine zlet_k (P := fun (m34 : zMem) => zG w f 4 99 ([some (pR 64 0), some (pR 80 0), some (pI a2), some (pI r14)], [], (n, m34))) h (fun m34 h => ?_)
    obtain ⟨c35, h⟩ := zchk h
    refine zrun hF [(.aload_n 0, 1, pI 0), (.aload_n 1, 1, pI 0), (.iload_n 3, 1, pI 0), (.iconst 3, 1, pI 3), (.iadd, 1, pI 0), (.iaload, 1, pI 0), (.putfield 183, 3, pR 64 3)] 99 _ (by decide +kernel) ?_
    refine (And.intro rfl (And.intro rfl (And.intro c35 (And.intro rfl (And.intro rfl (And.intro trivial ?_))))))
    refine zlet_k (P := fun (m36 : zMem) => zG w f 4 108 ([some (pR 64 0), some (pR 80 0), some (pI a2), some (pI r14)], [], (n, m36))) h (fun m36 h => ?_)
    obtain ⟨c37, h⟩ := zchk h
    refine zrun hF [(.aload_n 0, 1, pI 0), (.aload_n 1, 1, pI 0), (.iload_n 3, 1, pI 0), (.iconst 4, 1, pI 4), (.iadd, 1, pI 0), (.iaload, 1, pI 0), (.putfield 186, 3, pR 64 4)] 108 _ (by decide +kernel) ?_
    refine (And.intro rfl (And.intro rfl (And.intro c37 (And.intro rfl (And.intro rfl (And.intro trivial ?_))))))
    refine zlet_k (P := fun (m38 : zMem) => zG w f 4 117 ([some (pR 64 0), some (pR 80 0), some (pI a2), some (pI r14)], [], (n, m38))) h (fun m38 h => ?_)
    obtain ⟨c39, h⟩ := zchk h
    refine zrun hF [(.aload_n 0, 1, pI 0), (.aload_n 1, 1, pI 0), (.iload_n 3, 1, pI 0), (.iconst 5, 1, pI 5), (.iadd, 1, pI 0), (.iaload, 1, pI 0), (.putfield 13, 3, pR 64 5)] 117 _ (by decide +kernel) ?_
    refine (And.intro rfl (And.intro rfl (And.intro c39 (And.intro rfl (And.intro rfl (And.intro trivial ?_))))))
    refine zlet_k (P := fun (m40 : zMem) => zG w f 4 126 ([some (pR 64 0), some (pR 80 0), some (pI a2), some (pI r14)], [], (n, m40))) h (fun m40 h => ?_)
    refine zgoto (tgt := 181) (pc := 126) hF (by decide +kernel) ?_
    exact zretV (pc := 181) hF hR (by decide +kernel) (congrArg (fun q => (n, q)) (Option.some.inj h))

set_option maxHeartbeats 4000000 in
set_option maxRecDepth 100000 in
theorem m_X7_image {w : zWd} {lc : Launch} {n : zMem}  {m : zMem} {x : Int32} {m0 : zMem}  (h : s_X7_image m = some (x, m0)) : zMet w lc 3 yX7_image cX7_image 1 (some .int) [pR 64 0] (n, m) (zQI w x (n, m0)) := by
  refine zmet (o := 7) (by decide +kernel) rfl (Nat.le_of_ble_eq_true rfl) rfl (fun f hl hF hR => ?_)
  unfold s_X7_image at h
  show zG w f 1 0 ([some (pR 64 0)], [], (n, m))
  refine zrun hF [(.aload_n 0, 1, pI 0), (.iconst 1, 1, pI 1), (.putfield 312, 3, pR 64 41)] 0 _ (by decide +kernel) ?_
  refine (And.intro rfl (And.intro rfl (And.intro (Or.inr rfl) ?_)))
  refine zlet_k (P := fun (m1 : zMem) => zG w f 1 5 ([some (pR 64 0)], [], (n, m1))) h (fun m1 h => ?_)
  refine zrun hF [(.aload_n 0, 1, pI 0), (.aload_n 0, 1, pI 0), (.getfield 66, 3, pR 64 27), (.iconst 0, 1, pI 0)] 5 _ (by decide +kernel) ?_
  refine (And.intro rfl (And.intro rfl ?_))
  show zG w f 1 11 ([some (pR 64 0)], [pI 0, pR 80 0, pR 64 0], (n, m1))
  obtain ⟨m4, q2, h⟩ := zr_k h
  refine zcallVV (pc := 11) (As := [pR 80 0, pI 0]) (st := []) (c := 64) (j := 0) hF (m_X7_all_80  q2) w_X7_all k_7_189 (by decide +kernel) rfl rfl rfl rfl rfl rfl rfl ?_
  refine zrun hF [(.aload_n 0, 1, pI 0), (.getfield 93, 3, pR 64 0)] 14 _ (by decide +kernel) ?_
  refine (And.intro rfl (And.intro rfl ?_))
  show zG w f 1 18 ([some (pR 64 0)], [pI (m4.1 64 0 0)], (n, m4))
  exact zretI (pc := 18) hF hR (by decide +kernel) rfl (congrArg Prod.fst (Option.some.inj h)) (congrArg (fun (q : Int32 × zMem) => (n, q.2)) (Option.some.inj h))

set_option maxHeartbeats 4000000 in
set_option maxRecDepth 100000 in
theorem m_X6_restore {w : zWd} {lc : Launch} {n : zMem}  {m : zMem} {x : Int32} {m0 : zMem}  (h : s_X6_restore m = some (x, m0)) : zMet w lc 3 yX6_restore cX6_restore 1 (some .int) [pR 0 0] (m, n) (zQI w x (m0, n)) := by
  refine zmet (o := 6) (by decide +kernel) rfl (Nat.le_of_ble_eq_true rfl) rfl (fun f hl hF hR => ?_)
  unfold s_X6_restore at h
  show zG w f 1 0 ([some (pR 0 0)], [], (m, n))
  refine zrun hF [(.aload_n 0, 1, pI 0), (.getfield 22, 3, pR 0 3)] 0 _ (by decide +kernel) ?_
  refine (And.intro rfl (And.intro rfl ?_))
  show zG w f 1 4 ([some (pR 0 0)], [pI (m.1 0 0 3)], (m, n))
  refine zif_ne (tgt := 14) (pc := 4) hF (by decide +kernel) (fun b1 => ?_) (fun b1 => ?_)
  · replace h := zit b1 h
    refine zrun hF [(.aload_n 0, 1, pI 0), (.bipush (-6), 2, pI (-6))] 7 _ (by decide +kernel) ?_
    show zG w f 1 10 ([some (pR 0 0)], [pI (-6), pR 0 0], (m, n))
    obtain ⟨r3, m4, q2, h⟩ := zb_k h
    refine zcallVI (pc := 10) (As := [pI (-6)]) (st := []) (c := 0) (j := 0) hF (m_X6_refuse  q2) w_X6_refuse k_6_73 (by decide +kernel) rfl rfl rfl rfl rfl rfl rfl ?_
    exact zretI (pc := 13) hF hR (by decide +kernel) rfl (congrArg Prod.fst (Option.some.inj h)) (congrArg (fun (q : Int32 × zMem) => (q.2, n)) (Option.some.inj h))
  · replace h := zif b1 h
    refine zrun hF [(.aload_n 0, 1, pI 0), (.getfield 10, 3, pR 0 0), (.aload_n 0, 1, pI 0), (.getfield 19, 3, pR 0 2)] 14 _ (by decide +kernel) ?_
    refine (And.intro rfl (And.intro rfl (And.intro rfl (And.intro rfl ?_))))
    show zG w f 1 22 ([some (pR 0 0)], [pR 1 2, pR 1 0], (m, n))
    obtain ⟨m7, q5, h⟩ := zr_k h
    refine zcallVV (pc := 22) (As := [pR 1 2]) (st := []) (c := 1) (j := 0) hF (m_X5_takeOver rfl rfl q5) w_X5_takeOver k_6_179 (by decide +kernel) rfl rfl rfl rfl rfl rfl rfl ?_
    refine zrun hF [(.aload_n 0, 1, pI 0)] 25 _ (by decide +kernel) ?_
    show zG w f 1 26 ([some (pR 0 0)], [pR 0 0], (m7, n))
    obtain ⟨m10, q8, h⟩ := zr_k h
    refine zcallVV (pc := 26) (As := []) (st := []) (c := 0) (j := 0) hF (m_X6_emptyShelvesOfGone  q8) w_X6_emptyShelvesOfGone k_6_329 (by decide +kernel) rfl rfl rfl rfl rfl rfl rfl ?_
    refine zrun hF [(.aload_n 0, 1, pI 0), (.getfield 10, 3, pR 0 0), (.getfield 132, 3, pR 1 6)] 29 _ (by decide +kernel) ?_
    refine (And.intro rfl (And.intro rfl (And.intro rfl (And.intro rfl ?_))))
    show zG w f 1 36 ([some (pR 0 0)], [pI (m10.1 1 0 6)], (m10, n))
    exact zretI (pc := 36) hF hR (by decide +kernel) rfl (congrArg Prod.fst (Option.some.inj h)) (congrArg (fun (q : Int32 × zMem) => (q.2, n)) (Option.some.inj h))

set_option maxHeartbeats 4000000 in
set_option maxRecDepth 100000 in
theorem m_X7_restore {w : zWd} {lc : Launch} {n : zMem}  {m : zMem} {x : Int32} {m0 : zMem}  (h : s_X7_restore m = some (x, m0)) : zMet w lc 3 yX7_restore cX7_restore 1 (some .int) [pR 64 0] (n, m) (zQI w x (n, m0)) := by
  refine zmet (o := 7) (by decide +kernel) rfl (Nat.le_of_ble_eq_true rfl) rfl (fun f hl hF hR => ?_)
  unfold s_X7_restore at h
  show zG w f 1 0 ([some (pR 64 0)], [], (n, m))
  refine zrun hF [(.aload_n 0, 1, pI 0), (.getfield 312, 3, pR 64 41)] 0 _ (by decide +kernel) ?_
  refine (And.intro rfl (And.intro rfl ?_))
  show zG w f 1 4 ([some (pR 64 0)], [pI (m.1 64 0 41)], (n, m))
  refine zif_ne (tgt := 14) (pc := 4) hF (by decide +kernel) (fun b1 => ?_) (fun b1 => ?_)
  · replace h := zit b1 h
    refine zrun hF [(.aload_n 0, 1, pI 0), (.bipush (-6), 2, pI (-6))] 7 _ (by decide +kernel) ?_
    show zG w f 1 10 ([some (pR 64 0)], [pI (-6), pR 64 0], (n, m))
    obtain ⟨r3, m4, q2, h⟩ := zb_k h
    refine zcallVI (pc := 10) (As := [pI (-6)]) (st := []) (c := 64) (j := 0) hF (m_X7_no  q2) w_X7_no k_7_100 (by decide +kernel) rfl rfl rfl rfl rfl rfl rfl ?_
    exact zretI (pc := 13) hF hR (by decide +kernel) rfl (congrArg Prod.fst (Option.some.inj h)) (congrArg (fun (q : Int32 × zMem) => (n, q.2)) (Option.some.inj h))
  · replace h := zif b1 h
    refine zrun hF [(.aload_n 0, 1, pI 0), (.aload_n 0, 1, pI 0), (.getfield 66, 3, pR 64 27), (.iconst 1, 1, pI 1)] 14 _ (by decide +kernel) ?_
    refine (And.intro rfl (And.intro rfl ?_))
    show zG w f 1 20 ([some (pR 64 0)], [pI 1, pR 80 0, pR 64 0], (n, m))
    obtain ⟨m7, q5, h⟩ := zr_k h
    refine zcallVV (pc := 20) (As := [pR 80 0, pI 1]) (st := []) (c := 64) (j := 0) hF (m_X7_all_80  q5) w_X7_all k_7_189 (by decide +kernel) rfl rfl rfl rfl rfl rfl rfl ?_
    refine zrun hF [(.aload_n 0, 1, pI 0)] 23 _ (by decide +kernel) ?_
    show zG w f 1 24 ([some (pR 64 0)], [pR 64 0], (n, m7))
    obtain ⟨m10, q8, h⟩ := zr_k h
    refine zcallVV (pc := 24) (As := []) (st := []) (c := 64) (j := 0) hF (m_X7_shelvesFall  q8) w_X7_shelvesFall k_7_289 (by decide +kernel) rfl rfl rfl rfl rfl rfl rfl ?_
    refine zrun hF [(.aload_n 0, 1, pI 0), (.getfield 93, 3, pR 64 0)] 27 _ (by decide +kernel) ?_
    refine (And.intro rfl (And.intro rfl ?_))
    show zG w f 1 31 ([some (pR 64 0)], [pI (m10.1 64 0 0)], (n, m10))
    exact zretI (pc := 31) hF hR (by decide +kernel) rfl (congrArg Prod.fst (Option.some.inj h)) (congrArg (fun (q : Int32 × zMem) => (n, q.2)) (Option.some.inj h))

set_option maxHeartbeats 4000000 in
set_option maxRecDepth 100000 in
theorem m_X5_hadPairs_L4 {w : zWd} {f : zFr} {n : zMem} {x : Int32} {lc : Launch} {mr : zMem} (hl : f.2.1 = lc) (hF : zFOK w f 5 cX5_hadPairs 3 2) (hR : zFin w f (some .int) (zQI w x (mr, n))) : ∀ (k : Nat) (x0 : Nat) (x1 : Int32) (x2 : Int32) (m : zMem), Nat.blt x0 3 = true → m = mr → s_X5_hadPairs_L4 k x0 x1 x2 m = some x → zG w f 3 4 ([some (pR 1 x0), some (pI x1), some (pI x2)], [], (m, n)) := by
  intro k
  induction k with
  | zero => intro x0 x1 x2 m hx0 hm h; exact zno h
  | succ k ih =>
    intro x0 x1 x2 m hx0 hm h
    unfold s_X5_hadPairs_L4 at h
    refine zrun hF [(.iload_n 2, 1, pI 0), (.aload_n 0, 1, pI 0), (.getfield 31, 3, pR 1 6)] 4 _ (by decide +kernel) ?_
    refine (And.intro rfl (And.intro hx0 ?_))
    show zG w f 3 9 ([some (pR 1 x0), some (pI x1), some (pI x2)], [pI (m.1 1 x0 6), pI x2], (m, n))
    refine zicmp_ge (tgt := 30) (pc := 9) hF (by decide +kernel) (fun b1 => ?_) (fun b1 => ?_)
    · replace h := zit b1 h
      refine zrun hF [(.iload_n 1, 1, pI 0), (.iconst 2, 1, pI 2), (.idiv, 1, pI 0)] 30 _ (by decide +kernel) ?_
      refine (And.intro (by decide) ?_)
      show zG w f 3 33 ([some (pR 1 x0), some (pI x1), some (pI x2)], [pI (x1 / 2)], (m, n))
      exact zretI (pc := 33) hF hR (by decide +kernel) rfl (Option.some.inj h) (congrArg (fun q => (q, n)) hm)
    · replace h := zif b1 h
      obtain ⟨c2, h⟩ := zchk h
      refine zrun hF [(.iload_n 1, 1, pI 0), (.aload_n 0, 1, pI 0), (.getfield 24, 3, pR 1 4), (.iload_n 2, 1, pI 0), (.iaload, 1, pI 0)] 12 _ (by decide +kernel) ?_
      refine (And.intro rfl (And.intro hx0 (And.intro rfl (And.intro hx0 (And.intro c2 ?_)))))
      show zG w f 3 19 ([some (pR 1 x0), some (pI x1), some (pI x2)], [pI (m.1 6 x0 (ix x2)), pI x1], (m, n))
      obtain ⟨r4, q3, h⟩ := zr_k h
      refine zcallSI (pc := 19) (As := [pI (m.1 6 x0 (ix x2))]) (st := [pI x1]) hF (m_J6_bitCount_0f7a4  q3) w_J6_bitCount_0f7a4 k_5_105 (by decide +kernel) rfl rfl rfl rfl ?_
      refine zrun hF [(.iadd, 1, pI 0), (.istore_n 1, 1, pI 0), (.iinc 2 1, 3, pI 1)] 22 _ (by decide +kernel) ?_
      refine (And.intro rfl (And.intro rfl ?_))
      show zG w f 3 27 ([some (pR 1 x0), some (pI (x1 + r4)), some (pI (x2 + 1))], [], (m, n))
      refine zgoto (tgt := 4) (pc := 27) hF (by decide +kernel) ?_
      exact ih _ _ _ _ hx0 hm h

set_option maxHeartbeats 4000000 in
set_option maxRecDepth 100000 in
theorem m_X5_hadPairs {w : zWd} {lc : Launch} {n : zMem} {t : Nat} {m : zMem} {x : Int32} (ht : Nat.blt t 3 = true) (h : s_X5_hadPairs t m = some x) : zMet w lc 2 yX5_hadPairs cX5_hadPairs 3 (some .int) [pR 1 t] (m, n) (zQI w x (m, n)) := by
  refine zmet (o := 5) (by decide +kernel) rfl (Nat.le_of_ble_eq_true rfl) rfl (fun f hl hF hR => ?_)
  unfold s_X5_hadPairs at h
  show zG w f 3 0 ([some (pR 1 t), none, none], [], (m, n))
  refine zrun hF [(.iconst 0, 1, pI 0), (.istore_n 1, 1, pI 0), (.iconst 0, 1, pI 0), (.istore_n 2, 1, pI 0)] 0 _ (by decide +kernel) ?_
  refine (And.intro rfl (And.intro rfl ?_))
  show zG w f 3 4 ([some (pR 1 t), some (pI 0), some (pI 0)], [], (m, n))
  exact m_X5_hadPairs_L4 hl hF hR  zF _ _ _ _ ht rfl h

set_option maxHeartbeats 4000000 in
set_option maxRecDepth 100000 in
theorem m_X6_status {w : zWd} {lc : Launch} {n : zMem} {a1 : Int32} {m : zMem} {x : Int32}  (h : s_X6_status a1 m = some x) : zMet w lc 3 yX6_status cX6_status 2 (some .int) [pR 0 0, pI a1] (m, n) (zQI w x (m, n)) := by
  refine zmet (o := 6) (by decide +kernel) rfl (Nat.le_of_ble_eq_true rfl) rfl (fun f hl hF hR => ?_)
  unfold s_X6_status at h
  show zG w f 2 0 ([some (pR 0 0), some (pI a1)], [], (m, n))
  refine zrun hF [(.iload_n 1, 1, pI 0)] 0 _ (by decide +kernel) ?_
  show zG w f 2 1 ([some (pR 0 0), some (pI a1)], [pI a1], (m, n))
  refine zswitch (pc := 1) [(0, 48), (1, 56), (2, 64), (3, 72), (4, 80), (5, 88), (6, 96), (7, 104)] 112 hF (by decide +kernel) ?_
  refine And.intro (fun b1 => ?_) (fun b1 => ?_)
  · replace h := zit b1 h
    refine zrun hF [(.aload_n 0, 1, pI 0), (.getfield 10, 3, pR 0 0), (.getfield 132, 3, pR 1 6)] 48 _ (by decide +kernel) ?_
    refine (And.intro rfl (And.intro rfl (And.intro rfl (And.intro rfl ?_))))
    show zG w f 2 55 ([some (pR 0 0), some (pI a1)], [pI (m.1 1 0 6)], (m, n))
    exact zretI (pc := 55) hF hR (by decide +kernel) rfl (Option.some.inj h) rfl
  · replace h := zif b1 h
    refine And.intro (fun b2 => ?_) (fun b2 => ?_)
    · replace h := zit b2 h
      refine zrun hF [(.aload_n 0, 1, pI 0), (.getfield 10, 3, pR 0 0), (.getfield 135, 3, pR 1 5)] 56 _ (by decide +kernel) ?_
      refine (And.intro rfl (And.intro rfl (And.intro rfl (And.intro rfl ?_))))
      show zG w f 2 63 ([some (pR 0 0), some (pI a1)], [pI (m.1 1 0 5)], (m, n))
      exact zretI (pc := 63) hF hR (by decide +kernel) rfl (Option.some.inj h) rfl
    · replace h := zif b2 h
      refine And.intro (fun b3 => ?_) (fun b3 => ?_)
      · replace h := zit b3 h
        refine zrun hF [(.aload_n 0, 1, pI 0), (.getfield 10, 3, pR 0 0)] 64 _ (by decide +kernel) ?_
        refine (And.intro rfl (And.intro rfl ?_))
        show zG w f 2 68 ([some (pR 0 0), some (pI a1)], [pR 1 0], (m, n))
        obtain ⟨r5, q4, h⟩ := zr_k h
        refine zcallVI (pc := 68) (As := []) (st := []) (c := 1) (j := 0) hF (m_X5_hadPairs rfl q4) w_X5_hadPairs k_6_351 (by decide +kernel) rfl rfl rfl rfl rfl rfl rfl ?_
        exact zretI (pc := 71) hF hR (by decide +kernel) rfl (Option.some.inj h) rfl
      · replace h := zif b3 h
        refine And.intro (fun b6 => ?_) (fun b6 => ?_)
        · replace h := zit b6 h
          refine zrun hF [(.aload_n 0, 1, pI 0), (.getfield 10, 3, pR 0 0), (.getfield 332, 3, pR 1 8)] 72 _ (by decide +kernel) ?_
          refine (And.intro rfl (And.intro rfl (And.intro rfl (And.intro rfl ?_))))
          show zG w f 2 79 ([some (pR 0 0), some (pI a1)], [pI (m.1 1 0 8)], (m, n))
          exact zretI (pc := 79) hF hR (by decide +kernel) rfl (Option.some.inj h) rfl
        · replace h := zif b6 h
          refine And.intro (fun b7 => ?_) (fun b7 => ?_)
          · replace h := zit b7 h
            refine zrun hF [(.aload_n 0, 1, pI 0), (.getfield 10, 3, pR 0 0), (.getfield 354, 3, pR 1 9)] 80 _ (by decide +kernel) ?_
            refine (And.intro rfl (And.intro rfl (And.intro rfl (And.intro rfl ?_))))
            show zG w f 2 87 ([some (pR 0 0), some (pI a1)], [pI (m.1 1 0 9)], (m, n))
            exact zretI (pc := 87) hF hR (by decide +kernel) rfl (Option.some.inj h) rfl
          · replace h := zif b7 h
            refine And.intro (fun b8 => ?_) (fun b8 => ?_)
            · replace h := zit b8 h
              refine zrun hF [(.aload_n 0, 1, pI 0), (.getfield 10, 3, pR 0 0), (.getfield 176, 3, pR 1 7)] 88 _ (by decide +kernel) ?_
              refine (And.intro rfl (And.intro rfl (And.intro rfl (And.intro rfl ?_))))
              show zG w f 2 95 ([some (pR 0 0), some (pI a1)], [pI (m.1 1 0 7)], (m, n))
              exact zretI (pc := 95) hF hR (by decide +kernel) rfl (Option.some.inj h) rfl
            · replace h := zif b8 h
              refine And.intro (fun b9 => ?_) (fun b9 => ?_)
              · replace h := zit b9 h
                refine zrun hF [(.aload_n 0, 1, pI 0), (.getfield 10, 3, pR 0 0), (.getfield 338, 3, pR 1 10)] 96 _ (by decide +kernel) ?_
                refine (And.intro rfl (And.intro rfl (And.intro rfl (And.intro rfl ?_))))
                show zG w f 2 103 ([some (pR 0 0), some (pI a1)], [pI (m.1 1 0 10)], (m, n))
                exact zretI (pc := 103) hF hR (by decide +kernel) rfl (Option.some.inj h) rfl
              · replace h := zif b9 h
                refine And.intro (fun b10 => ?_) (fun b10 => ?_)
                · replace h := zit b10 h
                  refine zrun hF [(.aload_n 0, 1, pI 0), (.getfield 56, 3, pR 0 8), (.getfield 357, 3, pR 20 1)] 104 _ (by decide +kernel) ?_
                  refine (And.intro rfl (And.intro rfl (And.intro rfl (And.intro rfl ?_))))
                  show zG w f 2 111 ([some (pR 0 0), some (pI a1)], [pI (m.1 20 0 1)], (m, n))
                  exact zretI (pc := 111) hF hR (by decide +kernel) rfl (Option.some.inj h) rfl
                · replace h := zif b10 h
                  refine zrun hF [(.iload_n 1, 1, pI 0), (.bipush 11, 2, pI 11)] 112 _ (by decide +kernel) ?_
                  show zG w f 2 115 ([some (pR 0 0), some (pI a1)], [pI 11, pI a1], (m, n))
                  refine zicmp_lt (tgt := 136) (pc := 115) hF (by decide +kernel) (fun b11 => ?_) (fun b11 => ?_)
                  · replace h := zit b11 h
                    refine zrun hF [(.iconst (-1), 1, pI (-1))] 136 _ (by decide +kernel) ?_
                    show zG w f 2 137 ([some (pR 0 0), some (pI a1)], [pI (-1)], (m, n))
                    exact zretI (pc := 137) hF hR (by decide +kernel) rfl (Option.some.inj h) rfl
                  · replace h := zif b11 h
                    refine zrun hF [(.iload_n 1, 1, pI 0), (.bipush 17, 2, pI 17)] 118 _ (by decide +kernel) ?_
                    show zG w f 2 121 ([some (pR 0 0), some (pI a1)], [pI 17, pI a1], (m, n))
                    refine zicmp_gt (tgt := 136) (pc := 121) hF (by decide +kernel) (fun b12 => ?_) (fun b12 => ?_)
                    · replace h := zit b12 h
                      refine zrun hF [(.iconst (-1), 1, pI (-1))] 136 _ (by decide +kernel) ?_
                      show zG w f 2 137 ([some (pR 0 0), some (pI a1)], [pI (-1)], (m, n))
                      exact zretI (pc := 137) hF hR (by decide +kernel) rfl (Option.some.inj h) rfl
                    · replace h := zif b12 h
                      obtain ⟨c13, h⟩ := zchk h
                      refine zrun hF [(.aload_n 0, 1, pI 0), (.getfield 60, 3, pR 0 9), (.iload_n 1, 1, pI 0), (.bipush 10, 2, pI 10), (.isub, 1, pI 0), (.iaload, 1, pI 0)] 124 _ (by decide +kernel) ?_
                      refine (And.intro rfl (And.intro rfl (And.intro rfl (And.intro rfl (And.intro c13 ?_)))))
                      show zG w f 2 133 ([some (pR 0 0), some (pI a1)], [pI (m.1 22 0 (ix (a1 - 10)))], (m, n))
                      refine zgoto (tgt := 137) (pc := 133) hF (by decide +kernel) ?_
                      exact zretI (pc := 137) hF hR (by decide +kernel) rfl (Option.some.inj h) rfl

set_option maxHeartbeats 4000000 in
set_option maxRecDepth 100000 in
theorem m_X7_status_L84 {w : zWd} {f : zFr} {n : zMem} {x : Int32} {lc : Launch} {mr : zMem} (hl : f.2.1 = lc) (hF : zFOK w f 7 cX7_status 4 2) (hR : zFin w f (some .int) (zQI w x (n, mr))) : ∀ (k : Nat) (x2 : Int32) (x3 : Int32) (m : zMem), m = mr → s_X7_status_L84 k x2 x3 m = some x → zG w f 4 84 ([some (pR 64 0), none, some (pI x2), some (pI x3)], [], (n, m)) := by
  intro k
  induction k with
  | zero => intro x2 x3 m hm h; exact zno h
  | succ k ih =>
    intro x2 x3 m hm h
    unfold s_X7_status_L84 at h
    refine zrun hF [(.iload_n 3, 1, pI 0), (.aload_n 0, 1, pI 0), (.getfield 93, 3, pR 64 0)] 84 _ (by decide +kernel) ?_
    refine (And.intro rfl (And.intro rfl ?_))
    show zG w f 4 89 ([some (pR 64 0), none, some (pI x2), some (pI x3)], [pI (m.1 64 0 0), pI x3], (n, m))
    refine zicmp_ge (tgt := 111) (pc := 89) hF (by decide +kernel) (fun b12 => ?_) (fun b12 => ?_)
    · replace h := zit b12 h
      refine zrun hF [(.iload_n 2, 1, pI 0), (.iconst 2, 1, pI 2), (.idiv, 1, pI 0)] 111 _ (by decide +kernel) ?_
      refine (And.intro (by decide) ?_)
      show zG w f 4 114 ([some (pR 64 0), none, some (pI x2), some (pI x3)], [pI (x2 / 2)], (n, m))
      exact zretI (pc := 114) hF hR (by decide +kernel) rfl (Option.some.inj h) (congrArg (fun q => (n, q)) hm)
    · replace h := zif b12 h
      obtain ⟨c13, h⟩ := zchk h
      refine zrun hF [(.iload_n 2, 1, pI 0), (.aload_n 0, 1, pI 0), (.aload_n 0, 1, pI 0), (.getfield 35, 3, pR 64 12), (.iload_n 3, 1, pI 0), (.iaload, 1, pI 0)] 92 _ (by decide +kernel) ?_
      refine (And.intro rfl (And.intro rfl (And.intro rfl (And.intro rfl (And.intro c13 ?_)))))
      show zG w f 4 100 ([some (pR 64 0), none, some (pI x2), some (pI x3)], [pI (m.1 70 0 (ix x3)), pR 64 0, pI x2], (n, m))
      obtain ⟨r15, q14, h⟩ := zr_k h
      refine zcallVI (pc := 100) (As := [pI (m.1 70 0 (ix x3))]) (st := [pI x2]) (c := 64) (j := 0) hF (m_X7_count  q14) w_X7_count k_7_114 (by decide +kernel) rfl rfl rfl rfl rfl rfl rfl ?_
      refine zrun hF [(.iadd, 1, pI 0), (.istore_n 2, 1, pI 0), (.iinc 3 1, 3, pI 1)] 103 _ (by decide +kernel) ?_
      refine (And.intro rfl (And.intro rfl ?_))
      show zG w f 4 108 ([some (pR 64 0), none, some (pI (x2 + r15)), some (pI (x3 + 1))], [], (n, m))
      refine zgoto (tgt := 84) (pc := 108) hF (by decide +kernel) ?_
      exact ih _ _ _  hm h

set_option maxHeartbeats 4000000 in
set_option maxRecDepth 100000 in
theorem m_X7_status_L22 {w : zWd} {f : zFr} {n : zMem} {x : Int32} {lc : Launch} {mr : zMem} (hl : f.2.1 = lc) (hF : zFOK w f 7 cX7_status 4 2) (hR : zFin w f (some .int) (zQI w x (n, mr))) : ∀ (x1 : Int32) (m : zMem), m = mr → s_X7_status_L22 x1 m = some x → zG w f 4 22 ([some (pR 64 0), some (pI x1), none, none], [], (n, m)) := by
  intro x1 m hm h
  unfold s_X7_status_L22 at h
  refine zrun hF [(.iconst 0, 1, pI 0), (.istore_n 2, 1, pI 0), (.iload_n 1, 1, pI 0)] 22 _ (by decide +kernel) ?_
  refine (And.intro rfl ?_)
  show zG w f 4 25 ([some (pR 64 0), some (pI x1), some (pI 0), none], [pI x1], (n, m))
  refine zswitch (pc := 25) [(0, 72), (1, 77), (2, 82), (3, 115), (4, 120), (5, 125), (6, 130), (7, 135)] 140 hF (by decide +kernel) ?_
  refine And.intro (fun b4 => ?_) (fun b4 => ?_)
  · replace h := zit b4 h
    refine zrun hF [(.aload_n 0, 1, pI 0), (.getfield 93, 3, pR 64 0)] 72 _ (by decide +kernel) ?_
    refine (And.intro rfl (And.intro rfl ?_))
    show zG w f 4 76 ([some (pR 64 0), some (pI x1), some (pI 0), none], [pI (m.1 64 0 0)], (n, m))
    exact zretI (pc := 76) hF hR (by decide +kernel) rfl (Option.some.inj h) (congrArg (fun q => (n, q)) hm)
  · replace h := zif b4 h
    refine And.intro (fun b5 => ?_) (fun b5 => ?_)
    · replace h := zit b5 h
      refine zrun hF [(.aload_n 0, 1, pI 0), (.getfield 7, 3, pR 64 1)] 77 _ (by decide +kernel) ?_
      refine (And.intro rfl (And.intro rfl ?_))
      show zG w f 4 81 ([some (pR 64 0), some (pI x1), some (pI 0), none], [pI (m.1 64 0 1)], (n, m))
      exact zretI (pc := 81) hF hR (by decide +kernel) rfl (Option.some.inj h) (congrArg (fun q => (n, q)) hm)
    · replace h := zif b5 h
      refine And.intro (fun b6 => ?_) (fun b6 => ?_)
      · replace h := zit b6 h
        refine zrun hF [(.iconst 0, 1, pI 0), (.istore_n 3, 1, pI 0)] 82 _ (by decide +kernel) ?_
        refine (And.intro rfl ?_)
        show zG w f 4 84 ([some (pR 64 0), some (pI x1), some (pI 0), some (pI 0)], [], (n, m))
        refine zcut [true, false, true, true] ?_
        exact m_X7_status_L84 hl hF hR  zF _ _ _  hm h
      · replace h := zif b6 h
        refine And.intro (fun b7 => ?_) (fun b7 => ?_)
        · replace h := zit b7 h
          refine zrun hF [(.aload_n 0, 1, pI 0), (.getfield 183, 3, pR 64 3)] 115 _ (by decide +kernel) ?_
          refine (And.intro rfl (And.intro rfl ?_))
          show zG w f 4 119 ([some (pR 64 0), some (pI x1), some (pI 0), none], [pI (m.1 64 0 3)], (n, m))
          exact zretI (pc := 119) hF hR (by decide +kernel) rfl (Option.some.inj h) (congrArg (fun q => (n, q)) hm)
        · replace h := zif b7 h
          refine And.intro (fun b8 => ?_) (fun b8 => ?_)
          · replace h := zit b8 h
            refine zrun hF [(.aload_n 0, 1, pI 0), (.getfield 186, 3, pR 64 4)] 120 _ (by decide +kernel) ?_
            refine (And.intro rfl (And.intro rfl ?_))
            show zG w f 4 124 ([some (pR 64 0), some (pI x1), some (pI 0), none], [pI (m.1 64 0 4)], (n, m))
            exact zretI (pc := 124) hF hR (by decide +kernel) rfl (Option.some.inj h) (congrArg (fun q => (n, q)) hm)
          · replace h := zif b8 h
            refine And.intro (fun b9 => ?_) (fun b9 => ?_)
            · replace h := zit b9 h
              refine zrun hF [(.aload_n 0, 1, pI 0), (.getfield 141, 3, pR 64 2)] 125 _ (by decide +kernel) ?_
              refine (And.intro rfl (And.intro rfl ?_))
              show zG w f 4 129 ([some (pR 64 0), some (pI x1), some (pI 0), none], [pI (m.1 64 0 2)], (n, m))
              exact zretI (pc := 129) hF hR (by decide +kernel) rfl (Option.some.inj h) (congrArg (fun q => (n, q)) hm)
            · replace h := zif b9 h
              refine And.intro (fun b10 => ?_) (fun b10 => ?_)
              · replace h := zit b10 h
                refine zrun hF [(.aload_n 0, 1, pI 0), (.getfield 13, 3, pR 64 5)] 130 _ (by decide +kernel) ?_
                refine (And.intro rfl (And.intro rfl ?_))
                show zG w f 4 134 ([some (pR 64 0), some (pI x1), some (pI 0), none], [pI (m.1 64 0 5)], (n, m))
                exact zretI (pc := 134) hF hR (by decide +kernel) rfl (Option.some.inj h) (congrArg (fun q => (n, q)) hm)
              · replace h := zif b10 h
                refine And.intro (fun b11 => ?_) (fun b11 => ?_)
                · replace h := zit b11 h
                  refine zrun hF [(.aload_n 0, 1, pI 0), (.getfield 296, 3, pR 64 40)] 135 _ (by decide +kernel) ?_
                  refine (And.intro rfl (And.intro rfl ?_))
                  show zG w f 4 139 ([some (pR 64 0), some (pI x1), some (pI 0), none], [pI (m.1 64 0 40)], (n, m))
                  exact zretI (pc := 139) hF hR (by decide +kernel) rfl (Option.some.inj h) (congrArg (fun q => (n, q)) hm)
                · replace h := zif b11 h
                  refine zrun hF [(.iconst (-1), 1, pI (-1))] 140 _ (by decide +kernel) ?_
                  show zG w f 4 141 ([some (pR 64 0), some (pI x1), some (pI 0), none], [pI (-1)], (n, m))
                  exact zretI (pc := 141) hF hR (by decide +kernel) rfl (Option.some.inj h) (congrArg (fun q => (n, q)) hm)

set_option maxHeartbeats 4000000 in
set_option maxRecDepth 100000 in
theorem m_X7_status {w : zWd} {lc : Launch} {n : zMem} {a1 : Int32} {m : zMem} {x : Int32}  (h : s_X7_status a1 m = some x) : zMet w lc 2 yX7_status cX7_status 4 (some .int) [pR 64 0, pI a1] (n, m) (zQI w x (n, m)) := by
  refine zmet (o := 7) (by decide +kernel) rfl (Nat.le_of_ble_eq_true rfl) rfl (fun f hl hF hR => ?_)
  unfold s_X7_status at h
  show zG w f 4 0 ([some (pR 64 0), some (pI a1), none, none], [], (n, m))
  refine zrun hF [(.iload_n 1, 1, pI 0), (.bipush 11, 2, pI 11)] 0 _ (by decide +kernel) ?_
  show zG w f 4 3 ([some (pR 64 0), some (pI a1), none, none], [pI 11, pI a1], (n, m))
  refine zicmp_lt (tgt := 22) (pc := 3) hF (by decide +kernel) (fun b1 => ?_) (fun b1 => ?_)
  · replace h := zit b1 h
    exact m_X7_status_L22 hl hF hR  _ _  rfl h
  · replace h := zif b1 h
    refine zrun hF [(.iload_n 1, 1, pI 0), (.bipush 17, 2, pI 17)] 6 _ (by decide +kernel) ?_
    show zG w f 4 9 ([some (pR 64 0), some (pI a1), none, none], [pI 17, pI a1], (n, m))
    refine zicmp_gt (tgt := 22) (pc := 9) hF (by decide +kernel) (fun b2 => ?_) (fun b2 => ?_)
    · replace h := zit b2 h
      exact m_X7_status_L22 hl hF hR  _ _  rfl h
    · replace h := zif b2 h
      obtain ⟨c3, h⟩ := zchk h
      refine zrun hF [(.aload_n 0, 1, pI 0), (.getfield 19, 3, pR 64 7), (.iload_n 1, 1, pI 0), (.bipush 10, 2, pI 10), (.isub, 1, pI 0), (.iaload, 1, pI 0)] 12 _ (by decide +kernel) ?_
      refine (And.intro rfl (And.intro rfl (And.intro rfl (And.intro rfl (And.intro c3 ?_)))))
      show zG w f 4 21 ([some (pR 64 0), some (pI a1), none, none], [pI (m.1 65 0 (ix (a1 - 10)))], (n, m))
      exact zretI (pc := 21) hF hR (by decide +kernel) rfl (Option.some.inj h) rfl

