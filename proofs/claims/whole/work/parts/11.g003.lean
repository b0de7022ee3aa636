set_option maxHeartbeats 4000000 in
set_option maxRecDepth 100000 in
theorem m_X5_isWanted {w : zWd} {lc : Launch} {n : zMem} {t : Nat} {a1 : Int32} {a2 : Int32} {m : zMem} {x : Int32} (ht : Nat.blt t 3 = true) (h : s_X5_isWanted t a1 a2 m = some x) : zMet w lc 3 yX5_isWanted cX5_isWanted 3 (some .boolean) [pR 1 t, pI a1, pI a2] (m, n) (zQI w x (m, n)) := by
  refine zmet (o := 5) (by decide +kernel) rfl (Nat.le_of_ble_eq_true rfl) rfl (fun f hl hF hR => ?_)
  unfold s_X5_isWanted at h
  show zG w f 3 0 ([some (pR 1 t), some (pI a1), some (pI a2)], [], (m, n))
  refine zrun hF [(.iload_n 1, 1, pI 0), (.iload_n 2, 1, pI 0)] 0 _ (by decide +kernel) ?_
  show zG w f 3 2 ([some (pR 1 t), some (pI a1), some (pI a2)], [pI a2, pI a1], (m, n))
  refine zicmp_eq (tgt := 31) (pc := 2) hF (by decide +kernel) (fun b1 => ?_) (fun b1 => ?_)
  · replace h := zit b1 h
    refine zrun hF [(.iconst 0, 1, pI 0)] 31 _ (by decide +kernel) ?_
    show zG w f 3 32 ([some (pR 1 t), some (pI a1), some (pI a2)], [pI 0], (m, n))
    exact zretI (pc := 32) hF hR (by decide +kernel) (by decide +kernel) (Option.some.inj h) rfl
  · replace h := zif b1 h
    obtain ⟨c2, h⟩ := zchk h
    refine zrun hF [(.aload_n 0, 1, pI 0), (.getfield 24, 3, pR 1 4), (.iload_n 1, 1, pI 0), (.iaload, 1, pI 0), (.iload_n 2, 1, pI 0), (.ishr, 1, pI 0), (.iconst 1, 1, pI 1), (.iand, 1, pI 0)] 5 _ (by decide +kernel) ?_
    refine (And.intro rfl (And.intro ht (And.intro rfl (And.intro ht (And.intro c2 ?_)))))
    show zG w f 3 15 ([some (pR 1 t), some (pI a1), some (pI a2)], [pI ((jshr (m.1 6 t (ix a1)) a2) &&& 1)], (m, n))
    refine zif_ne (tgt := 31) (pc := 15) hF (by decide +kernel) (fun b3 => ?_) (fun b3 => ?_)
    · replace h := zit b3 h
      refine zrun hF [(.aload_n 0, 1, pI 0), (.iload_n 1, 1, pI 0), (.iload_n 2, 1, pI 0)] 18 _ (by decide +kernel) ?_
      show zG w f 3 21 ([some (pR 1 t), some (pI a1), some (pI a2)], [pI a2, pI a1, pR 1 t], (m, n))
      obtain ⟨r5, q4, h⟩ := zr_k h
      refine zcallVI (pc := 21) (As := [pI a1, pI a2]) (st := []) (c := 1) (j := t) hF (m_X5_mayClink ht q4) w_X5_mayClink k_5_96 (by decide +kernel) rfl ht rfl rfl rfl rfl rfl ?_
      refine zif_eq (tgt := 31) (pc := 24) hF (by decide +kernel) (fun b6 => ?_) (fun b6 => ?_)
      · replace h := zit b6 h
        refine zrun hF [(.iconst 0, 1, pI 0)] 31 _ (by decide +kernel) ?_
        show zG w f 3 32 ([some (pR 1 t), some (pI a1), some (pI a2)], [pI 0], (m, n))
        exact zretI (pc := 32) hF hR (by decide +kernel) (by decide +kernel) (Option.some.inj h) rfl
      · replace h := zif b6 h
        refine zrun hF [(.iconst 1, 1, pI 1)] 27 _ (by decide +kernel) ?_
        show zG w f 3 28 ([some (pR 1 t), some (pI a1), some (pI a2)], [pI 1], (m, n))
        refine zgoto (tgt := 32) (pc := 28) hF (by decide +kernel) ?_
        exact zretI (pc := 32) hF hR (by decide +kernel) (by decide +kernel) (Option.some.inj h) rfl
    · replace h := zif b3 h
      refine zrun hF [(.iconst 0, 1, pI 0)] 31 _ (by decide +kernel) ?_
      show zG w f 3 32 ([some (pR 1 t), some (pI a1), some (pI a2)], [pI 0], (m, n))
      exact zretI (pc := 32) hF hR (by decide +kernel) (by decide +kernel) (Option.some.inj h) rfl

set_option maxHeartbeats 4000000 in
set_option maxRecDepth 100000 in
theorem m_X6_bit {w : zWd} {lc : Launch} {M : zWM} {a1 : Int32} {x : Int32}  (h : s_X6_bit a1 = some x) : zMet w lc 1 yX6_bit cX6_bit 1 (some .int) [pI a1] M (zQI w x M) := by
  refine zmet (o := 6) (by decide +kernel) rfl (Nat.le_of_ble_eq_true rfl) rfl (fun f hl hF hR => ?_)
  unfold s_X6_bit at h
  show zG w f 1 0 ([some (pI a1)], [], M)
  refine zrun hF [(.iconst 1, 1, pI 1), (.iload_n 0, 1, pI 0), (.ishl, 1, pI 0)] 0 _ (by decide +kernel) ?_
  show zG w f 1 3 ([some (pI a1)], [pI (jshl 1 a1)], M)
  exact zretI (pc := 3) hF hR (by decide +kernel) rfl (Option.some.inj h) rfl

set_option maxHeartbeats 4000000 in
set_option maxRecDepth 100000 in
theorem m_X5_lacksOf_L30 {w : zWd} {f : zFr} {n : zMem} {x : Int32} {lc : Launch} {mr : zMem} (hl : f.2.1 = lc) (hF : zFOK w f 5 cX5_lacksOf 4 4) (hR : zFin w f (some .int) (zQI w x (mr, n))) {k4 : Nat → Int32 → Int32 → Int32 → zMem → Option Int32} (hk4 : ∀ (x0 : Nat) (x1 : Int32) (x2 : Int32) (x3 : Int32) (m : zMem), Nat.blt x0 3 = true → m = mr → k4 x0 x1 x2 x3 m = some x → zG w f 4 4 ([some (pR 1 x0), some (pI x1), some (pI x2), some (pI x3)], [], (m, n))) : ∀ (x0 : Nat) (x1 : Int32) (x3 : Int32) (y0 : Int32) (y1 : Int32) (m : zMem), Nat.blt x0 3 = true → m = mr → s_X5_lacksOf_L30 k4 x0 x1 x3 y0 y1 m = some x → zG w f 4 30 ([some (pR 1 x0), some (pI x1), none, some (pI x3)], [pI y1, pI y0], (m, n)) := by
  intro x0 x1 x3 y0 y1 m hx0 hm h
  unfold s_X5_lacksOf_L30 at h
  refine zrun hF [(.ior, 1, pI 0), (.istore_n 2, 1, pI 0), (.iinc 3 1, 3, pI 1)] 30 _ (by decide +kernel) ?_
  refine (And.intro rfl (And.intro rfl ?_))
  show zG w f 4 35 ([some (pR 1 x0), some (pI x1), some (pI (y0 ||| y1)), some (pI (x3 + 1))], [], (m, n))
  refine zgoto (tgt := 4) (pc := 35) hF (by decide +kernel) ?_
  exact hk4 _ _ _ _ _ hx0 hm h

set_option maxHeartbeats 4000000 in
set_option maxRecDepth 100000 in
theorem m_X5_lacksOf_L4 {w : zWd} {f : zFr} {n : zMem} {x : Int32} {lc : Launch} {mr : zMem} (hl : f.2.1 = lc) (hF : zFOK w f 5 cX5_lacksOf 4 4) (hR : zFin w f (some .int) (zQI w x (mr, n))) : ∀ (k : Nat) (x0 : Nat) (x1 : Int32) (x2 : Int32) (x3 : Int32) (m : zMem), Nat.blt x0 3 = true → m = mr → s_X5_lacksOf_L4 k x0 x1 x2 x3 m = some x → zG w f 4 4 ([some (pR 1 x0), some (pI x1), some (pI x2), some (pI x3)], [], (m, n)) := by
  intro k
  induction k with
  | zero => intro x0 x1 x2 x3 m hx0 hm h; exact zno h
  | succ k ih =>
    intro x0 x1 x2 x3 m hx0 hm h
    unfold s_X5_lacksOf_L4 at h
    refine zrun hF [(.iload_n 3, 1, pI 0), (.aload_n 0, 1, pI 0), (.getfield 31, 3, pR 1 6)] 4 _ (by decide +kernel) ?_
    refine (And.intro rfl (And.intro hx0 ?_))
    show zG w f 4 9 ([some (pR 1 x0), some (pI x1), some (pI x2), some (pI x3)], [pI (m.1 1 x0 6), pI x3], (m, n))
    refine zicmp_ge (tgt := 38) (pc := 9) hF (by decide +kernel) (fun b1 => ?_) (fun b1 => ?_)
    · replace h := zit b1 h
      refine zrun hF [(.iload_n 2, 1, pI 0)] 38 _ (by decide +kernel) ?_
      show zG w f 4 39 ([some (pR 1 x0), some (pI x1), some (pI x2), some (pI x3)], [pI x2], (m, n))
      exact zretI (pc := 39) hF hR (by decide +kernel) rfl (Option.some.inj h) (congrArg (fun q => (q, n)) hm)
    · replace h := zif b1 h
      refine zrun hF [(.iload_n 2, 1, pI 0), (.aload_n 0, 1, pI 0), (.iload_n 1, 1, pI 0), (.iload_n 3, 1, pI 0)] 12 _ (by decide +kernel) ?_
      show zG w f 4 16 ([some (pR 1 x0), some (pI x1), some (pI x2), some (pI x3)], [pI x3, pI x1, pR 1 x0, pI x2], (m, n))
      obtain ⟨r3, q2, h⟩ := zr_k h
      refine zcallVI (pc := 16) (As := [pI x1, pI x3]) (st := [pI x2]) (c := 1) (j := x0) hF (m_X5_isWanted hx0 q2) w_X5_isWanted k_5_99 (by decide +kernel) rfl hx0 rfl rfl rfl rfl rfl ?_
      refine zif_eq (tgt := 29) (pc := 19) hF (by decide +kernel) (fun b4 => ?_) (fun b4 => ?_)
      · replace h := zit b4 h
        refine zrun hF [(.iconst 0, 1, pI 0)] 29 _ (by decide +kernel) ?_
        show zG w f 4 30 ([some (pR 1 x0), some (pI x1), some (pI x2), some (pI x3)], [pI 0, pI x2], (m, n))
        refine zcut [true, true, false, true] ?_
        exact m_X5_lacksOf_L30 hl hF hR ih _ _ _ _ _ _ hx0 hm h
      · replace h := zif b4 h
        refine zrun hF [(.iload_n 3, 1, pI 0)] 22 _ (by decide +kernel) ?_
        show zG w f 4 23 ([some (pR 1 x0), some (pI x1), some (pI x2), some (pI x3)], [pI x3, pI x2], (m, n))
        obtain ⟨r6, q5, h⟩ := zr_k h
        refine zcallNI (pc := 23) (As := [pI x3]) (st := [pI x2]) hF (m_X6_bit  q5) w_X6_bit k_5_55 (by decide +kernel) rfl rfl rfl rfl ?_
        refine zgoto (tgt := 30) (pc := 26) hF (by decide +kernel) ?_
        refine zcut [true, true, false, true] ?_
        exact m_X5_lacksOf_L30 hl hF hR ih _ _ _ _ _ _ hx0 hm h

set_option maxHeartbeats 4000000 in
set_option maxRecDepth 100000 in
theorem m_X5_lacksOf {w : zWd} {lc : Launch} {n : zMem} {t : Nat} {a1 : Int32} {m : zMem} {x : Int32} (ht : Nat.blt t 3 = true) (h : s_X5_lacksOf t a1 m = some x) : zMet w lc 4 yX5_lacksOf cX5_lacksOf 4 (some .int) [pR 1 t, pI a1] (m, n) (zQI w x (m, n)) := by
  refine zmet (o := 5) (by decide +kernel) rfl (Nat.le_of_ble_eq_true rfl) rfl (fun f hl hF hR => ?_)
  unfold s_X5_lacksOf at h
  show zG w f 4 0 ([some (pR 1 t), some (pI a1), none, none], [], (m, n))
  refine zrun hF [(.iconst 0, 1, pI 0), (.istore_n 2, 1, pI 0), (.iconst 0, 1, pI 0), (.istore_n 3, 1, pI 0)] 0 _ (by decide +kernel) ?_
  refine (And.intro rfl (And.intro rfl ?_))
  show zG w f 4 4 ([some (pR 1 t), some (pI a1), some (pI 0), some (pI 0)], [], (m, n))
  exact m_X5_lacksOf_L4 hl hF hR  zF _ _ _ _ _ ht rfl h

set_option maxHeartbeats 4000000 in
set_option maxRecDepth 100000 in
theorem m_J6_bitCount_0f7a4 {w : zWd} {lc : Launch} {M : zWM} {a1 : Int32} {x : Int32}  (h : s_J6_bitCount_0f7a4 a1 = some x) : zMet w lc 1 yJ6_bitCount_0f7a4 cJ6_bitCount_0f7a4 1 (some .int) [pI a1] M (zQI w x M) := by
  refine zmet (o := 9) (by decide +kernel) rfl (Nat.le_of_ble_eq_true rfl) rfl (fun f hl hF hR => ?_)
  unfold s_J6_bitCount_0f7a4 at h
  show zG w f 1 0 ([some (pI a1)], [], M)
  refine zrun hF [(.iload_n 0, 1, pI 0), (.iload_n 0, 1, pI 0), (.iconst 1, 1, pI 1), (.iushr, 1, pI 0), (.ldc_w 265, 3, pI 1431655765), (.iand, 1, pI 0), (.isub, 1, pI 0), (.istore_n 0, 1, pI 0)] 0 _ (by decide +kernel) ?_
  refine (And.intro rfl ?_)
  refine zlet_k (P := fun (v1 : Int32) => zG w f 1 10 ([some (pI v1)], [], M)) h (fun v1 h => ?_)
  refine zrun hF [(.iload_n 0, 1, pI 0), (.ldc_w 266, 3, pI 858993459), (.iand, 1, pI 0), (.iload_n 0, 1, pI 0), (.iconst 2, 1, pI 2), (.iushr, 1, pI 0), (.ldc_w 266, 3, pI 858993459), (.iand, 1, pI 0), (.iadd, 1, pI 0), (.istore_n 0, 1, pI 0)] 10 _ (by decide +kernel) ?_
  refine (And.intro rfl ?_)
  refine zlet_k (P := fun (v2 : Int32) => zG w f 1 24 ([some (pI v2)], [], M)) h (fun v2 h => ?_)
  refine zrun hF [(.iload_n 0, 1, pI 0), (.iload_n 0, 1, pI 0), (.iconst 4, 1, pI 4), (.iushr, 1, pI 0), (.iadd, 1, pI 0), (.ldc_w 267, 3, pI 252645135), (.iand, 1, pI 0), (.istore_n 0, 1, pI 0)] 24 _ (by decide +kernel) ?_
  refine (And.intro rfl ?_)
  refine zlet_k (P := fun (v3 : Int32) => zG w f 1 34 ([some (pI v3)], [], M)) h (fun v3 h => ?_)
  refine zrun hF [(.iload_n 0, 1, pI 0), (.iload_n 0, 1, pI 0), (.bipush 8, 2, pI 8), (.iushr, 1, pI 0), (.iadd, 1, pI 0), (.istore_n 0, 1, pI 0)] 34 _ (by decide +kernel) ?_
  refine (And.intro rfl ?_)
  refine zlet_k (P := fun (v4 : Int32) => zG w f 1 41 ([some (pI v4)], [], M)) h (fun v4 h => ?_)
  refine zrun hF [(.iload_n 0, 1, pI 0), (.iload_n 0, 1, pI 0), (.bipush 16, 2, pI 16), (.iushr, 1, pI 0), (.iadd, 1, pI 0), (.istore_n 0, 1, pI 0)] 41 _ (by decide +kernel) ?_
  refine (And.intro rfl ?_)
  refine zlet_k (P := fun (v5 : Int32) => zG w f 1 48 ([some (pI v5)], [], M)) h (fun v5 h => ?_)
  refine zrun hF [(.iload_n 0, 1, pI 0), (.bipush 63, 2, pI 63), (.iand, 1, pI 0)] 48 _ (by decide +kernel) ?_
  show zG w f 1 52 ([some (pI v5)], [pI (v5 &&& 63)], M)
  exact zretI (pc := 52) hF hR (by decide +kernel) rfl (Option.some.inj h) rfl

set_option maxHeartbeats 4000000 in
set_option maxRecDepth 100000 in
theorem m_X5_wantsOf {w : zWd} {lc : Launch} {n : zMem} {t : Nat} {a1 : Int32} {m : zMem} {x : Int32} (ht : Nat.blt t 3 = true) (h : s_X5_wantsOf t a1 m = some x) : zMet w lc 5 yX5_wantsOf cX5_wantsOf 2 (some .int) [pR 1 t, pI a1] (m, n) (zQI w x (m, n)) := by
  refine zmet (o := 5) (by decide +kernel) rfl (Nat.le_of_ble_eq_true rfl) rfl (fun f hl hF hR => ?_)
  unfold s_X5_wantsOf at h
  show zG w f 2 0 ([some (pR 1 t), some (pI a1)], [], (m, n))
  refine zrun hF [(.aload_n 0, 1, pI 0), (.iload_n 1, 1, pI 0)] 0 _ (by decide +kernel) ?_
  show zG w f 2 2 ([some (pR 1 t), some (pI a1)], [pI a1, pR 1 t], (m, n))
  obtain ⟨r2, q1, h⟩ := zr_k h
  refine zcallVI (pc := 2) (As := [pI a1]) (st := []) (c := 1) (j := t) hF (m_X5_lacksOf ht q1) w_X5_lacksOf k_5_102 (by decide +kernel) rfl ht rfl rfl rfl rfl rfl ?_
  obtain ⟨r4, q3, h⟩ := zr_k h
  refine zcallSI (pc := 5) (As := [pI r2]) (st := []) hF (m_J6_bitCount_0f7a4  q3) w_J6_bitCount_0f7a4 k_5_105 (by decide +kernel) rfl rfl rfl rfl ?_
  exact zretI (pc := 8) hF hR (by decide +kernel) rfl (Option.some.inj h) rfl

set_option maxHeartbeats 4000000 in
set_option maxRecDepth 100000 in
theorem m_X5_slownessOf {w : zWd} {lc : Launch} {n : zMem} {t : Nat} {a1 : Int32} {m : zMem} {x : Int32} (ht : Nat.blt t 3 = true) (h : s_X5_slownessOf t a1 m = some x) : zMet w lc 2 yX5_slownessOf cX5_slownessOf 2 (some .int) [pR 1 t, pI a1] (m, n) (zQI w x (m, n)) := by
  refine zmet (o := 5) (by decide +kernel) rfl (Nat.le_of_ble_eq_true rfl) rfl (fun f hl hF hR => ?_)
  unfold s_X5_slownessOf at h
  show zG w f 2 0 ([some (pR 1 t), some (pI a1)], [], (m, n))
  refine zrun hF [(.aload_n 0, 1, pI 0), (.iload_n 1, 1, pI 0), (.iconst 2, 1, pI 2)] 0 _ (by decide +kernel) ?_
  show zG w f 2 3 ([some (pR 1 t), some (pI a1)], [pI 2, pI a1, pR 1 t], (m, n))
  obtain ⟨r2, q1, h⟩ := zr_k h
  refine zcallVI (pc := 3) (As := [pI a1, pI 2]) (st := []) (c := 1) (j := t) hF (m_X5_isOf ht q1) w_X5_isOf k_5_70 (by decide +kernel) rfl ht rfl rfl rfl rfl rfl ?_
  refine zif_eq (tgt := 18) (pc := 6) hF (by decide +kernel) (fun b3 => ?_) (fun b3 => ?_)
  · replace h := zit b3 h
    refine zrun hF [(.iconst 0, 1, pI 0)] 18 _ (by decide +kernel) ?_
    show zG w f 2 19 ([some (pR 1 t), some (pI a1)], [pI 0], (m, n))
    exact zretI (pc := 19) hF hR (by decide +kernel) rfl (Option.some.inj h) rfl
  · replace h := zif b3 h
    obtain ⟨c4, h⟩ := zchk h
    refine zrun hF [(.aload_n 0, 1, pI 0), (.getfield 18, 3, pR 1 2), (.iload_n 1, 1, pI 0), (.iaload, 1, pI 0)] 9 _ (by decide +kernel) ?_
    refine (And.intro rfl (And.intro ht (And.intro rfl (And.intro ht (And.intro c4 ?_)))))
    show zG w f 2 15 ([some (pR 1 t), some (pI a1)], [pI (m.1 4 t (ix a1))], (m, n))
    refine zgoto (tgt := 19) (pc := 15) hF (by decide +kernel) ?_
    exact zretI (pc := 19) hF hR (by decide +kernel) rfl (Option.some.inj h) rfl

set_option maxHeartbeats 4000000 in
set_option maxRecDepth 100000 in
theorem m_X5_mayOf_L32 {w : zWd} {f : zFr} {n : zMem} {x : Int32} {lc : Launch} {mr : zMem} (hl : f.2.1 = lc) (hF : zFOK w f 5 cX5_mayOf 4 3) (hR : zFin w f (some .int) (zQI w x (mr, n))) {k4 : Nat → Int32 → Int32 → Int32 → zMem → Option Int32} (hk4 : ∀ (x0 : Nat) (x1 : Int32) (x2 : Int32) (x3 : Int32) (m : zMem), Nat.blt x0 3 = true → m = mr → k4 x0 x1 x2 x3 m = some x → zG w f 4 4 ([some (pR 1 x0), some (pI x1), some (pI x2), some (pI x3)], [], (m, n))) : ∀ (x0 : Nat) (x1 : Int32) (x3 : Int32) (y0 : Int32) (y1 : Int32) (m : zMem), Nat.blt x0 3 = true → m = mr → s_X5_mayOf_L32 k4 x0 x1 x3 y0 y1 m = some x → zG w f 4 32 ([some (pR 1 x0), some (pI x1), none, some (pI x3)], [pI y1, pI y0], (m, n)) := by
  intro x0 x1 x3 y0 y1 m hx0 hm h
  unfold s_X5_mayOf_L32 at h
  refine zrun hF [(.iadd, 1, pI 0), (.istore_n 2, 1, pI 0), (.iinc 3 1, 3, pI 1)] 32 _ (by decide +kernel) ?_
  refine (And.intro rfl (And.intro rfl ?_))
  show zG w f 4 37 ([some (pR 1 x0), some (pI x1), some (pI (y0 + y1)), some (pI (x3 + 1))], [], (m, n))
  refine zgoto (tgt := 4) (pc := 37) hF (by decide +kernel) ?_
  exact hk4 _ _ _ _ _ hx0 hm h

set_option maxHeartbeats 4000000 in
set_option maxRecDepth 100000 in
theorem m_X5_mayOf_L31 {w : zWd} {f : zFr} {n : zMem} {x : Int32} {lc : Launch} {mr : zMem} (hl : f.2.1 = lc) (hF : zFOK w f 5 cX5_mayOf 4 3) (hR : zFin w f (some .int) (zQI w x (mr, n))) {k4 : Nat → Int32 → Int32 → Int32 → zMem → Option Int32} (hk4 : ∀ (x0 : Nat) (x1 : Int32) (x2 : Int32) (x3 : Int32) (m : zMem), Nat.blt x0 3 = true → m = mr → k4 x0 x1 x2 x3 m = some x → zG w f 4 4 ([some (pR 1 x0), some (pI x1), some (pI x2), some (pI x3)], [], (m, n))) : ∀ (x0 : Nat) (x1 : Int32) (x3 : Int32) (y0 : Int32) (m : zMem), Nat.blt x0 3 = true → m = mr → s_X5_mayOf_L31 k4 x0 x1 x3 y0 m = some x → zG w f 4 31 ([some (pR 1 x0), some (pI x1), none, some (pI x3)], [pI y0], (m, n)) := by
  intro x0 x1 x3 y0 m hx0 hm h
  unfold s_X5_mayOf_L31 at h
  refine zrun hF [(.iconst 0, 1, pI 0)] 31 _ (by decide +kernel) ?_
  show zG w f 4 32 ([some (pR 1 x0), some (pI x1), none, some (pI x3)], [pI 0, pI y0], (m, n))
  exact m_X5_mayOf_L32 hl hF hR hk4 _ _ _ _ _ _ hx0 hm h

set_option maxHeartbeats 4000000 in
set_option maxRecDepth 100000 in
theorem m_X5_mayOf_L4 {w : zWd} {f : zFr} {n : zMem} {x : Int32} {lc : Launch} {mr : zMem} (hl : f.2.1 = lc) (hF : zFOK w f 5 cX5_mayOf 4 3) (hR : zFin w f (some .int) (zQI w x (mr, n))) : ∀ (k : Nat) (x0 : Nat) (x1 : Int32) (x2 : Int32) (x3 : Int32) (m : zMem), Nat.blt x0 3 = true → m = mr → s_X5_mayOf_L4 k x0 x1 x2 x3 m = some x → zG w f 4 4 ([some (pR 1 x0), some (pI x1), some (pI x2), some (pI x3)], [], (m, n)) := by
  intro k
  induction k with
  | zero => intro x0 x1 x2 x3 m hx0 hm h; exact zno h
  | succ k ih =>
    intro x0 x1 x2 x3 m hx0 hm h
    unfold s_X5_mayOf_L4 at h
    refine zrun hF [(.iload_n 3, 1, pI 0), (.aload_n 0, 1, pI 0), (.getfield 31, 3, pR 1 6)] 4 _ (by decide +kernel) ?_
    refine (And.intro rfl (And.intro hx0 ?_))
    show zG w f 4 9 ([some (pR 1 x0), some (pI x1), some (pI x2), some (pI x3)], [pI (m.1 1 x0 6), pI x3], (m, n))
    refine zicmp_ge (tgt := 40) (pc := 9) hF (by decide +kernel) (fun b1 => ?_) (fun b1 => ?_)
    · replace h := zit b1 h
      refine zrun hF [(.iload_n 2, 1, pI 0)] 40 _ (by decide +kernel) ?_
      show zG w f 4 41 ([some (pR 1 x0), some (pI x1), some (pI x2), some (pI x3)], [pI x2], (m, n))
      exact zretI (pc := 41) hF hR (by decide +kernel) rfl (Option.some.inj h) (congrArg (fun q => (q, n)) hm)
    · replace h := zif b1 h
      refine zrun hF [(.iload_n 2, 1, pI 0), (.iload_n 3, 1, pI 0), (.iload_n 1, 1, pI 0)] 12 _ (by decide +kernel) ?_
      show zG w f 4 15 ([some (pR 1 x0), some (pI x1), some (pI x2), some (pI x3)], [pI x1, pI x3, pI x2], (m, n))
      refine zicmp_eq (tgt := 31) (pc := 15) hF (by decide +kernel) (fun b2 => ?_) (fun b2 => ?_)
      · replace h := zit b2 h
        refine zcut [true, true, false, true] ?_
        exact m_X5_mayOf_L31 hl hF hR ih _ _ _ _ _ hx0 hm h
      · replace h := zif b2 h
        refine zrun hF [(.aload_n 0, 1, pI 0), (.iload_n 1, 1, pI 0), (.iload_n 3, 1, pI 0)] 18 _ (by decide +kernel) ?_
        show zG w f 4 21 ([some (pR 1 x0), some (pI x1), some (pI x2), some (pI x3)], [pI x3, pI x1, pR 1 x0, pI x2], (m, n))
        obtain ⟨r4, q3, h⟩ := zr_k h
        refine zcallVI (pc := 21) (As := [pI x1, pI x3]) (st := [pI x2]) (c := 1) (j := x0) hF (m_X5_mayClink hx0 q3) w_X5_mayClink k_5_96 (by decide +kernel) rfl hx0 rfl rfl rfl rfl rfl ?_
        refine zif_eq (tgt := 31) (pc := 24) hF (by decide +kernel) (fun b5 => ?_) (fun b5 => ?_)
        · replace h := zit b5 h
          refine zcut [true, true, false, true] ?_
          exact m_X5_mayOf_L31 hl hF hR ih _ _ _ _ _ hx0 hm h
        · replace h := zif b5 h
          refine zrun hF [(.iconst 1, 1, pI 1)] 27 _ (by decide +kernel) ?_
          show zG w f 4 28 ([some (pR 1 x0), some (pI x1), some (pI x2), some (pI x3)], [pI 1, pI x2], (m, n))
          refine zgoto (tgt := 32) (pc := 28) hF (by decide +kernel) ?_
          refine zcut [true, true, false, true] ?_
          exact m_X5_mayOf_L32 hl hF hR ih _ _ _ _ _ _ hx0 hm h

set_option maxHeartbeats 4000000 in
set_option maxRecDepth 100000 in
theorem m_X5_mayOf {w : zWd} {lc : Launch} {n : zMem} {t : Nat} {a1 : Int32} {m : zMem} {x : Int32} (ht : Nat.blt t 3 = true) (h : s_X5_mayOf t a1 m = some x) : zMet w lc 3 yX5_mayOf cX5_mayOf 4 (some .int) [pR 1 t, pI a1] (m, n) (zQI w x (m, n)) := by
  refine zmet (o := 5) (by decide +kernel) rfl (Nat.le_of_ble_eq_true rfl) rfl (fun f hl hF hR => ?_)
  unfold s_X5_mayOf at h
  show zG w f 4 0 ([some (pR 1 t), some (pI a1), none, none], [], (m, n))
  refine zrun hF [(.iconst 0, 1, pI 0), (.istore_n 2, 1, pI 0), (.iconst 0, 1, pI 0), (.istore_n 3, 1, pI 0)] 0 _ (by decide +kernel) ?_
  refine (And.intro rfl (And.intro rfl ?_))
  show zG w f 4 4 ([some (pR 1 t), some (pI a1), some (pI 0), some (pI 0)], [], (m, n))
  exact m_X5_mayOf_L4 hl hF hR  zF _ _ _ _ _ ht rfl h

set_option maxHeartbeats 4000000 in
set_option maxRecDepth 100000 in
theorem m_X6_wordsOf {w : zWd} {lc : Launch} {n : zMem} {a1 : Int32} {a2 : Int32} {m : zMem} {x : Int32}  (h : s_X6_wordsOf a1 a2 m = some x) : zMet w lc 6 yX6_wordsOf cX6_wordsOf 3 (some .int) [pR 0 0, pI a1, pI a2] (m, n) (zQI w x (m, n)) := by
  refine zmet (o := 6) (by decide +kernel) rfl (Nat.le_of_ble_eq_true rfl) rfl (fun f hl hF hR => ?_)
  unfold s_X6_wordsOf at h
  show zG w f 3 0 ([some (pR 0 0), some (pI a1), some (pI a2)], [], (m, n))
  refine zrun hF [(.iload_n 2, 1, pI 0)] 0 _ (by decide +kernel) ?_
  show zG w f 3 1 ([some (pR 0 0), some (pI a1), some (pI a2)], [pI a2], (m, n))
  refine zswitch (pc := 1) [(0, 44), (1, 54), (2, 63), (3, 54), (4, 74), (6, 74)] 83 hF (by decide +kernel) ?_
  refine And.intro (fun b1 => ?_) (fun b1 => ?_)
  · replace h := zit b1 h
    obtain ⟨c2, h⟩ := zchk h
    refine zrun hF [(.aload_n 0, 1, pI 0), (.getfield 10, 3, pR 0 0), (.getfield 154, 3, pR 1 1), (.iload_n 1, 1, pI 0), (.iaload, 1, pI 0)] 44 _ (by decide +kernel) ?_
    refine (And.intro rfl (And.intro rfl (And.intro rfl (And.intro rfl (And.intro rfl (And.intro rfl (And.intro c2 ?_)))))))
    show zG w f 3 53 ([some (pR 0 0), some (pI a1), some (pI a2)], [pI (m.1 3 0 (ix a1))], (m, n))
    exact zretI (pc := 53) hF hR (by decide +kernel) rfl (Option.some.inj h) rfl
  · replace h := zif b1 h
    refine And.intro (fun b3 => ?_) (fun b3 => ?_)
    · replace h := zit b3 h
      refine zrun hF [(.aload_n 0, 1, pI 0), (.getfield 10, 3, pR 0 0), (.iload_n 1, 1, pI 0)] 54 _ (by decide +kernel) ?_
      refine (And.intro rfl (And.intro rfl ?_))
      show zG w f 3 59 ([some (pR 0 0), some (pI a1), some (pI a2)], [pI a1, pR 1 0], (m, n))
      obtain ⟨r5, q4, h⟩ := zr_k h
      refine zcallVI (pc := 59) (As := [pI a1]) (st := []) (c := 1) (j := 0) hF (m_X5_mayOf rfl q4) w_X5_mayOf k_6_360 (by decide +kernel) rfl rfl rfl rfl rfl rfl rfl ?_
      exact zretI (pc := 62) hF hR (by decide +kernel) rfl (Option.some.inj h) rfl
    · replace h := zif b3 h
      refine And.intro (fun b6 => ?_) (fun b6 => ?_)
      · replace h := zit b6 h
        refine zrun hF [(.iconst 1, 1, pI 1), (.aload_n 0, 1, pI 0), (.getfield 10, 3, pR 0 0), (.iload_n 1, 1, pI 0)] 63 _ (by decide +kernel) ?_
        refine (And.intro rfl (And.intro rfl ?_))
        show zG w f 3 69 ([some (pR 0 0), some (pI a1), some (pI a2)], [pI a1, pR 1 0, pI 1], (m, n))
        obtain ⟨r8, q7, h⟩ := zr_k h
        refine zcallVI (pc := 69) (As := [pI a1]) (st := [pI 1]) (c := 1) (j := 0) hF (m_X5_slownessOf rfl q7) w_X5_slownessOf k_6_363 (by decide +kernel) rfl rfl rfl rfl rfl rfl rfl ?_
        refine zrun hF [(.iadd, 1, pI 0)] 72 _ (by decide +kernel) ?_
        show zG w f 3 73 ([some (pR 0 0), some (pI a1), some (pI a2)], [pI (1 + r8)], (m, n))
        exact zretI (pc := 73) hF hR (by decide +kernel) rfl (Option.some.inj h) rfl
      · replace h := zif b6 h
        refine And.intro (fun b9 => ?_) (fun b9 => ?_)
        · replace h := zit b9 h
          refine zrun hF [(.aload_n 0, 1, pI 0), (.getfield 10, 3, pR 0 0), (.iload_n 1, 1, pI 0)] 54 _ (by decide +kernel) ?_
          refine (And.intro rfl (And.intro rfl ?_))
          show zG w f 3 59 ([some (pR 0 0), some (pI a1), some (pI a2)], [pI a1, pR 1 0], (m, n))
          obtain ⟨r11, q10, h⟩ := zr_k h
          refine zcallVI (pc := 59) (As := [pI a1]) (st := []) (c := 1) (j := 0) hF (m_X5_mayOf rfl q10) w_X5_mayOf k_6_360 (by decide +kernel) rfl rfl rfl rfl rfl rfl rfl ?_
          exact zretI (pc := 62) hF hR (by decide +kernel) rfl (Option.some.inj h) rfl
        · replace h := zif b9 h
          refine And.intro (fun b12 => ?_) (fun b12 => ?_)
          · replace h := zit b12 h
            refine zrun hF [(.aload_n 0, 1, pI 0), (.getfield 10, 3, pR 0 0), (.iload_n 1, 1, pI 0)] 74 _ (by decide +kernel) ?_
            refine (And.intro rfl (And.intro rfl ?_))
            show zG w f 3 79 ([some (pR 0 0), some (pI a1), some (pI a2)], [pI a1, pR 1 0], (m, n))
            obtain ⟨r14, q13, h⟩ := zr_k h
            refine zcallVI (pc := 79) (As := [pI a1]) (st := []) (c := 1) (j := 0) hF (m_X5_wantsOf rfl q13) w_X5_wantsOf k_6_243 (by decide +kernel) rfl rfl rfl rfl rfl rfl rfl ?_
            exact zretI (pc := 82) hF hR (by decide +kernel) rfl (Option.some.inj h) rfl
          · replace h := zif b12 h
            refine And.intro (fun b15 => ?_) (fun b15 => ?_)
            · replace h := zit b15 h
              refine zrun hF [(.aload_n 0, 1, pI 0), (.getfield 10, 3, pR 0 0), (.iload_n 1, 1, pI 0)] 74 _ (by decide +kernel) ?_
              refine (And.intro rfl (And.intro rfl ?_))
              show zG w f 3 79 ([some (pR 0 0), some (pI a1), some (pI a2)], [pI a1, pR 1 0], (m, n))
              obtain ⟨r17, q16, h⟩ := zr_k h
              refine zcallVI (pc := 79) (As := [pI a1]) (st := []) (c := 1) (j := 0) hF (m_X5_wantsOf rfl q16) w_X5_wantsOf k_6_243 (by decide +kernel) rfl rfl rfl rfl rfl rfl rfl ?_
              exact zretI (pc := 82) hF hR (by decide +kernel) rfl (Option.some.inj h) rfl
            · replace h := zif b15 h
              obtain ⟨c18, h⟩ := zchk h
              refine zrun hF [(.aload_n 0, 1, pI 0), (.getfield 10, 3, pR 0 0), (.getfield 157, 3, pR 1 2), (.iload_n 1, 1, pI 0), (.iaload, 1, pI 0)] 83 _ (by decide +kernel) ?_
              refine (And.intro rfl (And.intro rfl (And.intro rfl (And.intro rfl (And.intro rfl (And.intro rfl (And.intro c18 ?_)))))))
              show zG w f 3 92 ([some (pR 0 0), some (pI a1), some (pI a2)], [pI (m.1 4 0 (ix a1))], (m, n))
              exact zretI (pc := 92) hF hR (by decide +kernel) rfl (Option.some.inj h) rfl

set_option maxHeartbeats 4000000 in
set_option maxRecDepth 100000 in
theorem m_X6_says_L14 {w : zWd} {f : zFr} {n : zMem} {x : Int32} {m0 : zMem} {lc : Launch} (hl : f.2.1 = lc) (hF : zFOK w f 6 cX6_says 4 7) (hR : zFin w f (some .int) (zQI w x (m0, n))) : ∀ (m : zMem), s_X6_says_L14 m = some (x, m0) → zG w f 4 14 ([some (pR 0 0), none, none, none], [], (m, n)) := by
  intro m h
  unfold s_X6_says_L14 at h
  refine zrun hF [(.aload_n 0, 1, pI 0), (.iconst (-1), 1, pI (-1))] 14 _ (by decide +kernel) ?_
  show zG w f 4 16 ([some (pR 0 0), none, none, none], [pI (-1), pR 0 0], (m, n))
  obtain ⟨r24, m25, q23, h⟩ := zb_k h
  refine zcallVI (pc := 16) (As := [pI (-1)]) (st := []) (c := 0) (j := 0) hF (m_X6_refuse  q23) w_X6_refuse k_6_73 (by decide +kernel) rfl rfl rfl rfl rfl rfl rfl ?_
  exact zretI (pc := 19) hF hR (by decide +kernel) rfl (congrArg Prod.fst (Option.some.inj h)) (congrArg (fun (q : Int32 × zMem) => (q.2, n)) (Option.some.inj h))

set_option maxHeartbeats 4000000 in
set_option maxRecDepth 100000 in
theorem m_X6_says_L72 {w : zWd} {f : zFr} {n : zMem} {x : Int32} {m0 : zMem} {lc : Launch} (hl : f.2.1 = lc) (hF : zFOK w f 6 cX6_says 4 7) (hR : zFin w f (some .int) (zQI w x (m0, n))) : ∀ (m : zMem), s_X6_says_L72 m = some (x, m0) → zG w f 4 72 ([some (pR 0 0), none, none, none], [], (m, n)) := by
  intro m h
  unfold s_X6_says_L72 at h
  refine zrun hF [(.aload_n 0, 1, pI 0), (.bipush (-2), 2, pI (-2))] 72 _ (by decide +kernel) ?_
  show zG w f 4 75 ([some (pR 0 0), none, none, none], [pI (-2), pR 0 0], (m, n))
  obtain ⟨r27, m28, q26, h⟩ := zb_k h
  refine zcallVI (pc := 75) (As := [pI (-2)]) (st := []) (c := 0) (j := 0) hF (m_X6_refuse  q26) w_X6_refuse k_6_73 (by decide +kernel) rfl rfl rfl rfl rfl rfl rfl ?_
  exact zretI (pc := 78) hF hR (by decide +kernel) rfl (congrArg Prod.fst (Option.some.inj h)) (congrArg (fun (q : Int32 × zMem) => (q.2, n)) (Option.some.inj h))

set_option maxHeartbeats 4000000 in
set_option maxRecDepth 100000 in
theorem m_X6_says {w : zWd} {lc : Launch} {n : zMem} {a1 : Int32} {a2 : Int32} {m : zMem} {x : Int32} {m0 : zMem}  (h : s_X6_says a1 a2 m = some (x, m0)) : zMet w lc 7 yX6_says cX6_says 4 (some .int) [pR 0 0, pI a1, pI a2] (m, n) (zQI w x (m0, n)) := by
  refine zmet (o := 6) (by decide +kernel) rfl (Nat.le_of_ble_eq_true rfl) rfl (fun f hl hF hR => ?_)
  unfold s_X6_says at h
  show zG w f 4 0 ([some (pR 0 0), some (pI a1), some (pI a2), none], [], (m, n))
  refine zrun hF [(.iload_n 1, 1, pI 0)] 0 _ (by decide +kernel) ?_
  show zG w f 4 1 ([some (pR 0 0), some (pI a1), some (pI a2), none], [pI a1], (m, n))
  obtain ⟨r2, q1, h⟩ := zr_k h
  refine zcallSI (pc := 1) (As := [pI a1]) (st := []) hF (m_X6_isShelf  q1) w_X6_isShelf k_6_69 (by decide +kernel) rfl rfl rfl rfl ?_
  refine zif_eq (tgt := 14) (pc := 4) hF (by decide +kernel) (fun b3 => ?_) (fun b3 => ?_)
  · replace h := zit b3 h
    refine zcut [true, false, false, true] ?_
    exact m_X6_says_L14 hl hF hR  _  h
  · replace h := zif b3 h
    refine zrun hF [(.iload_n 2, 1, pI 0)] 7 _ (by decide +kernel) ?_
    show zG w f 4 8 ([some (pR 0 0), some (pI a1), some (pI a2), none], [pI a2], (m, n))
    obtain ⟨r5, q4, h⟩ := zr_k h
    refine zcallSI (pc := 8) (As := [pI a2]) (st := []) hF (m_X6_isKind  q4) w_X6_isKind k_6_122 (by decide +kernel) rfl rfl rfl rfl ?_
    refine zif_ne (tgt := 20) (pc := 11) hF (by decide +kernel) (fun b6 => ?_) (fun b6 => ?_)
    · replace h := zit b6 h
      refine zcut [true, false, false, true] ?_
      exact m_X6_says_L14 hl hF hR  _  h
    · replace h := zif b6 h
      obtain ⟨c7, h⟩ := zchk h
      refine zrun hF [(.aload_n 0, 1, pI 0), (.getfield 28, 3, pR 0 4), (.iload_n 1, 1, pI 0), (.aaload, 1, pI 0)] 20 _ (by decide +kernel) ?_
      refine (And.intro rfl (And.intro rfl (And.intro rfl (And.intro c7 ?_))))
      show zG w f 4 26 ([some (pR 0 0), some (pI a1), some (pI a2), none], [pR 8 (ix a1)], (m, n))
      obtain ⟨r9, q8, h⟩ := zr_k h
      refine zcallVI (pc := 26) (As := []) (st := []) (c := 8) (j := (ix a1)) hF (m_X4_isEmpty (zinb_blt c7) q8) w_X4_isEmpty k_6_95 (by decide +kernel) rfl (zinb_blt c7) rfl rfl rfl rfl rfl ?_
      refine zif_eq (tgt := 39) (pc := 29) hF (by decide +kernel) (fun b10 => ?_) (fun b10 => ?_)
      · replace h := zit b10 h
        refine zrun hF [(.aload_n 0, 1, pI 0), (.getfield 28, 3, pR 0 4), (.iload_n 1, 1, pI 0), (.aaload, 1, pI 0), (.getfield 98, 3, pR 8 1), (.istore_n 3, 1, pI 0)] 39 _ (by decide +kernel) ?_
        refine (And.intro rfl (And.intro rfl (And.intro rfl (And.intro c7 (And.intro rfl (And.intro (zinb_blt c7) (And.intro rfl ?_)))))))
        refine zlet_k (P := fun (v11 : Int32) => zG w f 4 49 ([some (pR 0 0), some (pI a1), some (pI a2), some (pI v11)], [], (m, n))) h (fun v11 h => ?_)
        refine zrun hF [(.aload_n 0, 1, pI 0), (.getfield 10, 3, pR 0 0), (.iload_n 3, 1, pI 0)] 49 _ (by decide +kernel) ?_
        refine (And.intro rfl (And.intro rfl ?_))
        show zG w f 4 54 ([some (pR 0 0), some (pI a1), some (pI a2), some (pI v11)], [pI v11, pR 1 0], (m, n))
        obtain ⟨r13, q12, h⟩ := zr_k h
        refine zcallVI (pc := 54) (As := [pI v11]) (st := []) (c := 1) (j := 0) hF (m_X5_exists rfl q12) w_X5_exists k_6_119 (by decide +kernel) rfl rfl rfl rfl rfl rfl rfl ?_
        refine zif_eq (tgt := 72) (pc := 57) hF (by decide +kernel) (fun b14 => ?_) (fun b14 => ?_)
        · replace h := zit b14 h
          refine zcut [true, false, false, false] ?_
          exact m_X6_says_L72 hl hF hR  _  h
        · replace h := zif b14 h
          refine zrun hF [(.aload_n 0, 1, pI 0), (.getfield 10, 3, pR 0 0), (.iload_n 3, 1, pI 0), (.iload_n 2, 1, pI 0)] 60 _ (by decide +kernel) ?_
          refine (And.intro rfl (And.intro rfl ?_))
          show zG w f 4 66 ([some (pR 0 0), some (pI a1), some (pI a2), some (pI v11)], [pI a2, pI v11, pR 1 0], (m, n))
          obtain ⟨r16, q15, h⟩ := zr_k h
          refine zcallVI (pc := 66) (As := [pI v11, pI a2]) (st := []) (c := 1) (j := 0) hF (m_X5_isOf rfl q15) w_X5_isOf k_6_125 (by decide +kernel) rfl rfl rfl rfl rfl rfl rfl ?_
          refine zif_ne (tgt := 79) (pc := 69) hF (by decide +kernel) (fun b17 => ?_) (fun b17 => ?_)
          · replace h := zit b17 h
            refine zcut [true, false, false, false] ?_
            exact m_X6_says_L72 hl hF hR  _  h
          · replace h := zif b17 h
            refine zrun hF [(.aload_n 0, 1, pI 0), (.iload_n 3, 1, pI 0), (.iload_n 2, 1, pI 0)] 79 _ (by decide +kernel) ?_
            show zG w f 4 82 ([some (pR 0 0), some (pI a1), some (pI a2), some (pI v11)], [pI a2, pI v11, pR 0 0], (m, n))
            obtain ⟨r19, q18, h⟩ := zr_k h
            refine zcallVI (pc := 82) (As := [pI v11, pI a2]) (st := []) (c := 0) (j := 0) hF (m_X6_wordsOf  q18) w_X6_wordsOf k_6_128 (by decide +kernel) rfl rfl rfl rfl rfl rfl rfl ?_
            exact zretI (pc := 85) hF hR (by decide +kernel) rfl (congrArg Prod.fst (Option.some.inj h)) (congrArg (fun (q : Int32 × zMem) => (q.2, n)) (Option.some.inj h))
      · replace h := zif b10 h
        refine zrun hF [(.aload_n 0, 1, pI 0), (.bipush (-3), 2, pI (-3))] 32 _ (by decide +kernel) ?_
        show zG w f 4 35 ([some (pR 0 0), some (pI a1), some (pI a2), none], [pI (-3), pR 0 0], (m, n))
        obtain ⟨r21, m22, q20, h⟩ := zb_k h
        refine zcallVI (pc := 35) (As := [pI (-3)]) (st := []) (c := 0) (j := 0) hF (m_X6_refuse  q20) w_X6_refuse k_6_73 (by decide +kernel) rfl rfl rfl rfl rfl rfl rfl ?_
        exact zretI (pc := 38) hF hR (by decide +kernel) rfl (congrArg Prod.fst (Option.some.inj h)) (congrArg (fun (q : Int32 × zMem) => (q.2, n)) (Option.some.inj h))

set_option maxHeartbeats 4000000 in
set_option maxRecDepth 100000 in
theorem m_X7_isIn {w : zWd} {lc : Launch} {M : zWM} {a1 : Int32} {a2 : Int32} {x : Int32}  (h : s_X7_isIn a1 a2 = some x) : zMet w lc 1 yX7_isIn cX7_isIn 3 (some .boolean) [pR 64 0, pI a1, pI a2] M (zQI w x M) := by
  refine zmet (o := 7) (by decide +kernel) rfl (Nat.le_of_ble_eq_true rfl) rfl (fun f hl hF hR => ?_)
  unfold s_X7_isIn at h
  show zG w f 3 0 ([some (pR 64 0), some (pI a1), some (pI a2)], [], M)
  refine zrun hF [(.iload_n 1, 1, pI 0), (.iload_n 2, 1, pI 0), (.ishr, 1, pI 0), (.iconst 1, 1, pI 1), (.iand, 1, pI 0), (.iconst 1, 1, pI 1)] 0 _ (by decide +kernel) ?_
  show zG w f 3 6 ([some (pR 64 0), some (pI a1), some (pI a2)], [pI 1, pI ((jshr a1 a2) &&& 1)], M)
  refine zicmp_ne (tgt := 13) (pc := 6) hF (by decide +kernel) (fun b1 => ?_) (fun b1 => ?_)
  · replace h := zit b1 h
    refine zrun hF [(.iconst 1, 1, pI 1)] 9 _ (by decide +kernel) ?_
    show zG w f 3 10 ([some (pR 64 0), some (pI a1), some (pI a2)], [pI 1], M)
    refine zgoto (tgt := 14) (pc := 10) hF (by decide +kernel) ?_
    exact zretI (pc := 14) hF hR (by decide +kernel) (by decide +kernel) (Option.some.inj h) rfl
  · replace h := zif b1 h
    refine zrun hF [(.iconst 0, 1, pI 0)] 13 _ (by decide +kernel) ?_
    show zG w f 3 14 ([some (pR 64 0), some (pI a1), some (pI a2)], [pI 0], M)
    exact zretI (pc := 14) hF hR (by decide +kernel) (by decide +kernel) (Option.some.inj h) rfl

set_option maxHeartbeats 4000000 in
set_option maxRecDepth 100000 in
theorem m_X7_farOf_L24 {w : zWd} {f : zFr} {n : zMem} {x : Int32} {lc : Launch} {mr : zMem} (hl : f.2.1 = lc) (hF : zFOK w f 7 cX7_farOf 4 1) (hR : zFin w f (some .int) (zQI w x (n, mr))) : ∀ (y0 : Int32) (m : zMem), m = mr → s_X7_farOf_L24 y0 m = some x → zG w f 4 24 ([some (pR 64 0), none, none, none], [pI y0], (n, m)) := by
  intro y0 m hm h
  unfold s_X7_farOf_L24 at h
  refine zrun hF [(.istore_n 3, 1, pI 0), (.iload_n 3, 1, pI 0), (.aload_n 0, 1, pI 0), (.getfield 7, 3, pR 64 1), (.iload_n 3, 1, pI 0), (.isub, 1, pI 0)] 24 _ (by decide +kernel) ?_
  refine (And.intro rfl (And.intro rfl (And.intro rfl ?_)))
  show zG w f 4 32 ([some (pR 64 0), none, none, some (pI y0)], [pI ((m.1 64 0 1) - y0), pI y0], (n, m))
  refine zicmp_ge (tgt := 39) (pc := 32) hF (by decide +kernel) (fun b5 => ?_) (fun b5 => ?_)
  · replace h := zit b5 h
    refine zrun hF [(.aload_n 0, 1, pI 0), (.getfield 7, 3, pR 64 1), (.iload_n 3, 1, pI 0), (.isub, 1, pI 0)] 39 _ (by decide +kernel) ?_
    refine (And.intro rfl (And.intro rfl ?_))
    show zG w f 4 45 ([some (pR 64 0), none, none, some (pI y0)], [pI ((m.1 64 0 1) - y0)], (n, m))
    exact zretI (pc := 45) hF hR (by decide +kernel) rfl (Option.some.inj h) (congrArg (fun q => (n, q)) hm)
  · replace h := zif b5 h
    refine zrun hF [(.iload_n 3, 1, pI 0)] 35 _ (by decide +kernel) ?_
    show zG w f 4 36 ([some (pR 64 0), none, none, some (pI y0)], [pI y0], (n, m))
    refine zgoto (tgt := 45) (pc := 36) hF (by decide +kernel) ?_
    exact zretI (pc := 45) hF hR (by decide +kernel) rfl (Option.some.inj h) (congrArg (fun q => (n, q)) hm)

set_option maxHeartbeats 4000000 in
set_option maxRecDepth 100000 in
theorem m_X7_farOf {w : zWd} {lc : Launch} {n : zMem} {a1 : Int32} {a2 : Int32} {m : zMem} {x : Int32}  (h : s_X7_farOf a1 a2 m = some x) : zMet w lc 1 yX7_farOf cX7_farOf 4 (some .int) [pR 64 0, pI a1, pI a2] (n, m) (zQI w x (n, m)) := by
  refine zmet (o := 7) (by decide +kernel) rfl (Nat.le_of_ble_eq_true rfl) rfl (fun f hl hF hR => ?_)
  unfold s_X7_farOf at h
  show zG w f 4 0 ([some (pR 64 0), some (pI a1), some (pI a2), none], [], (n, m))
  obtain ⟨c1, h⟩ := zchk h
  obtain ⟨c2, h⟩ := zchk h
  refine zrun hF [(.aload_n 0, 1, pI 0), (.getfield 29, 3, pR 64 10), (.iload_n 1, 1, pI 0), (.iaload, 1, pI 0), (.aload_n 0, 1, pI 0), (.getfield 29, 3, pR 64 10), (.iload_n 2, 1, pI 0), (.iaload, 1, pI 0), (.isub, 1, pI 0), (.istore_n 3, 1, pI 0)] 0 _ (by decide +kernel) ?_
  refine (And.intro rfl (And.intro rfl (And.intro rfl (And.intro rfl (And.intro c1 (And.intro rfl (And.intro rfl (And.intro rfl (And.intro rfl (And.intro c2 (And.intro rfl ?_)))))))))))
  refine zlet_k (P := fun (v3 : Int32) => zG w f 4 14 ([some (pR 64 0), some (pI a1), some (pI a2), some (pI v3)], [], (n, m))) h (fun v3 h => ?_)
  refine zrun hF [(.iload_n 3, 1, pI 0)] 14 _ (by decide +kernel) ?_
  show zG w f 4 15 ([some (pR 64 0), some (pI a1), some (pI a2), some (pI v3)], [pI v3], (n, m))
  refine zif_ge (tgt := 23) (pc := 15) hF (by decide +kernel) (fun b4 => ?_) (fun b4 => ?_)
  · replace h := zit b4 h
    refine zrun hF [(.iload_n 3, 1, pI 0)] 23 _ (by decide +kernel) ?_
    show zG w f 4 24 ([some (pR 64 0), some (pI a1), some (pI a2), some (pI v3)], [pI v3], (n, m))
    refine zcut [true, false, false, false] ?_
    exact m_X7_farOf_L24 hl hF hR  _ _  rfl h
  · replace h := zif b4 h
    refine zrun hF [(.iload_n 3, 1, pI 0), (.ineg, 1, pI 0)] 18 _ (by decide +kernel) ?_
    show zG w f 4 20 ([some (pR 64 0), some (pI a1), some (pI a2), some (pI v3)], [pI (-v3)], (n, m))
    refine zgoto (tgt := 24) (pc := 20) hF (by decide +kernel) ?_
    refine zcut [true, false, false, false] ?_
    exact m_X7_farOf_L24 hl hF hR  _ _  rfl h

set_option maxHeartbeats 4000000 in
set_option maxRecDepth 100000 in
theorem m_X7_reaches_L32 {w : zWd} {f : zFr} {n : zMem} {x : Int32} {lc : Launch} {mr : zMem} (hl : f.2.1 = lc) (hF : zFOK w f 7 cX7_reaches 3 1) (hR : zFin w f (some .boolean) (zQI w x (n, mr))) : ∀ (m : zMem), m = mr → s_X7_reaches_L32 m = some x → zG w f 3 32 ([none, none, none], [], (n, m)) := by
  intro m hm h
  unfold s_X7_reaches_L32 at h
  refine zrun hF [(.iconst 1, 1, pI 1)] 32 _ (by decide +kernel) ?_
  show zG w f 3 33 ([none, none, none], [pI 1], (n, m))
  refine zgoto (tgt := 37) (pc := 33) hF (by decide +kernel) ?_
  exact zretI (pc := 37) hF hR (by decide +kernel) (by decide +kernel) (Option.some.inj h) (congrArg (fun q => (n, q)) hm)

set_option maxHeartbeats 4000000 in
set_option maxRecDepth 100000 in
theorem m_X7_reaches_L20 {w : zWd} {f : zFr} {n : zMem} {x : Int32} {lc : Launch} {mr : zMem} (hl : f.2.1 = lc) (hF : zFOK w f 7 cX7_reaches 3 1) (hR : zFin w f (some .boolean) (zQI w x (n, mr))) : ∀ (x1 : Int32) (x2 : Int32) (m : zMem), m = mr → s_X7_reaches_L20 x1 x2 m = some x → zG w f 3 20 ([some (pR 64 0), some (pI x1), some (pI x2)], [], (n, m)) := by
  intro x1 x2 m hm h
  unfold s_X7_reaches_L20 at h
  obtain ⟨c4, h⟩ := zchk h
  refine zrun hF [(.iload_n 2, 1, pI 0), (.aload_n 0, 1, pI 0), (.getfield 26, 3, pR 64 9), (.iload_n 1, 1, pI 0), (.iaload, 1, pI 0), (.iconst 1, 1, pI 1), (.iadd, 1, pI 0)] 20 _ (by decide +kernel) ?_
  refine (And.intro rfl (And.intro rfl (And.intro rfl (And.intro rfl (And.intro c4 ?_)))))
  show zG w f 3 29 ([some (pR 64 0), some (pI x1), some (pI x2)], [pI ((m.1 67 0 (ix x1)) + 1), pI x2], (n, m))
  refine zicmp_gt (tgt := 36) (pc := 29) hF (by decide +kernel) (fun b5 => ?_) (fun b5 => ?_)
  · replace h := zit b5 h
    refine zrun hF [(.iconst 0, 1, pI 0)] 36 _ (by decide +kernel) ?_
    show zG w f 3 37 ([some (pR 64 0), some (pI x1), some (pI x2)], [pI 0], (n, m))
    exact zretI (pc := 37) hF hR (by decide +kernel) (by decide +kernel) (Option.some.inj h) (congrArg (fun q => (n, q)) hm)
  · replace h := zif b5 h
    refine zcut [false, false, false] ?_
    exact m_X7_reaches_L32 hl hF hR  _  hm h

set_option maxHeartbeats 4000000 in
set_option maxRecDepth 100000 in
theorem m_X7_reaches {w : zWd} {lc : Launch} {n : zMem} {a1 : Int32} {a2 : Int32} {m : zMem} {x : Int32}  (h : s_X7_reaches a1 a2 m = some x) : zMet w lc 1 yX7_reaches cX7_reaches 3 (some .boolean) [pR 64 0, pI a1, pI a2] (n, m) (zQI w x (n, m)) := by
  refine zmet (o := 7) (by decide +kernel) rfl (Nat.le_of_ble_eq_true rfl) rfl (fun f hl hF hR => ?_)
  unfold s_X7_reaches at h
  show zG w f 3 0 ([some (pR 64 0), some (pI a1), some (pI a2)], [], (n, m))
  obtain ⟨c1, h⟩ := zchk h
  refine zrun hF [(.aload_n 0, 1, pI 0), (.getfield 23, 3, pR 64 8), (.iload_n 1, 1, pI 0), (.iaload, 1, pI 0), (.iconst 1, 1, pI 1)] 0 _ (by decide +kernel) ?_
  refine (And.intro rfl (And.intro rfl (And.intro rfl (And.intro rfl (And.intro c1 ?_)))))
  show zG w f 3 7 ([some (pR 64 0), some (pI a1), some (pI a2)], [pI 1, pI (m.1 66 0 (ix a1))], (n, m))
  refine zicmp_eq (tgt := 20) (pc := 7) hF (by decide +kernel) (fun b2 => ?_) (fun b2 => ?_)
  · replace h := zit b2 h
    exact m_X7_reaches_L20 hl hF hR  _ _ _  rfl h
  · replace h := zif b2 h
    refine zrun hF [(.aload_n 0, 1, pI 0), (.getfield 23, 3, pR 64 8), (.iload_n 1, 1, pI 0), (.iaload, 1, pI 0), (.iconst 3, 1, pI 3)] 10 _ (by decide +kernel) ?_
    refine (And.intro rfl (And.intro rfl (And.intro rfl (And.intro rfl (And.intro c1 ?_)))))
    show zG w f 3 17 ([some (pR 64 0), some (pI a1), some (pI a2)], [pI 3, pI (m.1 66 0 (ix a1))], (n, m))
    refine zicmp_ne (tgt := 32) (pc := 17) hF (by decide +kernel) (fun b3 => ?_) (fun b3 => ?_)
    · replace h := zit b3 h
      exact m_X7_reaches_L20 hl hF hR  _ _ _  rfl h
    · replace h := zif b3 h
      refine zcut [false, false, false] ?_
      exact m_X7_reaches_L32 hl hF hR  _  rfl h

