set_option maxHeartbeats 4000000 in
set_option maxRecDepth 100000 in
theorem m_X7_isAtOnce_L50 {w : zWd} {f : zFr} {n : zMem} {x : Int32} {m0 : zMem} {lc : Launch} (hl : f.2.1 = lc) (hF : zFOK w f 7 cX7_isAtOnce 4 4) (hR : zFin w f (some .boolean) (zQI w x (n, m0))) {k4 : Int32 → Int32 → Int32 → zMem → Option (Int32 × zMem)} (hk4 : ∀ (x1 : Int32) (x2 : Int32) (x3 : Int32) (m : zMem), k4 x1 x2 x3 m = some (x, m0) → zG w f 4 4 ([some (pR 64 0), some (pI x1), some (pI x2), some (pI x3)], [], (n, m))) : ∀ (x1 : Int32) (x2 : Int32) (x3 : Int32) (m : zMem), s_X7_isAtOnce_L50 k4 x1 x2 x3 m = some (x, m0) → zG w f 4 50 ([some (pR 64 0), some (pI x1), some (pI x2), some (pI x3)], [], (n, m)) := by
  intro x1 x2 x3 m h
  unfold s_X7_isAtOnce_L50 at h
  refine zrun hF [(.iinc 3 1, 3, pI 1)] 50 _ (by decide +kernel) ?_
  refine (And.intro rfl ?_)
  show zG w f 4 53 ([some (pR 64 0), some (pI x1), some (pI x2), some (pI (x3 + 1))], [], (n, m))
  refine zgoto (tgt := 4) (pc := 53) hF (by decide +kernel) ?_
  exact hk4 _ _ _ _  h

set_option maxHeartbeats 4000000 in
set_option maxRecDepth 100000 in
theorem m_X7_isAtOnce_L4 {w : zWd} {f : zFr} {n : zMem} {x : Int32} {m0 : zMem} {lc : Launch} (hl : f.2.1 = lc) (hF : zFOK w f 7 cX7_isAtOnce 4 4) (hR : zFin w f (some .boolean) (zQI w x (n, m0))) : ∀ (k : Nat) (x1 : Int32) (x2 : Int32) (x3 : Int32) (m : zMem), s_X7_isAtOnce_L4 k x1 x2 x3 m = some (x, m0) → zG w f 4 4 ([some (pR 64 0), some (pI x1), some (pI x2), some (pI x3)], [], (n, m)) := by
  intro k
  induction k with
  | zero => intro x1 x2 x3 m h; exact zno h
  | succ k ih =>
    intro x1 x2 x3 m h
    unfold s_X7_isAtOnce_L4 at h
    refine zrun hF [(.iload_n 3, 1, pI 0), (.aload_n 0, 1, pI 0), (.getfield 222, 3, pR 64 30)] 4 _ (by decide +kernel) ?_
    refine (And.intro rfl (And.intro rfl ?_))
    show zG w f 4 9 ([some (pR 64 0), some (pI x1), some (pI x2), some (pI x3)], [pI (m.1 64 0 30), pI x3], (n, m))
    refine zicmp_ge (tgt := 56) (pc := 9) hF (by decide +kernel) (fun b1 => ?_) (fun b1 => ?_)
    · replace h := zit b1 h
      refine zrun hF [(.iconst 1, 1, pI 1)] 56 _ (by decide +kernel) ?_
      show zG w f 4 57 ([some (pR 64 0), some (pI x1), some (pI x2), some (pI x3)], [pI 1], (n, m))
      exact zretI (pc := 57) hF hR (by decide +kernel) (by decide +kernel) (congrArg Prod.fst (Option.some.inj h)) (congrArg (fun (q : Int32 × zMem) => (n, q.2)) (Option.some.inj h))
    · replace h := zif b1 h
      refine zrun hF [(.aload_n 0, 1, pI 0), (.iload_n 1, 1, pI 0), (.iload_n 3, 1, pI 0)] 12 _ (by decide +kernel) ?_
      show zG w f 4 15 ([some (pR 64 0), some (pI x1), some (pI x2), some (pI x3)], [pI x3, pI x1, pR 64 0], (n, m))
      obtain ⟨r3, q2, h⟩ := zr_k h
      refine zcallVI (pc := 15) (As := [pI x1, pI x3]) (st := []) (c := 64) (j := 0) hF (m_X7_isIn  q2) w_X7_isIn k_7_130 (by decide +kernel) rfl rfl rfl rfl rfl rfl rfl ?_
      refine zif_ne (tgt := 24) (pc := 18) hF (by decide +kernel) (fun b4 => ?_) (fun b4 => ?_)
      · replace h := zit b4 h
        refine zgoto (tgt := 50) (pc := 21) hF (by decide +kernel) ?_
        exact m_X7_isAtOnce_L50 hl hF hR ih _ _ _ _  h
      · replace h := zif b4 h
        refine zrun hF [(.iload_n 2, 1, pI 0), (.iconst 5, 1, pI 5)] 24 _ (by decide +kernel) ?_
        show zG w f 4 26 ([some (pR 64 0), some (pI x1), some (pI x2), some (pI x3)], [pI 5, pI x2], (n, m))
        refine zicmp_eq (tgt := 38) (pc := 26) hF (by decide +kernel) (fun b5 => ?_) (fun b5 => ?_)
        · replace h := zit b5 h
          refine zrun hF [(.iconst 0, 1, pI 0)] 38 _ (by decide +kernel) ?_
          show zG w f 4 39 ([some (pR 64 0), some (pI x1), some (pI x2), some (pI x3)], [pI 0], (n, m))
          exact zretI (pc := 39) hF hR (by decide +kernel) (by decide +kernel) (congrArg Prod.fst (Option.some.inj h)) (congrArg (fun (q : Int32 × zMem) => (n, q.2)) (Option.some.inj h))
        · replace h := zif b5 h
          refine zrun hF [(.aload_n 0, 1, pI 0), (.iload_n 3, 1, pI 0), (.iload_n 2, 1, pI 0)] 29 _ (by decide +kernel) ?_
          show zG w f 4 32 ([some (pR 64 0), some (pI x1), some (pI x2), some (pI x3)], [pI x2, pI x3, pR 64 0], (n, m))
          obtain ⟨r7, q6, h⟩ := zr_k h
          refine zcallVI (pc := 32) (As := [pI x3, pI x2]) (st := []) (c := 64) (j := 0) hF (m_X7_fits  q6) w_X7_fits k_7_237 (by decide +kernel) rfl rfl rfl rfl rfl rfl rfl ?_
          refine zif_ne (tgt := 40) (pc := 35) hF (by decide +kernel) (fun b8 => ?_) (fun b8 => ?_)
          · replace h := zit b8 h
            refine zrun hF [(.iconst 0, 1, pI 0)] 38 _ (by decide +kernel) ?_
            show zG w f 4 39 ([some (pR 64 0), some (pI x1), some (pI x2), some (pI x3)], [pI 0], (n, m))
            exact zretI (pc := 39) hF hR (by decide +kernel) (by decide +kernel) (congrArg Prod.fst (Option.some.inj h)) (congrArg (fun (q : Int32 × zMem) => (n, q.2)) (Option.some.inj h))
          · replace h := zif b8 h
            obtain ⟨c9, h⟩ := zchk h
            refine zrun hF [(.aload_n 0, 1, pI 0), (.getfield 75, 3, pR 64 31), (.iload_n 2, 1, pI 0), (.iload_n 3, 1, pI 0), (.iastore, 1, pI 0)] 40 _ (by decide +kernel) ?_
            refine (And.intro rfl (And.intro rfl (And.intro rfl (And.intro rfl (And.intro c9 ?_)))))
            refine zlet_k (P := fun (m10 : zMem) => zG w f 4 47 ([some (pR 64 0), some (pI x1), some (pI x2), some (pI x3)], [], (n, m10))) h (fun m10 h => ?_)
            refine zrun hF [(.iinc 2 1, 3, pI 1)] 47 _ (by decide +kernel) ?_
            refine (And.intro rfl ?_)
            show zG w f 4 50 ([some (pR 64 0), some (pI x1), some (pI (x2 + 1)), some (pI x3)], [], (n, m10))
            exact m_X7_isAtOnce_L50 hl hF hR ih _ _ _ _  h

set_option maxHeartbeats 4000000 in
set_option maxRecDepth 100000 in
theorem m_X7_isAtOnce {w : zWd} {lc : Launch} {n : zMem} {a1 : Int32} {m : zMem} {x : Int32} {m0 : zMem}  (h : s_X7_isAtOnce a1 m = some (x, m0)) : zMet w lc 4 yX7_isAtOnce cX7_isAtOnce 4 (some .boolean) [pR 64 0, pI a1] (n, m) (zQI w x (n, m0)) := by
  refine zmet (o := 7) (by decide +kernel) rfl (Nat.le_of_ble_eq_true rfl) rfl (fun f hl hF hR => ?_)
  unfold s_X7_isAtOnce at h
  show zG w f 4 0 ([some (pR 64 0), some (pI a1), none, none], [], (n, m))
  refine zrun hF [(.iconst 0, 1, pI 0), (.istore_n 2, 1, pI 0), (.iconst 0, 1, pI 0), (.istore_n 3, 1, pI 0)] 0 _ (by decide +kernel) ?_
  refine (And.intro rfl (And.intro rfl ?_))
  show zG w f 4 4 ([some (pR 64 0), some (pI a1), some (pI 0), some (pI 0)], [], (n, m))
  exact m_X7_isAtOnce_L4 hl hF hR  zF _ _ _ _  h

set_option maxHeartbeats 4000000 in
set_option maxRecDepth 100000 in
theorem m_X7_fewest_L115 {w : zWd} {f : zFr} {n : zMem} {x : Int32} {m0 : zMem} {lc : Launch} (hl : f.2.1 = lc) (hF : zFOK w f 7 cX7_fewest 5 5) (hR : zFin w f (some .int) (zQI w x (n, m0))) {k27 : Int32 → Int32 → zMem → Option (Int32 × zMem)} (hk27 : ∀ (x1 : Int32) (x2 : Int32) (m : zMem), k27 x1 x2 m = some (x, m0) → zG w f 5 27 ([some (pR 64 0), some (pI x1), some (pI x2), none, none], [], (n, m))) {k50 : Int32 → Int32 → Int32 → Int32 → zMem → Option (Int32 × zMem)} (hk50 : ∀ (x1 : Int32) (x2 : Int32) (x3 : Int32) (x4 : Int32) (m : zMem), k50 x1 x2 x3 x4 m = some (x, m0) → zG w f 5 50 ([some (pR 64 0), some (pI x1), some (pI x2), some (pI x3), some (pI x4)], [], (n, m))) : ∀ (x1 : Int32) (x2 : Int32) (x3 : Int32) (x4 : Int32) (m : zMem), s_X7_fewest_L115 k27 k50 x1 x2 x3 x4 m = some (x, m0) → zG w f 5 115 ([some (pR 64 0), some (pI x1), some (pI x2), some (pI x3), some (pI x4)], [], (n, m)) := by
  intro x1 x2 x3 x4 m h
  unfold s_X7_fewest_L115 at h
  refine zrun hF [(.iload 4, 2, pI 0), (.iconst 1, 1, pI 1), (.isub, 1, pI 0), (.iload_n 2, 1, pI 0), (.iand, 1, pI 0), (.istore 4, 2, pI 0)] 115 _ (by decide +kernel) ?_
  refine (And.intro rfl ?_)
  refine zlet_k (P := fun (v23 : Int32) => zG w f 5 123 ([some (pR 64 0), some (pI x1), some (pI x2), some (pI x3), some (pI v23)], [], (n, m))) h (fun v23 h => ?_)
  refine zgoto (tgt := 50) (pc := 123) hF (by decide +kernel) ?_
  exact hk50 _ _ _ _ _  h

set_option maxHeartbeats 4000000 in
set_option maxRecDepth 100000 in
theorem m_X7_fewest_L50 {w : zWd} {f : zFr} {n : zMem} {x : Int32} {m0 : zMem} {lc : Launch} (hl : f.2.1 = lc) (hF : zFOK w f 7 cX7_fewest 5 5) (hR : zFin w f (some .int) (zQI w x (n, m0))) {k27 : Int32 → Int32 → zMem → Option (Int32 × zMem)} (hk27 : ∀ (x1 : Int32) (x2 : Int32) (m : zMem), k27 x1 x2 m = some (x, m0) → zG w f 5 27 ([some (pR 64 0), some (pI x1), some (pI x2), none, none], [], (n, m))) : ∀ (k : Nat) (x1 : Int32) (x2 : Int32) (x3 : Int32) (x4 : Int32) (m : zMem), s_X7_fewest_L50 k27 k x1 x2 x3 x4 m = some (x, m0) → zG w f 5 50 ([some (pR 64 0), some (pI x1), some (pI x2), some (pI x3), some (pI x4)], [], (n, m)) := by
  intro k
  induction k with
  | zero => intro x1 x2 x3 x4 m h; exact zno h
  | succ k ih =>
    intro x1 x2 x3 x4 m h
    unfold s_X7_fewest_L50 at h
    refine zrun hF [(.iload 4, 2, pI 0)] 50 _ (by decide +kernel) ?_
    show zG w f 5 52 ([some (pR 64 0), some (pI x1), some (pI x2), some (pI x3), some (pI x4)], [pI x4], (n, m))
    refine zif_le (tgt := 126) (pc := 52) hF (by decide +kernel) (fun b13 => ?_) (fun b13 => ?_)
    · replace h := zit b13 h
      refine zrun hF [(.iinc 2 1, 3, pI 1)] 126 _ (by decide +kernel) ?_
      refine (And.intro rfl ?_)
      show zG w f 5 129 ([some (pR 64 0), some (pI x1), some (pI (x2 + 1)), some (pI x3), some (pI x4)], [], (n, m))
      refine zgoto (tgt := 27) (pc := 129) hF (by decide +kernel) ?_
      refine zcut [true, true, true, false, false] ?_
      exact hk27 _ _ _  h
    · replace h := zif b13 h
      refine zrun hF [(.iload 4, 2, pI 0), (.iload_n 3, 1, pI 0), (.iand, 1, pI 0)] 55 _ (by decide +kernel) ?_
      show zG w f 5 59 ([some (pR 64 0), some (pI x1), some (pI x2), some (pI x3), some (pI x4)], [pI (x4 &&& x3)], (n, m))
      refine zif_eq (tgt := 115) (pc := 59) hF (by decide +kernel) (fun b14 => ?_) (fun b14 => ?_)
      · replace h := zit b14 h
        exact m_X7_fewest_L115 hl hF hR hk27 ih _ _ _ _ _  h
      · replace h := zif b14 h
        obtain ⟨c15, h⟩ := zchk h
        obtain ⟨c16, h⟩ := zchk h
        refine zrun hF [(.aload_n 0, 1, pI 0), (.getfield 84, 3, pR 64 36), (.iload_n 2, 1, pI 0), (.iload 4, 2, pI 0), (.iconst (-1), 1, pI (-1)), (.ixor, 1, pI 0), (.iand, 1, pI 0), (.iaload, 1, pI 0), (.iconst 1, 1, pI 1), (.iadd, 1, pI 0), (.aload_n 0, 1, pI 0), (.getfield 84, 3, pR 64 36), (.iload_n 2, 1, pI 0), (.iaload, 1, pI 0)] 62 _ (by decide +kernel) ?_
        refine (And.intro rfl (And.intro rfl (And.intro rfl (And.intro rfl (And.intro c15 (And.intro rfl (And.intro rfl (And.intro rfl (And.intro rfl (And.intro c16 ?_))))))))))
        show zG w f 5 81 ([some (pR 64 0), some (pI x1), some (pI x2), some (pI x3), some (pI x4)], [pI (m.1 86 0 (ix x2)), pI ((m.1 86 0 (ix (x2 &&& (x4 ^^^ (-1))))) + 1)], (n, m))
        refine zicmp_ge (tgt := 115) (pc := 81) hF (by decide +kernel) (fun b17 => ?_) (fun b17 => ?_)
        · replace h := zit b17 h
          exact m_X7_fewest_L115 hl hF hR hk27 ih _ _ _ _ _  h
        · replace h := zif b17 h
          refine zrun hF [(.aload_n 0, 1, pI 0), (.iload 4, 2, pI 0)] 84 _ (by decide +kernel) ?_
          show zG w f 5 87 ([some (pR 64 0), some (pI x1), some (pI x2), some (pI x3), some (pI x4)], [pI x4, pR 64 0], (n, m))
          obtain ⟨r19, m20, q18, h⟩ := zb_k h
          refine zcallVI (pc := 87) (As := [pI x4]) (st := []) (c := 64) (j := 0) hF (m_X7_isAtOnce  q18) w_X7_isAtOnce k_7_256 (by decide +kernel) rfl rfl rfl rfl rfl rfl rfl ?_
          refine zif_ne (tgt := 96) (pc := 90) hF (by decide +kernel) (fun b21 => ?_) (fun b21 => ?_)
          · replace h := zit b21 h
            refine zgoto (tgt := 115) (pc := 93) hF (by decide +kernel) ?_
            exact m_X7_fewest_L115 hl hF hR hk27 ih _ _ _ _ _  h
          · replace h := zif b21 h
            refine zrun hF [(.aload_n 0, 1, pI 0), (.getfield 84, 3, pR 64 36), (.iload_n 2, 1, pI 0), (.aload_n 0, 1, pI 0), (.getfield 84, 3, pR 64 36), (.iload_n 2, 1, pI 0), (.iload 4, 2, pI 0), (.iconst (-1), 1, pI (-1)), (.ixor, 1, pI 0), (.iand, 1, pI 0), (.iaload, 1, pI 0), (.iconst 1, 1, pI 1), (.iadd, 1, pI 0), (.iastore, 1, pI 0)] 96 _ (by decide +kernel) ?_
            refine (And.intro rfl (And.intro rfl (And.intro rfl (And.intro rfl (And.intro rfl (And.intro rfl (And.intro c15 (And.intro rfl (And.intro rfl (And.intro c16 ?_))))))))))
            refine zlet_k (P := fun (m22 : zMem) => zG w f 5 115 ([some (pR 64 0), some (pI x1), some (pI x2), some (pI x3), some (pI x4)], [], (n, m22))) h (fun m22 h => ?_)
            exact m_X7_fewest_L115 hl hF hR hk27 ih _ _ _ _ _  h

set_option maxHeartbeats 4000000 in
set_option maxRecDepth 100000 in
theorem m_X7_fewest_L27 {w : zWd} {f : zFr} {n : zMem} {x : Int32} {m0 : zMem} {lc : Launch} (hl : f.2.1 = lc) (hF : zFOK w f 7 cX7_fewest 5 5) (hR : zFin w f (some .int) (zQI w x (n, m0))) : ∀ (k : Nat) (x1 : Int32) (x2 : Int32) (m : zMem), s_X7_fewest_L27 k x1 x2 m = some (x, m0) → zG w f 5 27 ([some (pR 64 0), some (pI x1), some (pI x2), none, none], [], (n, m)) := by
  intro k
  induction k with
  | zero => intro x1 x2 m h; exact zno h
  | succ k ih =>
    intro x1 x2 m h
    unfold s_X7_fewest_L27 at h
    refine zrun hF [(.iload_n 2, 1, pI 0), (.iconst 1, 1, pI 1), (.iload_n 1, 1, pI 0), (.ishl, 1, pI 0)] 27 _ (by decide +kernel) ?_
    show zG w f 5 31 ([some (pR 64 0), some (pI x1), some (pI x2), none, none], [pI (jshl 1 x1), pI x2], (n, m))
    refine zicmp_ge (tgt := 132) (pc := 31) hF (by decide +kernel) (fun b9 => ?_) (fun b9 => ?_)
    · replace h := zit b9 h
      obtain ⟨c10, h⟩ := zchk h
      refine zrun hF [(.aload_n 0, 1, pI 0), (.getfield 84, 3, pR 64 36), (.iconst 1, 1, pI 1), (.iload_n 1, 1, pI 0), (.ishl, 1, pI 0), (.iconst 1, 1, pI 1), (.isub, 1, pI 0), (.iaload, 1, pI 0)] 132 _ (by decide +kernel) ?_
      refine (And.intro rfl (And.intro rfl (And.intro rfl (And.intro rfl (And.intro c10 ?_)))))
      show zG w f 5 142 ([some (pR 64 0), some (pI x1), some (pI x2), none, none], [pI (m.1 86 0 (ix ((jshl 1 x1) - 1)))], (n, m))
      exact zretI (pc := 142) hF hR (by decide +kernel) rfl (congrArg Prod.fst (Option.some.inj h)) (congrArg (fun (q : Int32 × zMem) => (n, q.2)) (Option.some.inj h))
    · replace h := zif b9 h
      obtain ⟨c11, h⟩ := zchk h
      refine zrun hF [(.aload_n 0, 1, pI 0), (.getfield 84, 3, pR 64 36), (.iload_n 2, 1, pI 0), (.bipush 11, 2, pI 11), (.iastore, 1, pI 0)] 34 _ (by decide +kernel) ?_
      refine (And.intro rfl (And.intro rfl (And.intro rfl (And.intro rfl (And.intro c11 ?_)))))
      refine zlet_k (P := fun (m12 : zMem) => zG w f 5 42 ([some (pR 64 0), some (pI x1), some (pI x2), none, none], [], (n, m12))) h (fun m12 h => ?_)
      refine zrun hF [(.iload_n 2, 1, pI 0), (.iload_n 2, 1, pI 0), (.ineg, 1, pI 0), (.iand, 1, pI 0), (.istore_n 3, 1, pI 0), (.iload_n 2, 1, pI 0), (.istore 4, 2, pI 0)] 42 _ (by decide +kernel) ?_
      refine (And.intro rfl (And.intro rfl ?_))
      show zG w f 5 50 ([some (pR 64 0), some (pI x1), some (pI x2), some (pI (x2 &&& (-x2))), some (pI x2)], [], (n, m12))
      exact m_X7_fewest_L50 hl hF hR ih zF _ _ _ _ _  h

set_option maxHeartbeats 4000000 in
set_option maxRecDepth 100000 in
theorem m_X7_fewest {w : zWd} {lc : Launch} {n : zMem}  {m : zMem} {x : Int32} {m0 : zMem}  (h : s_X7_fewest m = some (x, m0)) : zMet w lc 5 yX7_fewest cX7_fewest 5 (some .int) [pR 64 0] (n, m) (zQI w x (n, m0)) := by
  refine zmet (o := 7) (by decide +kernel) rfl (Nat.le_of_ble_eq_true rfl) rfl (fun f hl hF hR => ?_)
  unfold s_X7_fewest at h
  show zG w f 5 0 ([some (pR 64 0), none, none, none, none], [], (n, m))
  refine zrun hF [(.aload_n 0, 1, pI 0)] 0 _ (by decide +kernel) ?_
  show zG w f 5 1 ([some (pR 64 0), none, none, none, none], [pR 64 0], (n, m))
  obtain ⟨r2, m3, q1, h⟩ := zb_k h
  refine zcallVI (pc := 1) (As := []) (st := []) (c := 64) (j := 0) hF (m_X7_lists  q1) w_X7_lists k_7_225 (by decide +kernel) rfl rfl rfl rfl rfl rfl rfl ?_
  refine zrun hF [(.istore_n 1, 1, pI 0), (.iload_n 1, 1, pI 0), (.bipush 10, 2, pI 10)] 4 _ (by decide +kernel) ?_
  refine (And.intro rfl ?_)
  show zG w f 5 8 ([some (pR 64 0), some (pI r2), none, none, none], [pI 10, pI r2], (n, m3))
  refine zicmp_le (tgt := 18) (pc := 8) hF (by decide +kernel) (fun b4 => ?_) (fun b4 => ?_)
  · replace h := zit b4 h
    refine zrun hF [(.aload_n 0, 1, pI 0), (.getfield 84, 3, pR 64 36), (.iconst 0, 1, pI 0), (.iconst 0, 1, pI 0), (.iastore, 1, pI 0)] 18 _ (by decide +kernel) ?_
    refine (And.intro rfl (And.intro rfl (And.intro rfl (And.intro rfl (And.intro rfl ?_)))))
    refine zlet_k (P := fun (m5 : zMem) => zG w f 5 25 ([some (pR 64 0), some (pI r2), none, none, none], [], (n, m5))) h (fun m5 h => ?_)
    refine zrun hF [(.iconst 1, 1, pI 1), (.istore_n 2, 1, pI 0)] 25 _ (by decide +kernel) ?_
    refine (And.intro rfl ?_)
    show zG w f 5 27 ([some (pR 64 0), some (pI r2), some (pI 1), none, none], [], (n, m5))
    exact m_X7_fewest_L27 hl hF hR  zF _ _ _  h
  · replace h := zif b4 h
    refine zrun hF [(.aload_n 0, 1, pI 0), (.bipush (-7), 2, pI (-7))] 11 _ (by decide +kernel) ?_
    show zG w f 5 14 ([some (pR 64 0), some (pI r2), none, none, none], [pI (-7), pR 64 0], (n, m3))
    obtain ⟨r7, m8, q6, h⟩ := zb_k h
    refine zcallVI (pc := 14) (As := [pI (-7)]) (st := []) (c := 64) (j := 0) hF (m_X7_no  q6) w_X7_no k_7_100 (by decide +kernel) rfl rfl rfl rfl rfl rfl rfl ?_
    exact zretI (pc := 17) hF hR (by decide +kernel) rfl (congrArg Prod.fst (Option.some.inj h)) (congrArg (fun (q : Int32 × zMem) => (n, q.2)) (Option.some.inj h))

set_option maxHeartbeats 4000000 in
set_option maxRecDepth 100000 in
theorem m_X6_bound_L4 {w : zWd} {f : zFr} {n : zMem} {x : Int32} {lc : Launch} {mr : zMem} (hl : f.2.1 = lc) (hF : zFOK w f 6 cX6_bound 3 6) (hR : zFin w f (some .int) (zQI w x (mr, n))) : ∀ (k : Nat) (x1 : Int32) (x2 : Int32) (m : zMem), m = mr → s_X6_bound_L4 k x1 x2 m = some x → zG w f 3 4 ([some (pR 0 0), some (pI x1), some (pI x2)], [], (m, n)) := by
  intro k
  induction k with
  | zero => intro x1 x2 m hm h; exact zno h
  | succ k ih =>
    intro x1 x2 m hm h
    unfold s_X6_bound_L4 at h
    refine zrun hF [(.iload_n 2, 1, pI 0), (.aload_n 0, 1, pI 0), (.getfield 10, 3, pR 0 0), (.getfield 132, 3, pR 1 6)] 4 _ (by decide +kernel) ?_
    refine (And.intro rfl (And.intro rfl (And.intro rfl (And.intro rfl ?_))))
    show zG w f 3 12 ([some (pR 0 0), some (pI x1), some (pI x2)], [pI (m.1 1 0 6), pI x2], (m, n))
    refine zicmp_ge (tgt := 34) (pc := 12) hF (by decide +kernel) (fun b1 => ?_) (fun b1 => ?_)
    · replace h := zit b1 h
      refine zrun hF [(.iload_n 1, 1, pI 0)] 34 _ (by decide +kernel) ?_
      show zG w f 3 35 ([some (pR 0 0), some (pI x1), some (pI x2)], [pI x1], (m, n))
      exact zretI (pc := 35) hF hR (by decide +kernel) rfl (Option.some.inj h) (congrArg (fun q => (q, n)) hm)
    · replace h := zif b1 h
      refine zrun hF [(.iload_n 1, 1, pI 0), (.aload_n 0, 1, pI 0), (.getfield 10, 3, pR 0 0), (.iload_n 2, 1, pI 0)] 15 _ (by decide +kernel) ?_
      refine (And.intro rfl (And.intro rfl ?_))
      show zG w f 3 21 ([some (pR 0 0), some (pI x1), some (pI x2)], [pI x2, pR 1 0, pI x1], (m, n))
      obtain ⟨r3, q2, h⟩ := zr_k h
      refine zcallVI (pc := 21) (As := [pI x2]) (st := [pI x1]) (c := 1) (j := 0) hF (m_X5_wantsOf rfl q2) w_X5_wantsOf k_6_243 (by decide +kernel) rfl rfl rfl rfl rfl rfl rfl ?_
      refine zrun hF [(.invokestatic 246, 3, pR 200 0), (.istore_n 1, 1, pI 0), (.iinc 2 1, 3, pI 1)] 24 _ (by decide +kernel) ?_
      refine (And.intro rfl (And.intro rfl (And.intro rfl ?_)))
      show zG w f 3 31 ([some (pR 0 0), some (pI (jmax x1 r3)), some (pI (x2 + 1))], [], (m, n))
      refine zgoto (tgt := 4) (pc := 31) hF (by decide +kernel) ?_
      exact ih _ _ _  hm h

set_option maxHeartbeats 4000000 in
set_option maxRecDepth 100000 in
theorem m_X6_bound {w : zWd} {lc : Launch} {n : zMem}  {m : zMem} {x : Int32}  (h : s_X6_bound m = some x) : zMet w lc 6 yX6_bound cX6_bound 3 (some .int) [pR 0 0] (m, n) (zQI w x (m, n)) := by
  refine zmet (o := 6) (by decide +kernel) rfl (Nat.le_of_ble_eq_true rfl) rfl (fun f hl hF hR => ?_)
  unfold s_X6_bound at h
  show zG w f 3 0 ([some (pR 0 0), none, none], [], (m, n))
  refine zrun hF [(.iconst 0, 1, pI 0), (.istore_n 1, 1, pI 0), (.iconst 0, 1, pI 0), (.istore_n 2, 1, pI 0)] 0 _ (by decide +kernel) ?_
  refine (And.intro rfl (And.intro rfl ?_))
  show zG w f 3 4 ([some (pR 0 0), some (pI 0), some (pI 0)], [], (m, n))
  exact m_X6_bound_L4 hl hF hR  zF _ _ _  rfl h

set_option maxHeartbeats 4000000 in
set_option maxRecDepth 100000 in
theorem m_X7_bound_L38 {w : zWd} {f : zFr} {n : zMem} {x : Int32} {lc : Launch} {mr : zMem} (hl : f.2.1 = lc) (hF : zFOK w f 7 cX7_bound 3 5) (hR : zFin w f (some .int) (zQI w x (n, mr))) {k4 : Int32 → Int32 → zMem → Option Int32} (hk4 : ∀ (x1 : Int32) (x2 : Int32) (m : zMem), m = mr → k4 x1 x2 m = some x → zG w f 3 4 ([some (pR 64 0), some (pI x1), some (pI x2)], [], (n, m))) : ∀ (x2 : Int32) (y0 : Int32) (m : zMem), m = mr → s_X7_bound_L38 k4 x2 y0 m = some x → zG w f 3 38 ([some (pR 64 0), none, some (pI x2)], [pI y0], (n, m)) := by
  intro x2 y0 m hm h
  unfold s_X7_bound_L38 at h
  refine zrun hF [(.istore_n 1, 1, pI 0), (.iinc 2 1, 3, pI 1)] 38 _ (by decide +kernel) ?_
  refine (And.intro rfl (And.intro rfl ?_))
  show zG w f 3 42 ([some (pR 64 0), some (pI y0), some (pI (x2 + 1))], [], (n, m))
  refine zgoto (tgt := 4) (pc := 42) hF (by decide +kernel) ?_
  exact hk4 _ _ _  hm h

set_option maxHeartbeats 4000000 in
set_option maxRecDepth 100000 in
theorem m_X7_bound_L4 {w : zWd} {f : zFr} {n : zMem} {x : Int32} {lc : Launch} {mr : zMem} (hl : f.2.1 = lc) (hF : zFOK w f 7 cX7_bound 3 5) (hR : zFin w f (some .int) (zQI w x (n, mr))) : ∀ (k : Nat) (x1 : Int32) (x2 : Int32) (m : zMem), m = mr → s_X7_bound_L4 k x1 x2 m = some x → zG w f 3 4 ([some (pR 64 0), some (pI x1), some (pI x2)], [], (n, m)) := by
  intro k
  induction k with
  | zero => intro x1 x2 m hm h; exact zno h
  | succ k ih =>
    intro x1 x2 m hm h
    unfold s_X7_bound_L4 at h
    refine zrun hF [(.iload_n 2, 1, pI 0), (.aload_n 0, 1, pI 0), (.getfield 93, 3, pR 64 0)] 4 _ (by decide +kernel) ?_
    refine (And.intro rfl (And.intro rfl ?_))
    show zG w f 3 9 ([some (pR 64 0), some (pI x1), some (pI x2)], [pI (m.1 64 0 0), pI x2], (n, m))
    refine zicmp_ge (tgt := 45) (pc := 9) hF (by decide +kernel) (fun b1 => ?_) (fun b1 => ?_)
    · replace h := zit b1 h
      refine zrun hF [(.iload_n 1, 1, pI 0)] 45 _ (by decide +kernel) ?_
      show zG w f 3 46 ([some (pR 64 0), some (pI x1), some (pI x2)], [pI x1], (n, m))
      exact zretI (pc := 46) hF hR (by decide +kernel) rfl (Option.some.inj h) (congrArg (fun q => (n, q)) hm)
    · replace h := zif b1 h
      refine zrun hF [(.aload_n 0, 1, pI 0), (.aload_n 0, 1, pI 0), (.iload_n 2, 1, pI 0)] 12 _ (by decide +kernel) ?_
      show zG w f 3 15 ([some (pR 64 0), some (pI x1), some (pI x2)], [pI x2, pR 64 0, pR 64 0], (n, m))
      obtain ⟨r3, q2, h⟩ := zr_k h
      refine zcallVI (pc := 15) (As := [pI x2]) (st := [pR 64 0]) (c := 64) (j := 0) hF (m_X7_lacks  q2) w_X7_lacks k_7_111 (by decide +kernel) rfl rfl rfl rfl rfl rfl rfl ?_
      obtain ⟨r5, q4, h⟩ := zr_k h
      refine zcallVI (pc := 18) (As := [pI r3]) (st := []) (c := 64) (j := 0) hF (m_X7_count  q4) w_X7_count k_7_114 (by decide +kernel) rfl rfl rfl rfl rfl rfl rfl ?_
      refine zrun hF [(.iload_n 1, 1, pI 0)] 21 _ (by decide +kernel) ?_
      show zG w f 3 22 ([some (pR 64 0), some (pI x1), some (pI x2)], [pI x1, pI r5], (n, m))
      refine zicmp_le (tgt := 37) (pc := 22) hF (by decide +kernel) (fun b6 => ?_) (fun b6 => ?_)
      · replace h := zit b6 h
        refine zrun hF [(.iload_n 1, 1, pI 0)] 37 _ (by decide +kernel) ?_
        show zG w f 3 38 ([some (pR 64 0), some (pI x1), some (pI x2)], [pI x1], (n, m))
        refine zcut [true, false, true] ?_
        exact m_X7_bound_L38 hl hF hR ih _ _ _  hm h
      · replace h := zif b6 h
        refine zrun hF [(.aload_n 0, 1, pI 0), (.aload_n 0, 1, pI 0), (.iload_n 2, 1, pI 0)] 25 _ (by decide +kernel) ?_
        show zG w f 3 28 ([some (pR 64 0), some (pI x1), some (pI x2)], [pI x2, pR 64 0, pR 64 0], (n, m))
        obtain ⟨r8, q7, h⟩ := zr_k h
        refine zcallVI (pc := 28) (As := [pI x2]) (st := [pR 64 0]) (c := 64) (j := 0) hF (m_X7_lacks  q7) w_X7_lacks k_7_111 (by decide +kernel) rfl rfl rfl rfl rfl rfl rfl ?_
        obtain ⟨r10, q9, h⟩ := zr_k h
        refine zcallVI (pc := 31) (As := [pI r8]) (st := []) (c := 64) (j := 0) hF (m_X7_count  q9) w_X7_count k_7_114 (by decide +kernel) rfl rfl rfl rfl rfl rfl rfl ?_
        refine zgoto (tgt := 38) (pc := 34) hF (by decide +kernel) ?_
        refine zcut [true, false, true] ?_
        exact m_X7_bound_L38 hl hF hR ih _ _ _  hm h

set_option maxHeartbeats 4000000 in
set_option maxRecDepth 100000 in
theorem m_X7_bound {w : zWd} {lc : Launch} {n : zMem}  {m : zMem} {x : Int32}  (h : s_X7_bound m = some x) : zMet w lc 5 yX7_bound cX7_bound 3 (some .int) [pR 64 0] (n, m) (zQI w x (n, m)) := by
  refine zmet (o := 7) (by decide +kernel) rfl (Nat.le_of_ble_eq_true rfl) rfl (fun f hl hF hR => ?_)
  unfold s_X7_bound at h
  show zG w f 3 0 ([some (pR 64 0), none, none], [], (n, m))
  refine zrun hF [(.iconst 0, 1, pI 0), (.istore_n 1, 1, pI 0), (.iconst 0, 1, pI 0), (.istore_n 2, 1, pI 0)] 0 _ (by decide +kernel) ?_
  refine (And.intro rfl (And.intro rfl ?_))
  show zG w f 3 4 ([some (pR 64 0), some (pI 0), some (pI 0)], [], (n, m))
  exact m_X7_bound_L4 hl hF hR  zF _ _ _  rfl h

set_option maxHeartbeats 4000000 in
set_option maxRecDepth 100000 in
theorem m_X2_secondsAlone_L4 {w : zWd} {f : zFr} {n : zMem} {x : Int32} {lc : Launch} {mr : zMem} (hl : f.2.1 = lc) (hF : zFOK w f 2 cX2_secondsAlone 3 1) (hR : zFin w f (some .int) (zQI w x (mr, n))) : ∀ (k : Nat) (x1 : Int32) (x2 : Int32) (m : zMem), m = mr → s_X2_secondsAlone_L4 k x1 x2 m = some x → zG w f 3 4 ([some (pR 10 0), some (pI x1), some (pI x2)], [], (m, n)) := by
  intro k
  induction k with
  | zero => intro x1 x2 m hm h; exact zno h
  | succ k ih =>
    intro x1 x2 m hm h
    unfold s_X2_secondsAlone_L4 at h
    refine zrun hF [(.iload_n 2, 1, pI 0), (.aload_n 0, 1, pI 0), (.getfield 34, 3, pR 10 7)] 4 _ (by decide +kernel) ?_
    refine (And.intro rfl (And.intro rfl ?_))
    show zG w f 3 9 ([some (pR 10 0), some (pI x1), some (pI x2)], [pI (m.1 10 0 7), pI x2], (m, n))
    refine zicmp_ge (tgt := 27) (pc := 9) hF (by decide +kernel) (fun b1 => ?_) (fun b1 => ?_)
    · replace h := zit b1 h
      refine zrun hF [(.iload_n 1, 1, pI 0)] 27 _ (by decide +kernel) ?_
      show zG w f 3 28 ([some (pR 10 0), some (pI x1), some (pI x2)], [pI x1], (m, n))
      exact zretI (pc := 28) hF hR (by decide +kernel) rfl (Option.some.inj h) (congrArg (fun q => (q, n)) hm)
    · replace h := zif b1 h
      obtain ⟨c2, h⟩ := zchk h
      refine zrun hF [(.iload_n 1, 1, pI 0), (.aload_n 0, 1, pI 0), (.getfield 18, 3, pR 10 2), (.iload_n 2, 1, pI 0), (.iaload, 1, pI 0), (.iadd, 1, pI 0), (.istore_n 1, 1, pI 0)] 12 _ (by decide +kernel) ?_
      refine (And.intro rfl (And.intro rfl (And.intro rfl (And.intro rfl (And.intro c2 (And.intro rfl ?_))))))
      refine zlet_k (P := fun (v3 : Int32) => zG w f 3 21 ([some (pR 10 0), some (pI v3), some (pI x2)], [], (m, n))) h (fun v3 h => ?_)
      refine zrun hF [(.iinc 2 1, 3, pI 1)] 21 _ (by decide +kernel) ?_
      refine (And.intro rfl ?_)
      show zG w f 3 24 ([some (pR 10 0), some (pI v3), some (pI (x2 + 1))], [], (m, n))
      refine zgoto (tgt := 4) (pc := 24) hF (by decide +kernel) ?_
      exact ih _ _ _  hm h

set_option maxHeartbeats 4000000 in
set_option maxRecDepth 100000 in
theorem m_X2_secondsAlone {w : zWd} {lc : Launch} {n : zMem}  {m : zMem} {x : Int32}  (h : s_X2_secondsAlone m = some x) : zMet w lc 1 yX2_secondsAlone cX2_secondsAlone 3 (some .int) [pR 10 0] (m, n) (zQI w x (m, n)) := by
  refine zmet (o := 2) (by decide +kernel) rfl (Nat.le_of_ble_eq_true rfl) rfl (fun f hl hF hR => ?_)
  unfold s_X2_secondsAlone at h
  show zG w f 3 0 ([some (pR 10 0), none, none], [], (m, n))
  refine zrun hF [(.iconst 0, 1, pI 0), (.istore_n 1, 1, pI 0), (.iconst 0, 1, pI 0), (.istore_n 2, 1, pI 0)] 0 _ (by decide +kernel) ?_
  refine (And.intro rfl (And.intro rfl ?_))
  show zG w f 3 4 ([some (pR 10 0), some (pI 0), some (pI 0)], [], (m, n))
  exact m_X2_secondsAlone_L4 hl hF hR  zF _ _ _  rfl h

set_option maxHeartbeats 4000000 in
set_option maxRecDepth 100000 in
theorem m_X2_longest_L38 {w : zWd} {f : zFr} {n : zMem} {x : Int32} {lc : Launch} {mr : zMem} (hl : f.2.1 = lc) (hF : zFOK w f 2 cX2_longest 5 2) (hR : zFin w f (some .int) (zQI w x (mr, n))) {k5 : Int64 → Int32 → Int32 → zMem → Option Int32} (hk5 : ∀ (x1 : Int64) (x3 : Int32) (x4 : Int32) (m : zMem), m = mr → k5 x1 x3 x4 m = some x → zG w f 5 5 ([some (pR 10 0), some (pL x1), none, some (pI x3), some (pI x4)], [], (m, n))) : ∀ (x1 : Int64) (x4 : Int32) (y0 : Int32) (m : zMem), m = mr → s_X2_longest_L38 k5 x1 x4 y0 m = some x → zG w f 5 38 ([some (pR 10 0), some (pL x1), none, none, some (pI x4)], [pI y0], (m, n)) := by
  intro x1 x4 y0 m hm h
  unfold s_X2_longest_L38 at h
  refine zrun hF [(.istore_n 3, 1, pI 0), (.iinc 4 1, 3, pI 1)] 38 _ (by decide +kernel) ?_
  refine (And.intro rfl (And.intro rfl ?_))
  show zG w f 5 42 ([some (pR 10 0), some (pL x1), none, some (pI y0), some (pI (x4 + 1))], [], (m, n))
  refine zgoto (tgt := 5) (pc := 42) hF (by decide +kernel) ?_
  exact hk5 _ _ _ _  hm h

set_option maxHeartbeats 4000000 in
set_option maxRecDepth 100000 in
theorem m_X2_longest_L5 {w : zWd} {f : zFr} {n : zMem} {x : Int32} {lc : Launch} {mr : zMem} (hl : f.2.1 = lc) (hF : zFOK w f 2 cX2_longest 5 2) (hR : zFin w f (some .int) (zQI w x (mr, n))) : ∀ (k : Nat) (x1 : Int64) (x3 : Int32) (x4 : Int32) (m : zMem), m = mr → s_X2_longest_L5 k x1 x3 x4 m = some x → zG w f 5 5 ([some (pR 10 0), some (pL x1), none, some (pI x3), some (pI x4)], [], (m, n)) := by
  intro k
  induction k with
  | zero => intro x1 x3 x4 m hm h; exact zno h
  | succ k ih =>
    intro x1 x3 x4 m hm h
    unfold s_X2_longest_L5 at h
    refine zrun hF [(.iload 4, 2, pI 0), (.aload_n 0, 1, pI 0), (.getfield 34, 3, pR 10 7)] 5 _ (by decide +kernel) ?_
    refine (And.intro rfl (And.intro rfl ?_))
    show zG w f 5 11 ([some (pR 10 0), some (pL x1), none, some (pI x3), some (pI x4)], [pI (m.1 10 0 7), pI x4], (m, n))
    refine zicmp_ge (tgt := 45) (pc := 11) hF (by decide +kernel) (fun b1 => ?_) (fun b1 => ?_)
    · replace h := zit b1 h
      refine zrun hF [(.iload_n 3, 1, pI 0)] 45 _ (by decide +kernel) ?_
      show zG w f 5 46 ([some (pR 10 0), some (pL x1), none, some (pI x3), some (pI x4)], [pI x3], (m, n))
      exact zretI (pc := 46) hF hR (by decide +kernel) rfl (Option.some.inj h) (congrArg (fun q => (q, n)) hm)
    · replace h := zif b1 h
      refine zrun hF [(.lload_n 1, 1, pI 0), (.iload 4, 2, pI 0)] 14 _ (by decide +kernel) ?_
      show zG w f 5 17 ([some (pR 10 0), some (pL x1), none, some (pI x3), some (pI x4)], [pI x4, pL x1], (m, n))
      obtain ⟨r3, q2, h⟩ := zr_k h
      refine zcallSI (pc := 17) (As := [pL x1, pI x4]) (st := []) hF (m_X2_isIn  q2) w_X2_isIn k_2_78 (by decide +kernel) rfl rfl rfl rfl ?_
      refine zif_eq (tgt := 37) (pc := 20) hF (by decide +kernel) (fun b4 => ?_) (fun b4 => ?_)
      · replace h := zit b4 h
        refine zrun hF [(.iload_n 3, 1, pI 0)] 37 _ (by decide +kernel) ?_
        show zG w f 5 38 ([some (pR 10 0), some (pL x1), none, some (pI x3), some (pI x4)], [pI x3], (m, n))
        refine zcut [true, true, true, false, true] ?_
        exact m_X2_longest_L38 hl hF hR ih _ _ _ _  hm h
      · replace h := zif b4 h
        obtain ⟨c5, h⟩ := zchk h
        refine zrun hF [(.iload_n 3, 1, pI 0), (.aload_n 0, 1, pI 0), (.getfield 18, 3, pR 10 2), (.iload 4, 2, pI 0), (.iaload, 1, pI 0), (.invokestatic 115, 3, pR 200 0)] 23 _ (by decide +kernel) ?_
        refine (And.intro rfl (And.intro rfl (And.intro rfl (And.intro rfl (And.intro c5 (And.intro rfl ?_))))))
        show zG w f 5 34 ([some (pR 10 0), some (pL x1), none, some (pI x3), some (pI x4)], [pI (jmax x3 (m.1 13 0 (ix x4)))], (m, n))
        refine zgoto (tgt := 38) (pc := 34) hF (by decide +kernel) ?_
        refine zcut [true, true, true, false, true] ?_
        exact m_X2_longest_L38 hl hF hR ih _ _ _ _  hm h

set_option maxHeartbeats 4000000 in
set_option maxRecDepth 100000 in
theorem m_X2_longest {w : zWd} {lc : Launch} {n : zMem} {a1 : Int64} {m : zMem} {x : Int32}  (h : s_X2_longest a1 m = some x) : zMet w lc 2 yX2_longest cX2_longest 5 (some .int) [pR 10 0, pL a1] (m, n) (zQI w x (m, n)) := by
  refine zmet (o := 2) (by decide +kernel) rfl (Nat.le_of_ble_eq_true rfl) rfl (fun f hl hF hR => ?_)
  unfold s_X2_longest at h
  show zG w f 5 0 ([some (pR 10 0), some (pL a1), none, none, none], [], (m, n))
  refine zrun hF [(.iconst 0, 1, pI 0), (.istore_n 3, 1, pI 0), (.iconst 0, 1, pI 0), (.istore 4, 2, pI 0)] 0 _ (by decide +kernel) ?_
  refine (And.intro rfl (And.intro rfl ?_))
  show zG w f 5 5 ([some (pR 10 0), some (pL a1), none, some (pI 0), some (pI 0)], [], (m, n))
  exact m_X2_longest_L5 hl hF hR  zF _ _ _ _  rfl h

set_option maxHeartbeats 4000000 in
set_option maxRecDepth 100000 in
theorem m_X2_secondsInRounds_L11 {w : zWd} {f : zFr} {n : zMem} {x : Int32} {m0 : zMem} {lc : Launch} (hl : f.2.1 = lc) (hF : zFOK w f 2 cX2_secondsInRounds 4 26) (hR : zFin w f (some .int) (zQI w x (m0, n))) : ∀ (k : Nat) (x1 : Int32) (x2 : Int32) (x3 : Int32) (m : zMem), s_X2_secondsInRounds_L11 k x1 x2 x3 m = some (x, m0) → zG w f 4 11 ([some (pR 10 0), some (pI x1), some (pI x2), some (pI x3)], [], (m, n)) := by
  intro k
  induction k with
  | zero => intro x1 x2 x3 m h; exact zno h
  | succ k ih =>
    intro x1 x2 x3 m h
    unfold s_X2_secondsInRounds_L11 at h
    refine zrun hF [(.iload_n 3, 1, pI 0), (.iload_n 1, 1, pI 0)] 11 _ (by decide +kernel) ?_
    show zG w f 4 13 ([some (pR 10 0), some (pI x1), some (pI x2), some (pI x3)], [pI x1, pI x3], (m, n))
    refine zicmp_ge (tgt := 35) (pc := 13) hF (by decide +kernel) (fun b4 => ?_) (fun b4 => ?_)
    · replace h := zit b4 h
      refine zrun hF [(.iload_n 2, 1, pI 0)] 35 _ (by decide +kernel) ?_
      show zG w f 4 36 ([some (pR 10 0), some (pI x1), some (pI x2), some (pI x3)], [pI x2], (m, n))
      exact zretI (pc := 36) hF hR (by decide +kernel) rfl (congrArg Prod.fst (Option.some.inj h)) (congrArg (fun (q : Int32 × zMem) => (q.2, n)) (Option.some.inj h))
    · replace h := zif b4 h
      obtain ⟨c5, h⟩ := zchk h
      refine zrun hF [(.iload_n 2, 1, pI 0), (.aload_n 0, 1, pI 0), (.aload_n 0, 1, pI 0), (.getfield 28, 3, pR 10 5), (.iload_n 3, 1, pI 0), (.laload, 1, pI 0)] 16 _ (by decide +kernel) ?_
      refine (And.intro rfl (And.intro rfl (And.intro rfl (And.intro rfl (And.intro c5 ?_)))))
      show zG w f 4 24 ([some (pR 10 0), some (pI x1), some (pI x2), some (pI x3)], [pL (m.2 16 0 (ix x3)), pR 10 0, pI x2], (m, n))
      obtain ⟨r7, q6, h⟩ := zr_k h
      refine zcallVI (pc := 24) (As := [pL (m.2 16 0 (ix x3))]) (st := [pI x2]) (c := 10) (j := 0) hF (m_X2_longest  q6) w_X2_longest k_2_123 (by decide +kernel) rfl rfl rfl rfl rfl rfl rfl ?_
      refine zrun hF [(.iadd, 1, pI 0), (.istore_n 2, 1, pI 0), (.iinc 3 1, 3, pI 1)] 27 _ (by decide +kernel) ?_
      refine (And.intro rfl (And.intro rfl ?_))
      show zG w f 4 32 ([some (pR 10 0), some (pI x1), some (pI (x2 + r7)), some (pI (x3 + 1))], [], (m, n))
      refine zgoto (tgt := 11) (pc := 32) hF (by decide +kernel) ?_
      exact ih _ _ _ _  h

set_option maxHeartbeats 4000000 in
set_option maxRecDepth 100000 in
theorem m_X2_secondsInRounds {w : zWd} {lc : Launch} {n : zMem}  {m : zMem} {x : Int32} {m0 : zMem}  (h : s_X2_secondsInRounds m = some (x, m0)) : zMet w lc 26 yX2_secondsInRounds cX2_secondsInRounds 4 (some .int) [pR 10 0] (m, n) (zQI w x (m0, n)) := by
  refine zmet (o := 2) (by decide +kernel) rfl (Nat.le_of_ble_eq_true rfl) rfl (fun f hl hF hR => ?_)
  unfold s_X2_secondsInRounds at h
  show zG w f 4 0 ([some (pR 10 0), none, none, none], [], (m, n))
  refine zrun hF [(.aload_n 0, 1, pI 0), (.bipush 45, 2, pI 45)] 0 _ (by decide +kernel) ?_
  show zG w f 4 3 ([some (pR 10 0), none, none, none], [pI 45, pR 10 0], (m, n))
  obtain ⟨r2, m3, q1, h⟩ := zb_k h
  refine zcallVI (pc := 3) (As := [pI 45]) (st := []) (c := 10) (j := 0) hF (m_X2_makeRounds  q1) w_X2_makeRounds k_2_120 (by decide +kernel) rfl rfl rfl rfl rfl rfl rfl ?_
  refine zrun hF [(.istore_n 1, 1, pI 0), (.iconst 0, 1, pI 0), (.istore_n 2, 1, pI 0), (.iconst 0, 1, pI 0), (.istore_n 3, 1, pI 0)] 6 _ (by decide +kernel) ?_
  refine (And.intro rfl (And.intro rfl (And.intro rfl ?_)))
  show zG w f 4 11 ([some (pR 10 0), some (pI r2), some (pI 0), some (pI 0)], [], (m3, n))
  exact m_X2_secondsInRounds_L11 hl hF hR  zF _ _ _ _  h

set_option maxHeartbeats 4000000 in
set_option maxRecDepth 100000 in
theorem m_X6_lasts_L16 {w : zWd} {f : zFr} {n : zMem} {x : Int32} {m0 : zMem} {lc : Launch} (hl : f.2.1 = lc) (hF : zFOK w f 6 cX6_lasts 2 27) (hR : zFin w f (some .int) (zQI w x (m0, n))) : ∀ (x1 : Int32) (m : zMem), s_X6_lasts_L16 x1 m = some (x, m0) → zG w f 2 16 ([some (pR 0 0), some (pI x1)], [], (m, n)) := by
  intro x1 m h
  unfold s_X6_lasts_L16 at h
  refine zrun hF [(.aload_n 0, 1, pI 0), (.getfield 35, 3, pR 0 5), (.aload_n 0, 1, pI 0), (.getfield 10, 3, pR 0 0)] 16 _ (by decide +kernel) ?_
  refine (And.intro rfl (And.intro rfl (And.intro rfl (And.intro rfl ?_))))
  show zG w f 2 24 ([some (pR 0 0), some (pI x1)], [pR 1 0, pR 10 0], (m, n))
  obtain ⟨m8, q6, h⟩ := zr_k h
  refine zcallVV (pc := 24) (As := [pR 1 0]) (st := []) (c := 10) (j := 0) hF (m_X2_draw rfl q6) w_X2_draw k_6_211 (by decide +kernel) rfl rfl rfl rfl rfl rfl rfl ?_
  refine zrun hF [(.iload_n 1, 1, pI 0)] 27 _ (by decide +kernel) ?_
  show zG w f 2 28 ([some (pR 0 0), some (pI x1)], [pI x1], (m8, n))
  refine zif_ne (tgt := 41) (pc := 28) hF (by decide +kernel) (fun b9 => ?_) (fun b9 => ?_)
  · replace h := zit b9 h
    refine zrun hF [(.aload_n 0, 1, pI 0), (.getfield 35, 3, pR 0 5)] 31 _ (by decide +kernel) ?_
    refine (And.intro rfl (And.intro rfl ?_))
    show zG w f 2 35 ([some (pR 0 0), some (pI x1)], [pR 10 0], (m8, n))
    obtain ⟨r11, m12, q10, h⟩ := zb_k h
    refine zcallVI (pc := 35) (As := []) (st := []) (c := 10) (j := 0) hF (m_X2_secondsInRounds  q10) w_X2_secondsInRounds k_6_251 (by decide +kernel) rfl rfl rfl rfl rfl rfl rfl ?_
    refine zgoto (tgt := 48) (pc := 38) hF (by decide +kernel) ?_
    exact zretI (pc := 48) hF hR (by decide +kernel) rfl (congrArg Prod.fst (Option.some.inj h)) (congrArg (fun (q : Int32 × zMem) => (q.2, n)) (Option.some.inj h))
  · replace h := zif b9 h
    refine zrun hF [(.aload_n 0, 1, pI 0), (.getfield 35, 3, pR 0 5)] 41 _ (by decide +kernel) ?_
    refine (And.intro rfl (And.intro rfl ?_))
    show zG w f 2 45 ([some (pR 0 0), some (pI x1)], [pR 10 0], (m8, n))
    obtain ⟨r14, q13, h⟩ := zr_k h
    refine zcallVI (pc := 45) (As := []) (st := []) (c := 10) (j := 0) hF (m_X2_secondsAlone  q13) w_X2_secondsAlone k_6_254 (by decide +kernel) rfl rfl rfl rfl rfl rfl rfl ?_
    exact zretI (pc := 48) hF hR (by decide +kernel) rfl (congrArg Prod.fst (Option.some.inj h)) (congrArg (fun (q : Int32 × zMem) => (q.2, n)) (Option.some.inj h))

set_option maxHeartbeats 4000000 in
set_option maxRecDepth 100000 in
theorem m_X6_lasts {w : zWd} {lc : Launch} {n : zMem} {a1 : Int32} {m : zMem} {x : Int32} {m0 : zMem}  (h : s_X6_lasts a1 m = some (x, m0)) : zMet w lc 27 yX6_lasts cX6_lasts 2 (some .int) [pR 0 0, pI a1] (m, n) (zQI w x (m0, n)) := by
  refine zmet (o := 6) (by decide +kernel) rfl (Nat.le_of_ble_eq_true rfl) rfl (fun f hl hF hR => ?_)
  unfold s_X6_lasts at h
  show zG w f 2 0 ([some (pR 0 0), some (pI a1)], [], (m, n))
  refine zrun hF [(.iload_n 1, 1, pI 0)] 0 _ (by decide +kernel) ?_
  show zG w f 2 1 ([some (pR 0 0), some (pI a1)], [pI a1], (m, n))
  refine zif_eq (tgt := 16) (pc := 1) hF (by decide +kernel) (fun b1 => ?_) (fun b1 => ?_)
  · replace h := zit b1 h
    exact m_X6_lasts_L16 hl hF hR  _ _  h
  · replace h := zif b1 h
    refine zrun hF [(.iload_n 1, 1, pI 0), (.iconst 1, 1, pI 1)] 4 _ (by decide +kernel) ?_
    show zG w f 2 6 ([some (pR 0 0), some (pI a1)], [pI 1, pI a1], (m, n))
    refine zicmp_eq (tgt := 16) (pc := 6) hF (by decide +kernel) (fun b2 => ?_) (fun b2 => ?_)
    · replace h := zit b2 h
      exact m_X6_lasts_L16 hl hF hR  _ _  h
    · replace h := zif b2 h
      refine zrun hF [(.aload_n 0, 1, pI 0), (.bipush (-5), 2, pI (-5))] 9 _ (by decide +kernel) ?_
      show zG w f 2 12 ([some (pR 0 0), some (pI a1)], [pI (-5), pR 0 0], (m, n))
      obtain ⟨r4, m5, q3, h⟩ := zb_k h
      refine zcallVI (pc := 12) (As := [pI (-5)]) (st := []) (c := 0) (j := 0) hF (m_X6_refuse  q3) w_X6_refuse k_6_73 (by decide +kernel) rfl rfl rfl rfl rfl rfl rfl ?_
      exact zretI (pc := 15) hF hR (by decide +kernel) rfl (congrArg Prod.fst (Option.some.inj h)) (congrArg (fun (q : Int32 × zMem) => (q.2, n)) (Option.some.inj h))

