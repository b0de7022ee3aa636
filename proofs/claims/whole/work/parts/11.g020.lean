set_option maxHeartbeats 4000000 in
set_option maxRecDepth 100000 in
theorem m_X7_changes {w : zWd} {lc : Launch} {n : zMem} {a1 : Int32} {a2 : Int32} {m : zMem} {m0 : zMem}  (h : s_X7_changes a1 a2 m = some m0) : zMet w lc 1 yX7_changes cX7_changes 4 none [pR 64 0, pI a1, pI a2] (n, m) (zQV w (n, m0)) := by
  refine zmet (o := 7) (by decide +kernel) rfl (Nat.le_of_ble_eq_true rfl) rfl (fun f hl hF hR => ?_)
  unfold s_X7_changes at h
  show zG w f 4 0 ([some (pR 64 0), some (pI a1), some (pI a2), none], [], (n, m))
  obtain ⟨c1, h⟩ := zchk h
  refine zrun hF [(.aload_n 0, 1, pI 0), (.getfield 29, 3, pR 64 10), (.iload_n 1, 1, pI 0), (.iaload, 1, pI 0), (.istore_n 3, 1, pI 0)] 0 _ (by decide +kernel) ?_
  refine (And.intro rfl (And.intro rfl (And.intro rfl (And.intro rfl (And.intro c1 (And.intro rfl ?_))))))
  refine zlet_k (P := fun (v2 : Int32) => zG w f 4 7 ([some (pR 64 0), some (pI a1), some (pI a2), some (pI v2)], [], (n, m))) h (fun v2 h => ?_)
  obtain ⟨c3, h⟩ := zchk h
  refine zrun hF [(.aload_n 0, 1, pI 0), (.getfield 29, 3, pR 64 10), (.iload_n 1, 1, pI 0), (.aload_n 0, 1, pI 0), (.getfield 29, 3, pR 64 10), (.iload_n 2, 1, pI 0), (.iaload, 1, pI 0), (.iastore, 1, pI 0)] 7 _ (by decide +kernel) ?_
  refine (And.intro rfl (And.intro rfl (And.intro rfl (And.intro rfl (And.intro rfl (And.intro rfl (And.intro c3 (And.intro rfl (And.intro rfl (And.intro c1 ?_))))))))))
  refine zlet_k (P := fun (m4 : zMem) => zG w f 4 19 ([some (pR 64 0), some (pI a1), some (pI a2), some (pI v2)], [], (n, m4))) h (fun m4 h => ?_)
  refine zrun hF [(.aload_n 0, 1, pI 0), (.getfield 29, 3, pR 64 10), (.iload_n 2, 1, pI 0), (.iload_n 3, 1, pI 0), (.iastore, 1, pI 0)] 19 _ (by decide +kernel) ?_
  refine (And.intro rfl (And.intro rfl (And.intro rfl (And.intro rfl (And.intro c3 ?_)))))
  refine zlet_k (P := fun (m5 : zMem) => zG w f 4 26 ([some (pR 64 0), some (pI a1), some (pI a2), some (pI v2)], [], (n, m5))) h (fun m5 h => ?_)
  exact zretV (pc := 26) hF hR (by decide +kernel) (congrArg (fun q => (n, q)) (Option.some.inj h))

set_option maxHeartbeats 4000000 in
set_option maxRecDepth 100000 in
theorem m_X7_bestChange_L71 {w : zWd} {f : zFr} {n : zMem} {x : Int32} {m0 : zMem} {lc : Launch} (hl : f.2.1 = lc) (hF : zFOK w f 7 cX7_bestChange 6 26) (hR : zFin w f (some .int) (zQI w x (n, m0))) {k9 : Int32 → Int32 → Int32 → zMem → Option (Int32 × zMem)} (hk9 : ∀ (x1 : Int32) (x2 : Int32) (x3 : Int32) (m : zMem), k9 x1 x2 x3 m = some (x, m0) → zG w f 6 9 ([some (pR 64 0), some (pI x1), some (pI x2), some (pI x3), none, none], [], (n, m))) {k22 : Int32 → Int32 → Int32 → Int32 → zMem → Option (Int32 × zMem)} (hk22 : ∀ (x1 : Int32) (x2 : Int32) (x3 : Int32) (x4 : Int32) (m : zMem), k22 x1 x2 x3 x4 m = some (x, m0) → zG w f 6 22 ([some (pR 64 0), some (pI x1), some (pI x2), some (pI x3), some (pI x4), none], [], (n, m))) : ∀ (x1 : Int32) (x2 : Int32) (x3 : Int32) (x4 : Int32) (m : zMem), s_X7_bestChange_L71 k9 k22 x1 x2 x3 x4 m = some (x, m0) → zG w f 6 71 ([some (pR 64 0), some (pI x1), some (pI x2), some (pI x3), some (pI x4), none], [], (n, m)) := by
  intro x1 x2 x3 x4 m h
  unfold s_X7_bestChange_L71 at h
  refine zrun hF [(.iinc 4 1, 3, pI 1)] 71 _ (by decide +kernel) ?_
  refine (And.intro rfl ?_)
  show zG w f 6 74 ([some (pR 64 0), some (pI x1), some (pI x2), some (pI x3), some (pI (x4 + 1)), none], [], (n, m))
  refine zgoto (tgt := 22) (pc := 74) hF (by decide +kernel) ?_
  exact hk22 _ _ _ _ _  h

set_option maxHeartbeats 4000000 in
set_option maxRecDepth 100000 in
theorem m_X7_bestChange_L22 {w : zWd} {f : zFr} {n : zMem} {x : Int32} {m0 : zMem} {lc : Launch} (hl : f.2.1 = lc) (hF : zFOK w f 7 cX7_bestChange 6 26) (hR : zFin w f (some .int) (zQI w x (n, m0))) {k9 : Int32 → Int32 → Int32 → zMem → Option (Int32 × zMem)} (hk9 : ∀ (x1 : Int32) (x2 : Int32) (x3 : Int32) (m : zMem), k9 x1 x2 x3 m = some (x, m0) → zG w f 6 9 ([some (pR 64 0), some (pI x1), some (pI x2), some (pI x3), none, none], [], (n, m))) : ∀ (k : Nat) (x1 : Int32) (x2 : Int32) (x3 : Int32) (x4 : Int32) (m : zMem), s_X7_bestChange_L22 k9 k x1 x2 x3 x4 m = some (x, m0) → zG w f 6 22 ([some (pR 64 0), some (pI x1), some (pI x2), some (pI x3), some (pI x4), none], [], (n, m)) := by
  intro k
  induction k with
  | zero => intro x1 x2 x3 x4 m h; exact zno h
  | succ k ih =>
    intro x1 x2 x3 x4 m h
    unfold s_X7_bestChange_L22 at h
    refine zrun hF [(.iload 4, 2, pI 0), (.aload_n 0, 1, pI 0), (.getfield 93, 3, pR 64 0)] 22 _ (by decide +kernel) ?_
    refine (And.intro rfl (And.intro rfl ?_))
    show zG w f 6 28 ([some (pR 64 0), some (pI x1), some (pI x2), some (pI x3), some (pI x4), none], [pI (m.1 64 0 0), pI x4], (n, m))
    refine zicmp_ge (tgt := 77) (pc := 28) hF (by decide +kernel) (fun b5 => ?_) (fun b5 => ?_)
    · replace h := zit b5 h
      refine zrun hF [(.iinc 3 1, 3, pI 1)] 77 _ (by decide +kernel) ?_
      refine (And.intro rfl ?_)
      show zG w f 6 80 ([some (pR 64 0), some (pI x1), some (pI x2), some (pI (x3 + 1)), some (pI x4), none], [], (n, m))
      refine zgoto (tgt := 9) (pc := 80) hF (by decide +kernel) ?_
      refine zcut [true, true, true, true, false, true] ?_
      exact hk9 _ _ _ _  h
    · replace h := zif b5 h
      refine zrun hF [(.aload_n 0, 1, pI 0), (.iload_n 3, 1, pI 0), (.iload 4, 2, pI 0)] 31 _ (by decide +kernel) ?_
      show zG w f 6 35 ([some (pR 64 0), some (pI x1), some (pI x2), some (pI x3), some (pI x4), none], [pI x4, pI x3, pR 64 0], (n, m))
      obtain ⟨m8, q6, h⟩ := zr_k h
      refine zcallVV (pc := 35) (As := [pI x3, pI x4]) (st := []) (c := 64) (j := 0) hF (m_X7_changes  q6) w_X7_changes k_7_259 (by decide +kernel) rfl rfl rfl rfl rfl rfl rfl ?_
      refine zrun hF [(.aload_n 0, 1, pI 0)] 38 _ (by decide +kernel) ?_
      show zG w f 6 39 ([some (pR 64 0), some (pI x1), some (pI x2), some (pI x3), some (pI x4), none], [pR 64 0], (n, m8))
      obtain ⟨r10, m11, q9, h⟩ := zb_k h
      refine zcallVI (pc := 39) (As := []) (st := []) (c := 64) (j := 0) hF (m_X7_mostOf  q9) w_X7_mostOf k_7_244 (by decide +kernel) rfl rfl rfl rfl rfl rfl rfl ?_
      refine zrun hF [(.istore 5, 2, pI 0), (.aload_n 0, 1, pI 0), (.iload_n 3, 1, pI 0), (.iload 4, 2, pI 0)] 42 _ (by decide +kernel) ?_
      refine (And.intro rfl ?_)
      show zG w f 6 48 ([some (pR 64 0), some (pI x1), some (pI x2), some (pI x3), some (pI x4), some (pI r10)], [pI x4, pI x3, pR 64 0], (n, m11))
      obtain ⟨m14, q12, h⟩ := zr_k h
      refine zcallVV (pc := 48) (As := [pI x3, pI x4]) (st := []) (c := 64) (j := 0) hF (m_X7_changes  q12) w_X7_changes k_7_259 (by decide +kernel) rfl rfl rfl rfl rfl rfl rfl ?_
      refine zrun hF [(.iload 5, 2, pI 0), (.iload_n 1, 1, pI 0)] 51 _ (by decide +kernel) ?_
      show zG w f 6 54 ([some (pR 64 0), some (pI x1), some (pI x2), some (pI x3), some (pI x4), some (pI r10)], [pI x1, pI r10], (n, m14))
      refine zicmp_gt (tgt := 60) (pc := 54) hF (by decide +kernel) (fun b15 => ?_) (fun b15 => ?_)
      · replace h := zit b15 h
        refine zrun hF [(.iload 5, 2, pI 0), (.istore_n 1, 1, pI 0), (.bipush 100, 2, pI 100), (.iload_n 3, 1, pI 0), (.imul, 1, pI 0), (.iload 4, 2, pI 0), (.iadd, 1, pI 0), (.istore_n 2, 1, pI 0)] 60 _ (by decide +kernel) ?_
        refine (And.intro rfl (And.intro rfl ?_))
        refine zlet_k (P := fun (v16 : Int32) => zG w f 6 71 ([some (pR 64 0), some (pI r10), some (pI v16), some (pI x3), some (pI x4), some (pI r10)], [], (n, m14))) h (fun v16 h => ?_)
        refine zcut [true, true, true, true, true, false] ?_
        exact m_X7_bestChange_L71 hl hF hR hk9 ih _ _ _ _ _  h
      · replace h := zif b15 h
        refine zgoto (tgt := 71) (pc := 57) hF (by decide +kernel) ?_
        refine zcut [true, true, true, true, true, false] ?_
        exact m_X7_bestChange_L71 hl hF hR hk9 ih _ _ _ _ _  h

set_option maxHeartbeats 4000000 in
set_option maxRecDepth 100000 in
theorem m_X7_bestChange_L9 {w : zWd} {f : zFr} {n : zMem} {x : Int32} {m0 : zMem} {lc : Launch} (hl : f.2.1 = lc) (hF : zFOK w f 7 cX7_bestChange 6 26) (hR : zFin w f (some .int) (zQI w x (n, m0))) : ∀ (k : Nat) (x1 : Int32) (x2 : Int32) (x3 : Int32) (m : zMem), s_X7_bestChange_L9 k x1 x2 x3 m = some (x, m0) → zG w f 6 9 ([some (pR 64 0), some (pI x1), some (pI x2), some (pI x3), none, none], [], (n, m)) := by
  intro k
  induction k with
  | zero => intro x1 x2 x3 m h; exact zno h
  | succ k ih =>
    intro x1 x2 x3 m h
    unfold s_X7_bestChange_L9 at h
    refine zrun hF [(.iload_n 3, 1, pI 0), (.aload_n 0, 1, pI 0), (.getfield 93, 3, pR 64 0)] 9 _ (by decide +kernel) ?_
    refine (And.intro rfl (And.intro rfl ?_))
    show zG w f 6 14 ([some (pR 64 0), some (pI x1), some (pI x2), some (pI x3), none, none], [pI (m.1 64 0 0), pI x3], (n, m))
    refine zicmp_ge (tgt := 83) (pc := 14) hF (by decide +kernel) (fun b4 => ?_) (fun b4 => ?_)
    · replace h := zit b4 h
      refine zrun hF [(.iload_n 2, 1, pI 0)] 83 _ (by decide +kernel) ?_
      show zG w f 6 84 ([some (pR 64 0), some (pI x1), some (pI x2), some (pI x3), none, none], [pI x2], (n, m))
      exact zretI (pc := 84) hF hR (by decide +kernel) rfl (congrArg Prod.fst (Option.some.inj h)) (congrArg (fun (q : Int32 × zMem) => (n, q.2)) (Option.some.inj h))
    · replace h := zif b4 h
      refine zrun hF [(.iload_n 3, 1, pI 0), (.iconst 1, 1, pI 1), (.iadd, 1, pI 0), (.istore 4, 2, pI 0)] 17 _ (by decide +kernel) ?_
      refine (And.intro rfl ?_)
      show zG w f 6 22 ([some (pR 64 0), some (pI x1), some (pI x2), some (pI x3), some (pI (x3 + 1)), none], [], (n, m))
      exact m_X7_bestChange_L22 hl hF hR ih zF _ _ _ _ _  h

set_option maxHeartbeats 4000000 in
set_option maxRecDepth 100000 in
theorem m_X7_bestChange {w : zWd} {lc : Launch} {n : zMem}  {m : zMem} {x : Int32} {m0 : zMem}  (h : s_X7_bestChange m = some (x, m0)) : zMet w lc 26 yX7_bestChange cX7_bestChange 6 (some .int) [pR 64 0] (n, m) (zQI w x (n, m0)) := by
  refine zmet (o := 7) (by decide +kernel) rfl (Nat.le_of_ble_eq_true rfl) rfl (fun f hl hF hR => ?_)
  unfold s_X7_bestChange at h
  show zG w f 6 0 ([some (pR 64 0), none, none, none, none, none], [], (n, m))
  refine zrun hF [(.aload_n 0, 1, pI 0)] 0 _ (by decide +kernel) ?_
  show zG w f 6 1 ([some (pR 64 0), none, none, none, none, none], [pR 64 0], (n, m))
  obtain ⟨r2, m3, q1, h⟩ := zb_k h
  refine zcallVI (pc := 1) (As := []) (st := []) (c := 64) (j := 0) hF (m_X7_mostOf  q1) w_X7_mostOf k_7_244 (by decide +kernel) rfl rfl rfl rfl rfl rfl rfl ?_
  refine zrun hF [(.istore_n 1, 1, pI 0), (.iconst (-1), 1, pI (-1)), (.istore_n 2, 1, pI 0), (.iconst 0, 1, pI 0), (.istore_n 3, 1, pI 0)] 4 _ (by decide +kernel) ?_
  refine (And.intro rfl (And.intro rfl (And.intro rfl ?_)))
  show zG w f 6 9 ([some (pR 64 0), some (pI r2), some (pI (-1)), some (pI 0), none, none], [], (n, m3))
  exact m_X7_bestChange_L9 hl hF hR  zF _ _ _ _  h

set_option maxHeartbeats 4000000 in
set_option maxRecDepth 100000 in
theorem m_X5_wantedPairs_L39 {w : zWd} {f : zFr} {n : zMem} {x : Int32} {lc : Launch} {mr : zMem} (hl : f.2.1 = lc) (hF : zFOK w f 5 cX5_wantedPairs 4 4) (hR : zFin w f (some .int) (zQI w x (mr, n))) {k4 : Nat → Int32 → Int32 → zMem → Option Int32} (hk4 : ∀ (x0 : Nat) (x1 : Int32) (x2 : Int32) (m : zMem), Nat.blt x0 3 = true → m = mr → k4 x0 x1 x2 m = some x → zG w f 4 4 ([some (pR 1 x0), some (pI x1), some (pI x2), none], [], (m, n))) {k16 : Nat → Int32 → Int32 → Int32 → zMem → Option Int32} (hk16 : ∀ (x0 : Nat) (x1 : Int32) (x2 : Int32) (x3 : Int32) (m : zMem), Nat.blt x0 3 = true → m = mr → k16 x0 x1 x2 x3 m = some x → zG w f 4 16 ([some (pR 1 x0), some (pI x1), some (pI x2), some (pI x3)], [], (m, n))) : ∀ (x0 : Nat) (x2 : Int32) (x3 : Int32) (y0 : Int32) (y1 : Int32) (m : zMem), Nat.blt x0 3 = true → m = mr → s_X5_wantedPairs_L39 k4 k16 x0 x2 x3 y0 y1 m = some x → zG w f 4 39 ([some (pR 1 x0), none, some (pI x2), some (pI x3)], [pI y1, pI y0], (m, n)) := by
  intro x0 x2 x3 y0 y1 m hx0 hm h
  unfold s_X5_wantedPairs_L39 at h
  refine zrun hF [(.iadd, 1, pI 0), (.istore_n 1, 1, pI 0), (.iinc 3 1, 3, pI 1)] 39 _ (by decide +kernel) ?_
  refine (And.intro rfl (And.intro rfl ?_))
  show zG w f 4 44 ([some (pR 1 x0), some (pI (y0 + y1)), some (pI x2), some (pI (x3 + 1))], [], (m, n))
  refine zgoto (tgt := 16) (pc := 44) hF (by decide +kernel) ?_
  exact hk16 _ _ _ _ _ hx0 hm h

set_option maxHeartbeats 4000000 in
set_option maxRecDepth 100000 in
theorem m_X5_wantedPairs_L16 {w : zWd} {f : zFr} {n : zMem} {x : Int32} {lc : Launch} {mr : zMem} (hl : f.2.1 = lc) (hF : zFOK w f 5 cX5_wantedPairs 4 4) (hR : zFin w f (some .int) (zQI w x (mr, n))) {k4 : Nat → Int32 → Int32 → zMem → Option Int32} (hk4 : ∀ (x0 : Nat) (x1 : Int32) (x2 : Int32) (m : zMem), Nat.blt x0 3 = true → m = mr → k4 x0 x1 x2 m = some x → zG w f 4 4 ([some (pR 1 x0), some (pI x1), some (pI x2), none], [], (m, n))) : ∀ (k : Nat) (x0 : Nat) (x1 : Int32) (x2 : Int32) (x3 : Int32) (m : zMem), Nat.blt x0 3 = true → m = mr → s_X5_wantedPairs_L16 k4 k x0 x1 x2 x3 m = some x → zG w f 4 16 ([some (pR 1 x0), some (pI x1), some (pI x2), some (pI x3)], [], (m, n)) := by
  intro k
  induction k with
  | zero => intro x0 x1 x2 x3 m hx0 hm h; exact zno h
  | succ k ih =>
    intro x0 x1 x2 x3 m hx0 hm h
    unfold s_X5_wantedPairs_L16 at h
    refine zrun hF [(.iload_n 3, 1, pI 0), (.aload_n 0, 1, pI 0), (.getfield 31, 3, pR 1 6)] 16 _ (by decide +kernel) ?_
    refine (And.intro rfl (And.intro hx0 ?_))
    show zG w f 4 21 ([some (pR 1 x0), some (pI x1), some (pI x2), some (pI x3)], [pI (m.1 1 x0 6), pI x3], (m, n))
    refine zicmp_ge (tgt := 47) (pc := 21) hF (by decide +kernel) (fun b2 => ?_) (fun b2 => ?_)
    · replace h := zit b2 h
      refine zrun hF [(.iinc 2 1, 3, pI 1)] 47 _ (by decide +kernel) ?_
      refine (And.intro rfl ?_)
      show zG w f 4 50 ([some (pR 1 x0), some (pI x1), some (pI (x2 + 1)), some (pI x3)], [], (m, n))
      refine zgoto (tgt := 4) (pc := 50) hF (by decide +kernel) ?_
      refine zcut [true, true, true, false] ?_
      exact hk4 _ _ _ _ hx0 hm h
    · replace h := zif b2 h
      refine zrun hF [(.iload_n 1, 1, pI 0), (.aload_n 0, 1, pI 0), (.iload_n 2, 1, pI 0), (.iload_n 3, 1, pI 0)] 24 _ (by decide +kernel) ?_
      show zG w f 4 28 ([some (pR 1 x0), some (pI x1), some (pI x2), some (pI x3)], [pI x3, pI x2, pR 1 x0, pI x1], (m, n))
      obtain ⟨r4, q3, h⟩ := zr_k h
      refine zcallVI (pc := 28) (As := [pI x2, pI x3]) (st := [pI x1]) (c := 1) (j := x0) hF (m_X5_isWanted hx0 q3) w_X5_isWanted k_5_99 (by decide +kernel) rfl hx0 rfl rfl rfl rfl rfl ?_
      refine zif_eq (tgt := 38) (pc := 31) hF (by decide +kernel) (fun b5 => ?_) (fun b5 => ?_)
      · replace h := zit b5 h
        refine zrun hF [(.iconst 0, 1, pI 0)] 38 _ (by decide +kernel) ?_
        show zG w f 4 39 ([some (pR 1 x0), some (pI x1), some (pI x2), some (pI x3)], [pI 0, pI x1], (m, n))
        refine zcut [true, false, true, true] ?_
        exact m_X5_wantedPairs_L39 hl hF hR hk4 ih _ _ _ _ _ _ hx0 hm h
      · replace h := zif b5 h
        refine zrun hF [(.iconst 1, 1, pI 1)] 34 _ (by decide +kernel) ?_
        show zG w f 4 35 ([some (pR 1 x0), some (pI x1), some (pI x2), some (pI x3)], [pI 1, pI x1], (m, n))
        refine zgoto (tgt := 39) (pc := 35) hF (by decide +kernel) ?_
        refine zcut [true, false, true, true] ?_
        exact m_X5_wantedPairs_L39 hl hF hR hk4 ih _ _ _ _ _ _ hx0 hm h

set_option maxHeartbeats 4000000 in
set_option maxRecDepth 100000 in
theorem m_X5_wantedPairs_L4 {w : zWd} {f : zFr} {n : zMem} {x : Int32} {lc : Launch} {mr : zMem} (hl : f.2.1 = lc) (hF : zFOK w f 5 cX5_wantedPairs 4 4) (hR : zFin w f (some .int) (zQI w x (mr, n))) : ∀ (k : Nat) (x0 : Nat) (x1 : Int32) (x2 : Int32) (m : zMem), Nat.blt x0 3 = true → m = mr → s_X5_wantedPairs_L4 k x0 x1 x2 m = some x → zG w f 4 4 ([some (pR 1 x0), some (pI x1), some (pI x2), none], [], (m, n)) := by
  intro k
  induction k with
  | zero => intro x0 x1 x2 m hx0 hm h; exact zno h
  | succ k ih =>
    intro x0 x1 x2 m hx0 hm h
    unfold s_X5_wantedPairs_L4 at h
    refine zrun hF [(.iload_n 2, 1, pI 0), (.aload_n 0, 1, pI 0), (.getfield 31, 3, pR 1 6)] 4 _ (by decide +kernel) ?_
    refine (And.intro rfl (And.intro hx0 ?_))
    show zG w f 4 9 ([some (pR 1 x0), some (pI x1), some (pI x2), none], [pI (m.1 1 x0 6), pI x2], (m, n))
    refine zicmp_ge (tgt := 53) (pc := 9) hF (by decide +kernel) (fun b1 => ?_) (fun b1 => ?_)
    · replace h := zit b1 h
      refine zrun hF [(.iload_n 1, 1, pI 0)] 53 _ (by decide +kernel) ?_
      show zG w f 4 54 ([some (pR 1 x0), some (pI x1), some (pI x2), none], [pI x1], (m, n))
      exact zretI (pc := 54) hF hR (by decide +kernel) rfl (Option.some.inj h) (congrArg (fun q => (q, n)) hm)
    · replace h := zif b1 h
      refine zrun hF [(.iload_n 2, 1, pI 0), (.iconst 1, 1, pI 1), (.iadd, 1, pI 0), (.istore_n 3, 1, pI 0)] 12 _ (by decide +kernel) ?_
      refine (And.intro rfl ?_)
      show zG w f 4 16 ([some (pR 1 x0), some (pI x1), some (pI x2), some (pI (x2 + 1))], [], (m, n))
      exact m_X5_wantedPairs_L16 hl hF hR ih zF _ _ _ _ _ hx0 hm h

set_option maxHeartbeats 4000000 in
set_option maxRecDepth 100000 in
theorem m_X5_wantedPairs {w : zWd} {lc : Launch} {n : zMem} {t : Nat} {m : zMem} {x : Int32} (ht : Nat.blt t 3 = true) (h : s_X5_wantedPairs t m = some x) : zMet w lc 4 yX5_wantedPairs cX5_wantedPairs 4 (some .int) [pR 1 t] (m, n) (zQI w x (m, n)) := by
  refine zmet (o := 5) (by decide +kernel) rfl (Nat.le_of_ble_eq_true rfl) rfl (fun f hl hF hR => ?_)
  unfold s_X5_wantedPairs at h
  show zG w f 4 0 ([some (pR 1 t), none, none, none], [], (m, n))
  refine zrun hF [(.iconst 0, 1, pI 0), (.istore_n 1, 1, pI 0), (.iconst 0, 1, pI 0), (.istore_n 2, 1, pI 0)] 0 _ (by decide +kernel) ?_
  refine (And.intro rfl (And.intro rfl ?_))
  show zG w f 4 4 ([some (pR 1 t), some (pI 0), some (pI 0), none], [], (m, n))
  exact m_X5_wantedPairs_L4 hl hF hR  zF _ _ _ _ ht rfl h

set_option maxHeartbeats 4000000 in
set_option maxRecDepth 100000 in
theorem m_X6_bestFreeSeat_L77 {w : zWd} {f : zFr} {n : zMem} {x : Int32} {m0 : zMem} {lc : Launch} (hl : f.2.1 = lc) (hF : zFOK w f 6 cX6_bestFreeSeat 7 5) (hR : zFin w f (some .int) (zQI w x (m0, n))) {k8 : Int32 → Int32 → Int32 → Int32 → Int32 → zMem → Option (Int32 × zMem)} (hk8 : ∀ (x1 : Int32) (x2 : Int32) (x3 : Int32) (x4 : Int32) (x5 : Int32) (m : zMem), k8 x1 x2 x3 x4 x5 m = some (x, m0) → zG w f 7 8 ([some (pR 0 0), some (pI x1), some (pI x2), some (pI x3), some (pI x4), some (pI x5), none], [], (m, n))) : ∀ (x1 : Int32) (x2 : Int32) (x3 : Int32) (x4 : Int32) (x5 : Int32) (m : zMem), s_X6_bestFreeSeat_L77 k8 x1 x2 x3 x4 x5 m = some (x, m0) → zG w f 7 77 ([some (pR 0 0), some (pI x1), some (pI x2), some (pI x3), some (pI x4), some (pI x5), none], [], (m, n)) := by
  intro x1 x2 x3 x4 x5 m h
  unfold s_X6_bestFreeSeat_L77 at h
  refine zrun hF [(.iinc 5 1, 3, pI 1)] 77 _ (by decide +kernel) ?_
  refine (And.intro rfl ?_)
  show zG w f 7 80 ([some (pR 0 0), some (pI x1), some (pI x2), some (pI x3), some (pI x4), some (pI (x5 + 1)), none], [], (m, n))
  refine zgoto (tgt := 8) (pc := 80) hF (by decide +kernel) ?_
  exact hk8 _ _ _ _ _ _  h

set_option maxHeartbeats 4000000 in
set_option maxRecDepth 100000 in
theorem m_X6_bestFreeSeat_L8 {w : zWd} {f : zFr} {n : zMem} {x : Int32} {m0 : zMem} {lc : Launch} (hl : f.2.1 = lc) (hF : zFOK w f 6 cX6_bestFreeSeat 7 5) (hR : zFin w f (some .int) (zQI w x (m0, n))) : ∀ (k : Nat) (x1 : Int32) (x2 : Int32) (x3 : Int32) (x4 : Int32) (x5 : Int32) (m : zMem), s_X6_bestFreeSeat_L8 k x1 x2 x3 x4 x5 m = some (x, m0) → zG w f 7 8 ([some (pR 0 0), some (pI x1), some (pI x2), some (pI x3), some (pI x4), some (pI x5), none], [], (m, n)) := by
  intro k
  induction k with
  | zero => intro x1 x2 x3 x4 x5 m h; exact zno h
  | succ k ih =>
    intro x1 x2 x3 x4 x5 m h
    unfold s_X6_bestFreeSeat_L8 at h
    refine zrun hF [(.iload 5, 2, pI 0), (.aload_n 0, 1, pI 0), (.getfield 10, 3, pR 0 0), (.getfield 135, 3, pR 1 5)] 8 _ (by decide +kernel) ?_
    refine (And.intro rfl (And.intro rfl (And.intro rfl (And.intro rfl ?_))))
    show zG w f 7 17 ([some (pR 0 0), some (pI x1), some (pI x2), some (pI x3), some (pI x4), some (pI x5), none], [pI (m.1 1 0 5), pI x5], (m, n))
    refine zicmp_ge (tgt := 83) (pc := 17) hF (by decide +kernel) (fun b1 => ?_) (fun b1 => ?_)
    · replace h := zit b1 h
      refine zrun hF [(.iload_n 3, 1, pI 0)] 83 _ (by decide +kernel) ?_
      show zG w f 7 84 ([some (pR 0 0), some (pI x1), some (pI x2), some (pI x3), some (pI x4), some (pI x5), none], [pI x3], (m, n))
      exact zretI (pc := 84) hF hR (by decide +kernel) rfl (congrArg Prod.fst (Option.some.inj h)) (congrArg (fun (q : Int32 × zMem) => (q.2, n)) (Option.some.inj h))
    · replace h := zif b1 h
      refine zrun hF [(.aload_n 0, 1, pI 0), (.getfield 10, 3, pR 0 0), (.iload 5, 2, pI 0)] 20 _ (by decide +kernel) ?_
      refine (And.intro rfl (And.intro rfl ?_))
      show zG w f 7 26 ([some (pR 0 0), some (pI x1), some (pI x2), some (pI x3), some (pI x4), some (pI x5), none], [pI x5, pR 1 0], (m, n))
      obtain ⟨r3, q2, h⟩ := zr_k h
      refine zcallVI (pc := 26) (As := [pI x5]) (st := []) (c := 1) (j := 0) hF (m_X5_isFree rfl q2) w_X5_isFree k_6_138 (by decide +kernel) rfl rfl rfl rfl rfl rfl rfl ?_
      refine zif_eq (tgt := 77) (pc := 29) hF (by decide +kernel) (fun b4 => ?_) (fun b4 => ?_)
      · replace h := zit b4 h
        exact m_X6_bestFreeSeat_L77 hl hF hR ih _ _ _ _ _ _  h
      · replace h := zif b4 h
        refine zrun hF [(.aload_n 0, 1, pI 0), (.getfield 16, 3, pR 0 1), (.aload_n 0, 1, pI 0), (.getfield 10, 3, pR 0 0)] 32 _ (by decide +kernel) ?_
        refine (And.intro rfl (And.intro rfl (And.intro rfl (And.intro rfl ?_))))
        show zG w f 7 40 ([some (pR 0 0), some (pI x1), some (pI x2), some (pI x3), some (pI x4), some (pI x5), none], [pR 1 0, pR 1 1], (m, n))
        obtain ⟨m7, q5, h⟩ := zr_k h
        refine zcallVV (pc := 40) (As := [pR 1 0]) (st := []) (c := 1) (j := 1) hF (m_X5_takeOver rfl rfl q5) w_X5_takeOver k_6_179 (by decide +kernel) rfl rfl rfl rfl rfl rfl rfl ?_
        refine zrun hF [(.aload_n 0, 1, pI 0), (.getfield 16, 3, pR 0 1), (.iload_n 1, 1, pI 0), (.iload 5, 2, pI 0), (.iload_n 2, 1, pI 0)] 43 _ (by decide +kernel) ?_
        refine (And.intro rfl (And.intro rfl ?_))
        show zG w f 7 51 ([some (pR 0 0), some (pI x1), some (pI x2), some (pI x3), some (pI x4), some (pI x5), none], [pI x2, pI x5, pI x1, pR 1 1], (m7, n))
        obtain ⟨m10, q8, h⟩ := zr_k h
        refine zcallVV (pc := 51) (As := [pI x1, pI x5, pI x2]) (st := []) (c := 1) (j := 1) hF (m_X5_add rfl q8) w_X5_add k_6_147 (by decide +kernel) rfl rfl rfl rfl rfl rfl rfl ?_
        refine zrun hF [(.aload_n 0, 1, pI 0), (.getfield 16, 3, pR 0 1)] 54 _ (by decide +kernel) ?_
        refine (And.intro rfl (And.intro rfl ?_))
        show zG w f 7 58 ([some (pR 0 0), some (pI x1), some (pI x2), some (pI x3), some (pI x4), some (pI x5), none], [pR 1 1], (m10, n))
        obtain ⟨r12, q11, h⟩ := zr_k h
        refine zcallVI (pc := 58) (As := []) (st := []) (c := 1) (j := 1) hF (m_X5_wantedPairs rfl q11) w_X5_wantedPairs k_6_320 (by decide +kernel) rfl rfl rfl rfl rfl rfl rfl ?_
        refine zrun hF [(.istore 6, 2, pI 0), (.iload 6, 2, pI 0), (.iload 4, 2, pI 0)] 61 _ (by decide +kernel) ?_
        refine (And.intro rfl ?_)
        show zG w f 7 67 ([some (pR 0 0), some (pI x1), some (pI x2), some (pI x3), some (pI x4), some (pI x5), some (pI r12)], [pI x4, pI r12], (m10, n))
        refine zicmp_le (tgt := 77) (pc := 67) hF (by decide +kernel) (fun b13 => ?_) (fun b13 => ?_)
        · replace h := zit b13 h
          refine zcut [true, true, true, true, true, true, false] ?_
          exact m_X6_bestFreeSeat_L77 hl hF hR ih _ _ _ _ _ _  h
        · replace h := zif b13 h
          refine zrun hF [(.iload 6, 2, pI 0), (.istore 4, 2, pI 0), (.iload 5, 2, pI 0), (.istore_n 3, 1, pI 0)] 70 _ (by decide +kernel) ?_
          refine (And.intro rfl (And.intro rfl ?_))
          show zG w f 7 77 ([some (pR 0 0), some (pI x1), some (pI x2), some (pI x5), some (pI r12), some (pI x5), some (pI r12)], [], (m10, n))
          refine zcut [true, true, true, true, true, true, false] ?_
          exact m_X6_bestFreeSeat_L77 hl hF hR ih _ _ _ _ _ _  h

set_option maxHeartbeats 4000000 in
set_option maxRecDepth 100000 in
theorem m_X6_bestFreeSeat {w : zWd} {lc : Launch} {n : zMem} {a1 : Int32} {a2 : Int32} {m : zMem} {x : Int32} {m0 : zMem}  (h : s_X6_bestFreeSeat a1 a2 m = some (x, m0)) : zMet w lc 5 yX6_bestFreeSeat cX6_bestFreeSeat 7 (some .int) [pR 0 0, pI a1, pI a2] (m, n) (zQI w x (m0, n)) := by
  refine zmet (o := 6) (by decide +kernel) rfl (Nat.le_of_ble_eq_true rfl) rfl (fun f hl hF hR => ?_)
  unfold s_X6_bestFreeSeat at h
  show zG w f 7 0 ([some (pR 0 0), some (pI a1), some (pI a2), none, none, none, none], [], (m, n))
  refine zrun hF [(.iconst (-1), 1, pI (-1)), (.istore_n 3, 1, pI 0), (.iconst (-1), 1, pI (-1)), (.istore 4, 2, pI 0), (.iconst 0, 1, pI 0), (.istore 5, 2, pI 0)] 0 _ (by decide +kernel) ?_
  refine (And.intro rfl (And.intro rfl (And.intro rfl ?_)))
  show zG w f 7 8 ([some (pR 0 0), some (pI a1), some (pI a2), some (pI (-1)), some (pI (-1)), some (pI 0), none], [], (m, n))
  exact m_X6_bestFreeSeat_L8 hl hF hR  zF _ _ _ _ _ _  h

set_option maxHeartbeats 4000000 in
set_option maxRecDepth 100000 in
theorem m_X6_freeSeat {w : zWd} {lc : Launch} {n : zMem} {a1 : Int32} {a2 : Int32} {m : zMem} {x : Int32} {m0 : zMem}  (h : s_X6_freeSeat a1 a2 m = some (x, m0)) : zMet w lc 6 yX6_freeSeat cX6_freeSeat 3 (some .int) [pR 0 0, pI a1, pI a2] (m, n) (zQI w x (m0, n)) := by
  refine zmet (o := 6) (by decide +kernel) rfl (Nat.le_of_ble_eq_true rfl) rfl (fun f hl hF hR => ?_)
  unfold s_X6_freeSeat at h
  show zG w f 3 0 ([some (pR 0 0), some (pI a1), some (pI a2)], [], (m, n))
  refine zrun hF [(.iload_n 1, 1, pI 0)] 0 _ (by decide +kernel) ?_
  show zG w f 3 1 ([some (pR 0 0), some (pI a1), some (pI a2)], [pI a1], (m, n))
  obtain ⟨r2, q1, h⟩ := zr_k h
  refine zcallSI (pc := 1) (As := [pI a1]) (st := []) hF (m_X6_isKind  q1) w_X6_isKind k_6_122 (by decide +kernel) rfl rfl rfl rfl ?_
  refine zif_ne (tgt := 13) (pc := 4) hF (by decide +kernel) (fun b3 => ?_) (fun b3 => ?_)
  · replace h := zit b3 h
    refine zrun hF [(.aload_n 0, 1, pI 0), (.iconst (-1), 1, pI (-1))] 7 _ (by decide +kernel) ?_
    show zG w f 3 9 ([some (pR 0 0), some (pI a1), some (pI a2)], [pI (-1), pR 0 0], (m, n))
    obtain ⟨r5, m6, q4, h⟩ := zb_k h
    refine zcallVI (pc := 9) (As := [pI (-1)]) (st := []) (c := 0) (j := 0) hF (m_X6_refuse  q4) w_X6_refuse k_6_73 (by decide +kernel) rfl rfl rfl rfl rfl rfl rfl ?_
    exact zretI (pc := 12) hF hR (by decide +kernel) rfl (congrArg Prod.fst (Option.some.inj h)) (congrArg (fun (q : Int32 × zMem) => (q.2, n)) (Option.some.inj h))
  · replace h := zif b3 h
    refine zrun hF [(.aload_n 0, 1, pI 0), (.getfield 10, 3, pR 0 0)] 13 _ (by decide +kernel) ?_
    refine (And.intro rfl (And.intro rfl ?_))
    show zG w f 3 17 ([some (pR 0 0), some (pI a1), some (pI a2)], [pR 1 0], (m, n))
    obtain ⟨r8, q7, h⟩ := zr_k h
    refine zcallVI (pc := 17) (As := []) (st := []) (c := 1) (j := 0) hF (m_X5_freeSeatBits rfl q7) w_X5_freeSeatBits k_6_266 (by decide +kernel) rfl rfl rfl rfl rfl rfl rfl ?_
    refine zif_ne (tgt := 30) (pc := 20) hF (by decide +kernel) (fun b9 => ?_) (fun b9 => ?_)
    · replace h := zit b9 h
      refine zrun hF [(.aload_n 0, 1, pI 0), (.bipush (-5), 2, pI (-5))] 23 _ (by decide +kernel) ?_
      show zG w f 3 26 ([some (pR 0 0), some (pI a1), some (pI a2)], [pI (-5), pR 0 0], (m, n))
      obtain ⟨r11, m12, q10, h⟩ := zb_k h
      refine zcallVI (pc := 26) (As := [pI (-5)]) (st := []) (c := 0) (j := 0) hF (m_X6_refuse  q10) w_X6_refuse k_6_73 (by decide +kernel) rfl rfl rfl rfl rfl rfl rfl ?_
      exact zretI (pc := 29) hF hR (by decide +kernel) rfl (congrArg Prod.fst (Option.some.inj h)) (congrArg (fun (q : Int32 × zMem) => (q.2, n)) (Option.some.inj h))
    · replace h := zif b9 h
      refine zrun hF [(.iload_n 2, 1, pI 0)] 30 _ (by decide +kernel) ?_
      show zG w f 3 31 ([some (pR 0 0), some (pI a1), some (pI a2)], [pI a2], (m, n))
      obtain ⟨r14, q13, h⟩ := zr_k h
      refine zcallSI (pc := 31) (As := [pI a2]) (st := []) hF (m_X6_isAmount  q13) w_X6_isAmount k_6_141 (by decide +kernel) rfl rfl rfl rfl ?_
      refine zif_ne (tgt := 44) (pc := 34) hF (by decide +kernel) (fun b15 => ?_) (fun b15 => ?_)
      · replace h := zit b15 h
        refine zrun hF [(.aload_n 0, 1, pI 0), (.bipush (-6), 2, pI (-6))] 37 _ (by decide +kernel) ?_
        show zG w f 3 40 ([some (pR 0 0), some (pI a1), some (pI a2)], [pI (-6), pR 0 0], (m, n))
        obtain ⟨r17, m18, q16, h⟩ := zb_k h
        refine zcallVI (pc := 40) (As := [pI (-6)]) (st := []) (c := 0) (j := 0) hF (m_X6_refuse  q16) w_X6_refuse k_6_73 (by decide +kernel) rfl rfl rfl rfl rfl rfl rfl ?_
        exact zretI (pc := 43) hF hR (by decide +kernel) rfl (congrArg Prod.fst (Option.some.inj h)) (congrArg (fun (q : Int32 × zMem) => (q.2, n)) (Option.some.inj h))
      · replace h := zif b15 h
        refine zrun hF [(.aload_n 0, 1, pI 0), (.getfield 10, 3, pR 0 0)] 44 _ (by decide +kernel) ?_
        refine (And.intro rfl (And.intro rfl ?_))
        show zG w f 3 48 ([some (pR 0 0), some (pI a1), some (pI a2)], [pR 1 0], (m, n))
        obtain ⟨r20, q19, h⟩ := zr_k h
        refine zcallVI (pc := 48) (As := []) (st := []) (c := 1) (j := 0) hF (m_X5_isFull rfl q19) w_X5_isFull k_6_144 (by decide +kernel) rfl rfl rfl rfl rfl rfl rfl ?_
        refine zif_eq (tgt := 61) (pc := 51) hF (by decide +kernel) (fun b21 => ?_) (fun b21 => ?_)
        · replace h := zit b21 h
          refine zrun hF [(.aload_n 0, 1, pI 0), (.iload_n 1, 1, pI 0), (.iload_n 2, 1, pI 0)] 61 _ (by decide +kernel) ?_
          show zG w f 3 64 ([some (pR 0 0), some (pI a1), some (pI a2)], [pI a2, pI a1, pR 0 0], (m, n))
          obtain ⟨r23, m24, q22, h⟩ := zb_k h
          refine zcallVI (pc := 64) (As := [pI a1, pI a2]) (st := []) (c := 0) (j := 0) hF (m_X6_bestFreeSeat  q22) w_X6_bestFreeSeat k_6_269 (by decide +kernel) rfl rfl rfl rfl rfl rfl rfl ?_
          exact zretI (pc := 67) hF hR (by decide +kernel) rfl (congrArg Prod.fst (Option.some.inj h)) (congrArg (fun (q : Int32 × zMem) => (q.2, n)) (Option.some.inj h))
        · replace h := zif b21 h
          refine zrun hF [(.aload_n 0, 1, pI 0), (.bipush (-7), 2, pI (-7))] 54 _ (by decide +kernel) ?_
          show zG w f 3 57 ([some (pR 0 0), some (pI a1), some (pI a2)], [pI (-7), pR 0 0], (m, n))
          obtain ⟨r26, m27, q25, h⟩ := zb_k h
          refine zcallVI (pc := 57) (As := [pI (-7)]) (st := []) (c := 0) (j := 0) hF (m_X6_refuse  q25) w_X6_refuse k_6_73 (by decide +kernel) rfl rfl rfl rfl rfl rfl rfl ?_
          exact zretI (pc := 60) hF hR (by decide +kernel) rfl (congrArg Prod.fst (Option.some.inj h)) (congrArg (fun (q : Int32 × zMem) => (q.2, n)) (Option.some.inj h))

set_option maxHeartbeats 4000000 in
set_option maxRecDepth 100000 in
theorem m_X7_freeSeat_L10 {w : zWd} {f : zFr} {n : zMem} {x : Int32} {m0 : zMem} {lc : Launch} (hl : f.2.1 = lc) (hF : zFOK w f 7 cX7_freeSeat 7 5) (hR : zFin w f (some .int) (zQI w x (n, m0))) : ∀ (m : zMem), s_X7_freeSeat_L10 m = some (x, m0) → zG w f 7 10 ([some (pR 64 0), none, none, none, none, none, none], [], (n, m)) := by
  intro m h
  unfold s_X7_freeSeat_L10 at h
  refine zrun hF [(.aload_n 0, 1, pI 0), (.iconst (-1), 1, pI (-1))] 10 _ (by decide +kernel) ?_
  show zG w f 7 12 ([some (pR 64 0), none, none, none, none, none, none], [pI (-1), pR 64 0], (n, m))
  obtain ⟨r14, m15, q13, h⟩ := zb_k h
  refine zcallVI (pc := 12) (As := [pI (-1)]) (st := []) (c := 64) (j := 0) hF (m_X7_no  q13) w_X7_no k_7_100 (by decide +kernel) rfl rfl rfl rfl rfl rfl rfl ?_
  exact zretI (pc := 15) hF hR (by decide +kernel) rfl (congrArg Prod.fst (Option.some.inj h)) (congrArg (fun (q : Int32 × zMem) => (n, q.2)) (Option.some.inj h))

set_option maxHeartbeats 4000000 in
set_option maxRecDepth 100000 in
theorem m_X7_freeSeat_L44 {w : zWd} {f : zFr} {n : zMem} {x : Int32} {m0 : zMem} {lc : Launch} (hl : f.2.1 = lc) (hF : zFOK w f 7 cX7_freeSeat 7 5) (hR : zFin w f (some .int) (zQI w x (n, m0))) : ∀ (m : zMem), s_X7_freeSeat_L44 m = some (x, m0) → zG w f 7 44 ([some (pR 64 0), none, none, none, none, none, none], [], (n, m)) := by
  intro m h
  unfold s_X7_freeSeat_L44 at h
  refine zrun hF [(.aload_n 0, 1, pI 0), (.bipush (-6), 2, pI (-6))] 44 _ (by decide +kernel) ?_
  show zG w f 7 47 ([some (pR 64 0), none, none, none, none, none, none], [pI (-6), pR 64 0], (n, m))
  obtain ⟨r17, m18, q16, h⟩ := zb_k h
  refine zcallVI (pc := 47) (As := [pI (-6)]) (st := []) (c := 64) (j := 0) hF (m_X7_no  q16) w_X7_no k_7_100 (by decide +kernel) rfl rfl rfl rfl rfl rfl rfl ?_
  exact zretI (pc := 50) hF hR (by decide +kernel) rfl (congrArg Prod.fst (Option.some.inj h)) (congrArg (fun (q : Int32 × zMem) => (n, q.2)) (Option.some.inj h))

set_option maxHeartbeats 4000000 in
set_option maxRecDepth 100000 in
theorem m_X7_freeSeat_L138 {w : zWd} {f : zFr} {n : zMem} {x : Int32} {m0 : zMem} {lc : Launch} (hl : f.2.1 = lc) (hF : zFOK w f 7 cX7_freeSeat 7 5) (hR : zFin w f (some .int) (zQI w x (n, m0))) {k75 : Int32 → Int32 → Int32 → Int32 → Int32 → zMem → Option (Int32 × zMem)} (hk75 : ∀ (x1 : Int32) (x2 : Int32) (x3 : Int32) (x4 : Int32) (x5 : Int32) (m : zMem), k75 x1 x2 x3 x4 x5 m = some (x, m0) → zG w f 7 75 ([some (pR 64 0), some (pI x1), some (pI x2), some (pI x3), some (pI x4), some (pI x5), none], [], (n, m))) : ∀ (x1 : Int32) (x2 : Int32) (x3 : Int32) (x4 : Int32) (x5 : Int32) (m : zMem), s_X7_freeSeat_L138 k75 x1 x2 x3 x4 x5 m = some (x, m0) → zG w f 7 138 ([some (pR 64 0), some (pI x1), some (pI x2), some (pI x3), some (pI x4), some (pI x5), none], [], (n, m)) := by
  intro x1 x2 x3 x4 x5 m h
  unfold s_X7_freeSeat_L138 at h
  refine zrun hF [(.iinc 5 1, 3, pI 1)] 138 _ (by decide +kernel) ?_
  refine (And.intro rfl ?_)
  show zG w f 7 141 ([some (pR 64 0), some (pI x1), some (pI x2), some (pI x3), some (pI x4), some (pI (x5 + 1)), none], [], (n, m))
  refine zgoto (tgt := 75) (pc := 141) hF (by decide +kernel) ?_
  exact hk75 _ _ _ _ _ _  h

set_option maxHeartbeats 4000000 in
set_option maxRecDepth 100000 in
theorem m_X7_freeSeat_L75 {w : zWd} {f : zFr} {n : zMem} {x : Int32} {m0 : zMem} {lc : Launch} (hl : f.2.1 = lc) (hF : zFOK w f 7 cX7_freeSeat 7 5) (hR : zFin w f (some .int) (zQI w x (n, m0))) : ∀ (k : Nat) (x1 : Int32) (x2 : Int32) (x3 : Int32) (x4 : Int32) (x5 : Int32) (m : zMem), s_X7_freeSeat_L75 k x1 x2 x3 x4 x5 m = some (x, m0) → zG w f 7 75 ([some (pR 64 0), some (pI x1), some (pI x2), some (pI x3), some (pI x4), some (pI x5), none], [], (n, m)) := by
  intro k
  induction k with
  | zero => intro x1 x2 x3 x4 x5 m h; exact zno h
  | succ k ih =>
    intro x1 x2 x3 x4 x5 m h
    unfold s_X7_freeSeat_L75 at h
    refine zrun hF [(.iload 5, 2, pI 0), (.aload_n 0, 1, pI 0), (.getfield 7, 3, pR 64 1)] 75 _ (by decide +kernel) ?_
    refine (And.intro rfl (And.intro rfl ?_))
    show zG w f 7 81 ([some (pR 64 0), some (pI x1), some (pI x2), some (pI x3), some (pI x4), some (pI x5), none], [pI (m.1 64 0 1), pI x5], (n, m))
    refine zicmp_ge (tgt := 144) (pc := 81) hF (by decide +kernel) (fun b19 => ?_) (fun b19 => ?_)
    · replace h := zit b19 h
      refine zrun hF [(.iload_n 3, 1, pI 0)] 144 _ (by decide +kernel) ?_
      show zG w f 7 145 ([some (pR 64 0), some (pI x1), some (pI x2), some (pI x3), some (pI x4), some (pI x5), none], [pI x3], (n, m))
      exact zretI (pc := 145) hF hR (by decide +kernel) rfl (congrArg Prod.fst (Option.some.inj h)) (congrArg (fun (q : Int32 × zMem) => (n, q.2)) (Option.some.inj h))
    · replace h := zif b19 h
      refine zrun hF [(.aload_n 0, 1, pI 0), (.iload 5, 2, pI 0)] 84 _ (by decide +kernel) ?_
      show zG w f 7 87 ([some (pR 64 0), some (pI x1), some (pI x2), some (pI x3), some (pI x4), some (pI x5), none], [pI x5, pR 64 0], (n, m))
      obtain ⟨r21, q20, h⟩ := zr_k h
      refine zcallVI (pc := 87) (As := [pI x5]) (st := []) (c := 64) (j := 0) hF (m_X7_isFree  q20) w_X7_isFree k_7_123 (by decide +kernel) rfl rfl rfl rfl rfl rfl rfl ?_
      refine zif_ne (tgt := 96) (pc := 90) hF (by decide +kernel) (fun b22 => ?_) (fun b22 => ?_)
      · replace h := zit b22 h
        refine zgoto (tgt := 138) (pc := 93) hF (by decide +kernel) ?_
        exact m_X7_freeSeat_L138 hl hF hR ih _ _ _ _ _ _  h
      · replace h := zif b22 h
        refine zrun hF [(.aload_n 0, 1, pI 0), (.iload_n 1, 1, pI 0), (.iload 5, 2, pI 0), (.iload_n 2, 1, pI 0)] 96 _ (by decide +kernel) ?_
        show zG w f 7 101 ([some (pR 64 0), some (pI x1), some (pI x2), some (pI x3), some (pI x4), some (pI x5), none], [pI x2, pI x5, pI x1, pR 64 0], (n, m))
        obtain ⟨r24, m25, q23, h⟩ := zb_k h
        refine zcallVI (pc := 101) (As := [pI x1, pI x5, pI x2]) (st := []) (c := 64) (j := 0) hF (m_X7_adds  q23) w_X7_adds k_7_126 (by decide +kernel) rfl rfl rfl rfl rfl rfl rfl ?_
        refine zrun hF [(.pop, 1, pI 0), (.aload_n 0, 1, pI 0)] 104 _ (by decide +kernel) ?_
        refine (And.intro rfl ?_)
        show zG w f 7 106 ([some (pR 64 0), some (pI x1), some (pI x2), some (pI x3), some (pI x4), some (pI x5), none], [pR 64 0], (n, m25))
        obtain ⟨r27, m28, q26, h⟩ := zb_k h
        refine zcallVI (pc := 106) (As := []) (st := []) (c := 64) (j := 0) hF (m_X7_lists  q26) w_X7_lists k_7_225 (by decide +kernel) rfl rfl rfl rfl rfl rfl rfl ?_
        refine zrun hF [(.istore 6, 2, pI 0), (.aload_n 0, 1, pI 0), (.dup, 1, pI 0), (.getfield 93, 3, pR 64 0), (.iconst 1, 1, pI 1), (.isub, 1, pI 0), (.putfield 93, 3, pR 64 0)] 109 _ (by decide +kernel) ?_
        refine (And.intro rfl (And.intro rfl (And.intro rfl (And.intro rfl (And.intro rfl (And.intro rfl (And.intro trivial ?_)))))))
        refine zlet_k (P := fun (m29 : zMem) => zG w f 7 121 ([some (pR 64 0), some (pI x1), some (pI x2), some (pI x3), some (pI x4), some (pI x5), some (pI r27)], [], (n, m29))) h (fun m29 h => ?_)
        refine zrun hF [(.iload 6, 2, pI 0), (.iload 4, 2, pI 0)] 121 _ (by decide +kernel) ?_
        show zG w f 7 125 ([some (pR 64 0), some (pI x1), some (pI x2), some (pI x3), some (pI x4), some (pI x5), some (pI r27)], [pI x4, pI r27], (n, m29))
        refine zicmp_gt (tgt := 131) (pc := 125) hF (by decide +kernel) (fun b30 => ?_) (fun b30 => ?_)
        · replace h := zit b30 h
          refine zrun hF [(.iload 6, 2, pI 0), (.istore 4, 2, pI 0), (.iload 5, 2, pI 0), (.istore_n 3, 1, pI 0)] 131 _ (by decide +kernel) ?_
          refine (And.intro rfl (And.intro rfl ?_))
          show zG w f 7 138 ([some (pR 64 0), some (pI x1), some (pI x2), some (pI x5), some (pI r27), some (pI x5), some (pI r27)], [], (n, m29))
          refine zcut [true, true, true, true, true, true, false] ?_
          exact m_X7_freeSeat_L138 hl hF hR ih _ _ _ _ _ _  h
        · replace h := zif b30 h
          refine zgoto (tgt := 138) (pc := 128) hF (by decide +kernel) ?_
          refine zcut [true, true, true, true, true, true, false] ?_
          exact m_X7_freeSeat_L138 hl hF hR ih _ _ _ _ _ _  h

set_option maxHeartbeats 4000000 in
set_option maxRecDepth 100000 in
theorem m_X7_freeSeat {w : zWd} {lc : Launch} {n : zMem} {a1 : Int32} {a2 : Int32} {m : zMem} {x : Int32} {m0 : zMem}  (h : s_X7_freeSeat a1 a2 m = some (x, m0)) : zMet w lc 5 yX7_freeSeat cX7_freeSeat 7 (some .int) [pR 64 0, pI a1, pI a2] (n, m) (zQI w x (n, m0)) := by
  refine zmet (o := 7) (by decide +kernel) rfl (Nat.le_of_ble_eq_true rfl) rfl (fun f hl hF hR => ?_)
  unfold s_X7_freeSeat at h
  show zG w f 7 0 ([some (pR 64 0), some (pI a1), some (pI a2), none, none, none, none], [], (n, m))
  refine zrun hF [(.iload_n 1, 1, pI 0)] 0 _ (by decide +kernel) ?_
  show zG w f 7 1 ([some (pR 64 0), some (pI a1), some (pI a2), none, none, none, none], [pI a1], (n, m))
  refine zif_lt (tgt := 10) (pc := 1) hF (by decide +kernel) (fun b1 => ?_) (fun b1 => ?_)
  · replace h := zit b1 h
    refine zcut [true, false, false, true, true, true, true] ?_
    exact m_X7_freeSeat_L10 hl hF hR  _  h
  · replace h := zif b1 h
    refine zrun hF [(.iload_n 1, 1, pI 0), (.bipush 6, 2, pI 6)] 4 _ (by decide +kernel) ?_
    show zG w f 7 7 ([some (pR 64 0), some (pI a1), some (pI a2), none, none, none, none], [pI 6, pI a1], (n, m))
    refine zicmp_le (tgt := 16) (pc := 7) hF (by decide +kernel) (fun b2 => ?_) (fun b2 => ?_)
    · replace h := zit b2 h
      refine zrun hF [(.aload_n 0, 1, pI 0), (.getfield 93, 3, pR 64 0), (.aload_n 0, 1, pI 0), (.getfield 7, 3, pR 64 1)] 16 _ (by decide +kernel) ?_
      refine (And.intro rfl (And.intro rfl (And.intro rfl (And.intro rfl ?_))))
      show zG w f 7 24 ([some (pR 64 0), some (pI a1), some (pI a2), none, none, none, none], [pI (m.1 64 0 1), pI (m.1 64 0 0)], (n, m))
      refine zicmp_ne (tgt := 34) (pc := 24) hF (by decide +kernel) (fun b3 => ?_) (fun b3 => ?_)
      · replace h := zit b3 h
        refine zrun hF [(.aload_n 0, 1, pI 0), (.bipush (-5), 2, pI (-5))] 27 _ (by decide +kernel) ?_
        show zG w f 7 30 ([some (pR 64 0), some (pI a1), some (pI a2), none, none, none, none], [pI (-5), pR 64 0], (n, m))
        obtain ⟨r5, m6, q4, h⟩ := zb_k h
        refine zcallVI (pc := 30) (As := [pI (-5)]) (st := []) (c := 64) (j := 0) hF (m_X7_no  q4) w_X7_no k_7_100 (by decide +kernel) rfl rfl rfl rfl rfl rfl rfl ?_
        exact zretI (pc := 33) hF hR (by decide +kernel) rfl (congrArg Prod.fst (Option.some.inj h)) (congrArg (fun (q : Int32 × zMem) => (n, q.2)) (Option.some.inj h))
      · replace h := zif b3 h
        refine zrun hF [(.iload_n 2, 1, pI 0)] 34 _ (by decide +kernel) ?_
        show zG w f 7 35 ([some (pR 64 0), some (pI a1), some (pI a2), none, none, none, none], [pI a2], (n, m))
        refine zif_lt (tgt := 44) (pc := 35) hF (by decide +kernel) (fun b7 => ?_) (fun b7 => ?_)
        · replace h := zit b7 h
          refine zcut [true, false, false, true, true, true, true] ?_
          exact m_X7_freeSeat_L44 hl hF hR  _  h
        · replace h := zif b7 h
          refine zrun hF [(.iload_n 2, 1, pI 0), (.bipush 9, 2, pI 9)] 38 _ (by decide +kernel) ?_
          show zG w f 7 41 ([some (pR 64 0), some (pI a1), some (pI a2), none, none, none, none], [pI 9, pI a2], (n, m))
          refine zicmp_le (tgt := 51) (pc := 41) hF (by decide +kernel) (fun b8 => ?_) (fun b8 => ?_)
          · replace h := zit b8 h
            refine zrun hF [(.aload_n 0, 1, pI 0), (.getfield 93, 3, pR 64 0), (.bipush 10, 2, pI 10)] 51 _ (by decide +kernel) ?_
            refine (And.intro rfl (And.intro rfl ?_))
            show zG w f 7 57 ([some (pR 64 0), some (pI a1), some (pI a2), none, none, none, none], [pI 10, pI (m.1 64 0 0)], (n, m))
            refine zicmp_ne (tgt := 67) (pc := 57) hF (by decide +kernel) (fun b9 => ?_) (fun b9 => ?_)
            · replace h := zit b9 h
              refine zrun hF [(.aload_n 0, 1, pI 0), (.bipush (-7), 2, pI (-7))] 60 _ (by decide +kernel) ?_
              show zG w f 7 63 ([some (pR 64 0), some (pI a1), some (pI a2), none, none, none, none], [pI (-7), pR 64 0], (n, m))
              obtain ⟨r11, m12, q10, h⟩ := zb_k h
              refine zcallVI (pc := 63) (As := [pI (-7)]) (st := []) (c := 64) (j := 0) hF (m_X7_no  q10) w_X7_no k_7_100 (by decide +kernel) rfl rfl rfl rfl rfl rfl rfl ?_
              exact zretI (pc := 66) hF hR (by decide +kernel) rfl (congrArg Prod.fst (Option.some.inj h)) (congrArg (fun (q : Int32 × zMem) => (n, q.2)) (Option.some.inj h))
            · replace h := zif b9 h
              refine zrun hF [(.iconst (-1), 1, pI (-1)), (.istore_n 3, 1, pI 0), (.iconst (-1), 1, pI (-1)), (.istore 4, 2, pI 0), (.iconst 0, 1, pI 0), (.istore 5, 2, pI 0)] 67 _ (by decide +kernel) ?_
              refine (And.intro rfl (And.intro rfl (And.intro rfl ?_)))
              show zG w f 7 75 ([some (pR 64 0), some (pI a1), some (pI a2), some (pI (-1)), some (pI (-1)), some (pI 0), none], [], (n, m))
              exact m_X7_freeSeat_L75 hl hF hR  zF _ _ _ _ _ _  h
          · replace h := zif b8 h
            refine zcut [true, false, false, true, true, true, true] ?_
            exact m_X7_freeSeat_L44 hl hF hR  _  h
    · replace h := zif b2 h
      refine zcut [true, false, false, true, true, true, true] ?_
      exact m_X7_freeSeat_L10 hl hF hR  _  h

