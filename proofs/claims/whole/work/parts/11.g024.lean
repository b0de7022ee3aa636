set_option maxHeartbeats 4000000 in
set_option maxRecDepth 100000 in
theorem m_X6_layers {w : zWd} {lc : Launch} {n : zMem}  {m : zMem} {x : Int32} {m0 : zMem}  (h : s_X6_layers m = some (x, m0)) : zMet w lc 6 yX6_layers cX6_layers 1 (some .int) [pR 0 0] (m, n) (zQI w x (m0, n)) := by
  refine zmet (o := 6) (by decide +kernel) rfl (Nat.le_of_ble_eq_true rfl) rfl (fun f hl hF hR => ?_)
  unfold s_X6_layers at h
  show zG w f 1 0 ([some (pR 0 0)], [], (m, n))
  refine zrun hF [(.aload_n 0, 1, pI 0), (.getfield 35, 3, pR 0 5), (.aload_n 0, 1, pI 0), (.getfield 10, 3, pR 0 0)] 0 _ (by decide +kernel) ?_
  refine (And.intro rfl (And.intro rfl (And.intro rfl (And.intro rfl ?_))))
  show zG w f 1 8 ([some (pR 0 0)], [pR 1 0, pR 10 0], (m, n))
  obtain ⟨m3, q1, h⟩ := zr_k h
  refine zcallVV (pc := 8) (As := [pR 1 0]) (st := []) (c := 10) (j := 0) hF (m_X2_draw rfl q1) w_X2_draw k_6_211 (by decide +kernel) rfl rfl rfl rfl rfl rfl rfl ?_
  refine zrun hF [(.aload_n 0, 1, pI 0), (.getfield 35, 3, pR 0 5)] 11 _ (by decide +kernel) ?_
  refine (And.intro rfl (And.intro rfl ?_))
  show zG w f 1 15 ([some (pR 0 0)], [pR 10 0], (m3, n))
  obtain ⟨r5, m6, q4, h⟩ := zb_k h
  refine zcallVI (pc := 15) (As := []) (st := []) (c := 10) (j := 0) hF (m_X2_makeLayers  q4) w_X2_makeLayers k_6_311 (by decide +kernel) rfl rfl rfl rfl rfl rfl rfl ?_
  exact zretI (pc := 18) hF hR (by decide +kernel) rfl (congrArg Prod.fst (Option.some.inj h)) (congrArg (fun (q : Int32 × zMem) => (q.2, n)) (Option.some.inj h))

set_option maxHeartbeats 4000000 in
set_option maxRecDepth 100000 in
theorem m_X7_isShared_L60 {w : zWd} {f : zFr} {n : zMem} {x : Int32} {lc : Launch} {mr : zMem} (hl : f.2.1 = lc) (hF : zFOK w f 7 cX7_isShared 3 1) (hR : zFin w f (some .boolean) (zQI w x (n, mr))) : ∀ (m : zMem), m = mr → s_X7_isShared_L60 m = some x → zG w f 3 60 ([none, none, none], [], (n, m)) := by
  intro m hm h
  unfold s_X7_isShared_L60 at h
  refine zrun hF [(.iconst 1, 1, pI 1)] 60 _ (by decide +kernel) ?_
  show zG w f 3 61 ([none, none, none], [pI 1], (n, m))
  refine zgoto (tgt := 65) (pc := 61) hF (by decide +kernel) ?_
  exact zretI (pc := 65) hF hR (by decide +kernel) (by decide +kernel) (Option.some.inj h) (congrArg (fun q => (n, q)) hm)

set_option maxHeartbeats 4000000 in
set_option maxRecDepth 100000 in
theorem m_X7_isShared {w : zWd} {lc : Launch} {n : zMem} {a1 : Int32} {a2 : Int32} {m : zMem} {x : Int32}  (h : s_X7_isShared a1 a2 m = some x) : zMet w lc 1 yX7_isShared cX7_isShared 3 (some .boolean) [pR 64 0, pI a1, pI a2] (n, m) (zQI w x (n, m)) := by
  refine zmet (o := 7) (by decide +kernel) rfl (Nat.le_of_ble_eq_true rfl) rfl (fun f hl hF hR => ?_)
  unfold s_X7_isShared at h
  show zG w f 3 0 ([some (pR 64 0), some (pI a1), some (pI a2)], [], (n, m))
  obtain ⟨c1, h⟩ := zchk h
  obtain ⟨c2, h⟩ := zchk h
  refine zrun hF [(.aload_n 0, 1, pI 0), (.getfield 69, 3, pR 64 28), (.iload_n 1, 1, pI 0), (.iaload, 1, pI 0), (.aload_n 0, 1, pI 0), (.getfield 69, 3, pR 64 28), (.iload_n 2, 1, pI 0), (.iaload, 1, pI 0)] 0 _ (by decide +kernel) ?_
  refine (And.intro rfl (And.intro rfl (And.intro rfl (And.intro rfl (And.intro c1 (And.intro rfl (And.intro rfl (And.intro rfl (And.intro rfl (And.intro c2 ?_))))))))))
  show zG w f 3 12 ([some (pR 64 0), some (pI a1), some (pI a2)], [pI (m.1 81 0 (ix a2)), pI (m.1 81 0 (ix a1))], (n, m))
  refine zicmp_eq (tgt := 60) (pc := 12) hF (by decide +kernel) (fun b3 => ?_) (fun b3 => ?_)
  · replace h := zit b3 h
    refine zcut [false, false, false] ?_
    exact m_X7_isShared_L60 hl hF hR  _  rfl h
  · replace h := zif b3 h
    refine zrun hF [(.aload_n 0, 1, pI 0), (.getfield 69, 3, pR 64 28), (.iload_n 1, 1, pI 0), (.iaload, 1, pI 0), (.aload_n 0, 1, pI 0), (.getfield 72, 3, pR 64 29), (.iload_n 2, 1, pI 0), (.iaload, 1, pI 0)] 15 _ (by decide +kernel) ?_
    refine (And.intro rfl (And.intro rfl (And.intro rfl (And.intro rfl (And.intro c1 (And.intro rfl (And.intro rfl (And.intro rfl (And.intro rfl (And.intro c2 ?_))))))))))
    show zG w f 3 27 ([some (pR 64 0), some (pI a1), some (pI a2)], [pI (m.1 82 0 (ix a2)), pI (m.1 81 0 (ix a1))], (n, m))
    refine zicmp_eq (tgt := 60) (pc := 27) hF (by decide +kernel) (fun b4 => ?_) (fun b4 => ?_)
    · replace h := zit b4 h
      refine zcut [false, false, false] ?_
      exact m_X7_isShared_L60 hl hF hR  _  rfl h
    · replace h := zif b4 h
      refine zrun hF [(.aload_n 0, 1, pI 0), (.getfield 72, 3, pR 64 29), (.iload_n 1, 1, pI 0), (.iaload, 1, pI 0), (.aload_n 0, 1, pI 0), (.getfield 69, 3, pR 64 28), (.iload_n 2, 1, pI 0), (.iaload, 1, pI 0)] 30 _ (by decide +kernel) ?_
      refine (And.intro rfl (And.intro rfl (And.intro rfl (And.intro rfl (And.intro c1 (And.intro rfl (And.intro rfl (And.intro rfl (And.intro rfl (And.intro c2 ?_))))))))))
      show zG w f 3 42 ([some (pR 64 0), some (pI a1), some (pI a2)], [pI (m.1 81 0 (ix a2)), pI (m.1 82 0 (ix a1))], (n, m))
      refine zicmp_eq (tgt := 60) (pc := 42) hF (by decide +kernel) (fun b5 => ?_) (fun b5 => ?_)
      · replace h := zit b5 h
        refine zcut [false, false, false] ?_
        exact m_X7_isShared_L60 hl hF hR  _  rfl h
      · replace h := zif b5 h
        refine zrun hF [(.aload_n 0, 1, pI 0), (.getfield 72, 3, pR 64 29), (.iload_n 1, 1, pI 0), (.iaload, 1, pI 0), (.aload_n 0, 1, pI 0), (.getfield 72, 3, pR 64 29), (.iload_n 2, 1, pI 0), (.iaload, 1, pI 0)] 45 _ (by decide +kernel) ?_
        refine (And.intro rfl (And.intro rfl (And.intro rfl (And.intro rfl (And.intro c1 (And.intro rfl (And.intro rfl (And.intro rfl (And.intro rfl (And.intro c2 ?_))))))))))
        show zG w f 3 57 ([some (pR 64 0), some (pI a1), some (pI a2)], [pI (m.1 82 0 (ix a2)), pI (m.1 82 0 (ix a1))], (n, m))
        refine zicmp_ne (tgt := 64) (pc := 57) hF (by decide +kernel) (fun b6 => ?_) (fun b6 => ?_)
        · replace h := zit b6 h
          refine zcut [false, false, false] ?_
          exact m_X7_isShared_L60 hl hF hR  _  rfl h
        · replace h := zif b6 h
          refine zrun hF [(.iconst 0, 1, pI 0)] 64 _ (by decide +kernel) ?_
          show zG w f 3 65 ([some (pR 64 0), some (pI a1), some (pI a2)], [pI 0], (n, m))
          exact zretI (pc := 65) hF hR (by decide +kernel) (by decide +kernel) (Option.some.inj h) rfl

set_option maxHeartbeats 4000000 in
set_option maxRecDepth 100000 in
theorem m_X7_layers_L110 {w : zWd} {f : zFr} {n : zMem} {x : Int32} {m0 : zMem} {lc : Launch} (hl : f.2.1 = lc) (hF : zFOK w f 7 cX7_layers 7 5) (hR : zFin w f (some .int) (zQI w x (n, m0))) {k9 : Int32 → Int32 → Int32 → zMem → Option (Int32 × zMem)} (hk9 : ∀ (x1 : Int32) (x2 : Int32) (x3 : Int32) (m : zMem), k9 x1 x2 x3 m = some (x, m0) → zG w f 7 9 ([some (pR 64 0), some (pI x1), some (pI x2), some (pI x3), none, none, none], [], (n, m))) {k20 : Int32 → Int32 → Int32 → Int32 → Int32 → zMem → Option (Int32 × zMem)} (hk20 : ∀ (x1 : Int32) (x2 : Int32) (x3 : Int32) (x4 : Int32) (x5 : Int32) (m : zMem), k20 x1 x2 x3 x4 x5 m = some (x, m0) → zG w f 7 20 ([some (pR 64 0), some (pI x1), some (pI x2), some (pI x3), some (pI x4), some (pI x5), none], [], (n, m))) : ∀ (x1 : Int32) (x2 : Int32) (x3 : Int32) (x4 : Int32) (x5 : Int32) (m : zMem), s_X7_layers_L110 k9 k20 x1 x2 x3 x4 x5 m = some (x, m0) → zG w f 7 110 ([some (pR 64 0), some (pI x1), some (pI x2), some (pI x3), some (pI x4), some (pI x5), none], [], (n, m)) := by
  intro x1 x2 x3 x4 x5 m h
  unfold s_X7_layers_L110 at h
  refine zrun hF [(.iload 5, 2, pI 0)] 110 _ (by decide +kernel) ?_
  show zG w f 7 112 ([some (pR 64 0), some (pI x1), some (pI x2), some (pI x3), some (pI x4), some (pI x5), none], [pI x5], (n, m))
  refine zif_ne (tgt := 20) (pc := 112) hF (by decide +kernel) (fun b20 => ?_) (fun b20 => ?_)
  · replace h := zit b20 h
    refine zrun hF [(.iinc 4 1, 3, pI 1)] 115 _ (by decide +kernel) ?_
    refine (And.intro rfl ?_)
    show zG w f 7 118 ([some (pR 64 0), some (pI x1), some (pI x2), some (pI x3), some (pI (x4 + 1)), some (pI x5), none], [], (n, m))
    refine zgoto (tgt := 20) (pc := 118) hF (by decide +kernel) ?_
    exact hk20 _ _ _ _ _ _  h
  · replace h := zif b20 h
    exact hk20 _ _ _ _ _ _  h

set_option maxHeartbeats 4000000 in
set_option maxRecDepth 100000 in
theorem m_X7_layers_L102 {w : zWd} {f : zFr} {n : zMem} {x : Int32} {m0 : zMem} {lc : Launch} (hl : f.2.1 = lc) (hF : zFOK w f 7 cX7_layers 7 5) (hR : zFin w f (some .int) (zQI w x (n, m0))) {k9 : Int32 → Int32 → Int32 → zMem → Option (Int32 × zMem)} (hk9 : ∀ (x1 : Int32) (x2 : Int32) (x3 : Int32) (m : zMem), k9 x1 x2 x3 m = some (x, m0) → zG w f 7 9 ([some (pR 64 0), some (pI x1), some (pI x2), some (pI x3), none, none, none], [], (n, m))) {k20 : Int32 → Int32 → Int32 → Int32 → Int32 → zMem → Option (Int32 × zMem)} (hk20 : ∀ (x1 : Int32) (x2 : Int32) (x3 : Int32) (x4 : Int32) (x5 : Int32) (m : zMem), k20 x1 x2 x3 x4 x5 m = some (x, m0) → zG w f 7 20 ([some (pR 64 0), some (pI x1), some (pI x2), some (pI x3), some (pI x4), some (pI x5), none], [], (n, m))) {k31 : Int32 → Int32 → Int32 → Int32 → Int32 → Int32 → zMem → Option (Int32 × zMem)} (hk31 : ∀ (x1 : Int32) (x2 : Int32) (x3 : Int32) (x4 : Int32) (x5 : Int32) (x6 : Int32) (m : zMem), k31 x1 x2 x3 x4 x5 x6 m = some (x, m0) → zG w f 7 31 ([some (pR 64 0), some (pI x1), some (pI x2), some (pI x3), some (pI x4), some (pI x5), some (pI x6)], [], (n, m))) : ∀ (x1 : Int32) (x2 : Int32) (x3 : Int32) (x4 : Int32) (x6 : Int32) (y0 : Int32) (m : zMem), s_X7_layers_L102 k9 k20 k31 x1 x2 x3 x4 x6 y0 m = some (x, m0) → zG w f 7 102 ([some (pR 64 0), some (pI x1), some (pI x2), some (pI x3), some (pI x4), none, some (pI x6)], [pI y0], (n, m)) := by
  intro x1 x2 x3 x4 x6 y0 m h
  unfold s_X7_layers_L102 at h
  refine zrun hF [(.istore 5, 2, pI 0), (.iinc 6 1, 3, pI 1)] 102 _ (by decide +kernel) ?_
  refine (And.intro rfl (And.intro rfl ?_))
  show zG w f 7 107 ([some (pR 64 0), some (pI x1), some (pI x2), some (pI x3), some (pI x4), some (pI y0), some (pI (x6 + 1))], [], (n, m))
  refine zgoto (tgt := 31) (pc := 107) hF (by decide +kernel) ?_
  exact hk31 _ _ _ _ _ _ _  h

set_option maxHeartbeats 4000000 in
set_option maxRecDepth 100000 in
theorem m_X7_layers_L97 {w : zWd} {f : zFr} {n : zMem} {x : Int32} {m0 : zMem} {lc : Launch} (hl : f.2.1 = lc) (hF : zFOK w f 7 cX7_layers 7 5) (hR : zFin w f (some .int) (zQI w x (n, m0))) {k9 : Int32 → Int32 → Int32 → zMem → Option (Int32 × zMem)} (hk9 : ∀ (x1 : Int32) (x2 : Int32) (x3 : Int32) (m : zMem), k9 x1 x2 x3 m = some (x, m0) → zG w f 7 9 ([some (pR 64 0), some (pI x1), some (pI x2), some (pI x3), none, none, none], [], (n, m))) {k20 : Int32 → Int32 → Int32 → Int32 → Int32 → zMem → Option (Int32 × zMem)} (hk20 : ∀ (x1 : Int32) (x2 : Int32) (x3 : Int32) (x4 : Int32) (x5 : Int32) (m : zMem), k20 x1 x2 x3 x4 x5 m = some (x, m0) → zG w f 7 20 ([some (pR 64 0), some (pI x1), some (pI x2), some (pI x3), some (pI x4), some (pI x5), none], [], (n, m))) {k31 : Int32 → Int32 → Int32 → Int32 → Int32 → Int32 → zMem → Option (Int32 × zMem)} (hk31 : ∀ (x1 : Int32) (x2 : Int32) (x3 : Int32) (x4 : Int32) (x5 : Int32) (x6 : Int32) (m : zMem), k31 x1 x2 x3 x4 x5 x6 m = some (x, m0) → zG w f 7 31 ([some (pR 64 0), some (pI x1), some (pI x2), some (pI x3), some (pI x4), some (pI x5), some (pI x6)], [], (n, m))) : ∀ (x1 : Int32) (x2 : Int32) (x3 : Int32) (x4 : Int32) (x6 : Int32) (m : zMem), s_X7_layers_L97 k9 k20 k31 x1 x2 x3 x4 x6 m = some (x, m0) → zG w f 7 97 ([some (pR 64 0), some (pI x1), some (pI x2), some (pI x3), some (pI x4), none, some (pI x6)], [], (n, m)) := by
  intro x1 x2 x3 x4 x6 m h
  unfold s_X7_layers_L97 at h
  refine zrun hF [(.iconst 1, 1, pI 1)] 97 _ (by decide +kernel) ?_
  show zG w f 7 98 ([some (pR 64 0), some (pI x1), some (pI x2), some (pI x3), some (pI x4), none, some (pI x6)], [pI 1], (n, m))
  refine zgoto (tgt := 102) (pc := 98) hF (by decide +kernel) ?_
  exact m_X7_layers_L102 hl hF hR hk9 hk20 hk31 _ _ _ _ _ _ _  h

set_option maxHeartbeats 4000000 in
set_option maxRecDepth 100000 in
theorem m_X7_layers_L31 {w : zWd} {f : zFr} {n : zMem} {x : Int32} {m0 : zMem} {lc : Launch} (hl : f.2.1 = lc) (hF : zFOK w f 7 cX7_layers 7 5) (hR : zFin w f (some .int) (zQI w x (n, m0))) {k9 : Int32 → Int32 → Int32 → zMem → Option (Int32 × zMem)} (hk9 : ∀ (x1 : Int32) (x2 : Int32) (x3 : Int32) (m : zMem), k9 x1 x2 x3 m = some (x, m0) → zG w f 7 9 ([some (pR 64 0), some (pI x1), some (pI x2), some (pI x3), none, none, none], [], (n, m))) {k20 : Int32 → Int32 → Int32 → Int32 → Int32 → zMem → Option (Int32 × zMem)} (hk20 : ∀ (x1 : Int32) (x2 : Int32) (x3 : Int32) (x4 : Int32) (x5 : Int32) (m : zMem), k20 x1 x2 x3 x4 x5 m = some (x, m0) → zG w f 7 20 ([some (pR 64 0), some (pI x1), some (pI x2), some (pI x3), some (pI x4), some (pI x5), none], [], (n, m))) : ∀ (k : Nat) (x1 : Int32) (x2 : Int32) (x3 : Int32) (x4 : Int32) (x5 : Int32) (x6 : Int32) (m : zMem), s_X7_layers_L31 k9 k20 k x1 x2 x3 x4 x5 x6 m = some (x, m0) → zG w f 7 31 ([some (pR 64 0), some (pI x1), some (pI x2), some (pI x3), some (pI x4), some (pI x5), some (pI x6)], [], (n, m)) := by
  intro k
  induction k with
  | zero => intro x1 x2 x3 x4 x5 x6 m h; exact zno h
  | succ k ih =>
    intro x1 x2 x3 x4 x5 x6 m h
    unfold s_X7_layers_L31 at h
    refine zrun hF [(.iload 6, 2, pI 0), (.iload_n 3, 1, pI 0)] 31 _ (by decide +kernel) ?_
    show zG w f 7 34 ([some (pR 64 0), some (pI x1), some (pI x2), some (pI x3), some (pI x4), some (pI x5), some (pI x6)], [pI x3, pI x6], (n, m))
    refine zicmp_ge (tgt := 110) (pc := 34) hF (by decide +kernel) (fun b9 => ?_) (fun b9 => ?_)
    · replace h := zit b9 h
      refine zcut [true, true, true, true, true, true, false] ?_
      exact m_X7_layers_L110 hl hF hR hk9 hk20 _ _ _ _ _ _  h
    · replace h := zif b9 h
      refine zrun hF [(.iload 5, 2, pI 0)] 37 _ (by decide +kernel) ?_
      show zG w f 7 39 ([some (pR 64 0), some (pI x1), some (pI x2), some (pI x3), some (pI x4), some (pI x5), some (pI x6)], [pI x5], (n, m))
      refine zif_eq (tgt := 110) (pc := 39) hF (by decide +kernel) (fun b10 => ?_) (fun b10 => ?_)
      · replace h := zit b10 h
        refine zcut [true, true, true, true, true, true, false] ?_
        exact m_X7_layers_L110 hl hF hR hk9 hk20 _ _ _ _ _ _  h
      · replace h := zif b10 h
        obtain ⟨c11, h⟩ := zchk h
        refine zrun hF [(.aload_n 0, 1, pI 0), (.getfield 87, 3, pR 64 38), (.iload 6, 2, pI 0), (.iaload, 1, pI 0), (.iload 4, 2, pI 0)] 42 _ (by decide +kernel) ?_
        refine (And.intro rfl (And.intro rfl (And.intro rfl (And.intro rfl (And.intro c11 ?_)))))
        show zG w f 7 51 ([some (pR 64 0), some (pI x1), some (pI x2), some (pI x3), some (pI x4), some (pI x5), some (pI x6)], [pI x4, pI (m.1 87 0 (ix x6))], (n, m))
        refine zicmp_ne (tgt := 97) (pc := 51) hF (by decide +kernel) (fun b12 => ?_) (fun b12 => ?_)
        · replace h := zit b12 h
          refine zrun hF [(.aload_n 0, 1, pI 0), (.iload_n 3, 1, pI 0), (.iload 6, 2, pI 0)] 54 _ (by decide +kernel) ?_
          show zG w f 7 58 ([some (pR 64 0), some (pI x1), some (pI x2), some (pI x3), some (pI x4), some (pI x5), some (pI x6)], [pI x6, pI x3, pR 64 0], (n, m))
          obtain ⟨r14, q13, h⟩ := zr_k h
          refine zcallVI (pc := 58) (As := [pI x3, pI x6]) (st := []) (c := 64) (j := 0) hF (m_X7_isShared  q13) w_X7_isShared k_7_283 (by decide +kernel) rfl rfl rfl rfl rfl rfl rfl ?_
          refine zif_ne (tgt := 97) (pc := 61) hF (by decide +kernel) (fun b15 => ?_) (fun b15 => ?_)
          · replace h := zit b15 h
            obtain ⟨c16, h⟩ := zchk h
            refine zrun hF [(.aload_n 0, 1, pI 0), (.aload_n 0, 1, pI 0), (.getfield 69, 3, pR 64 28), (.iload_n 3, 1, pI 0), (.iaload, 1, pI 0), (.aload_n 0, 1, pI 0), (.getfield 72, 3, pR 64 29), (.iload_n 3, 1, pI 0), (.iaload, 1, pI 0), (.aload_n 0, 1, pI 0), (.getfield 69, 3, pR 64 28), (.iload 6, 2, pI 0), (.iaload, 1, pI 0), (.aload_n 0, 1, pI 0), (.getfield 72, 3, pR 64 29), (.iload 6, 2, pI 0), (.iaload, 1, pI 0)] 64 _ (by decide +kernel) ?_
            refine (And.intro rfl (And.intro rfl (And.intro rfl (And.intro rfl (And.intro c16 (And.intro rfl (And.intro rfl (And.intro rfl (And.intro rfl (And.intro c16 (And.intro rfl (And.intro rfl (And.intro rfl (And.intro rfl (And.intro c11 (And.intro rfl (And.intro rfl (And.intro rfl (And.intro rfl (And.intro c11 ?_))))))))))))))))))))
            show zG w f 7 91 ([some (pR 64 0), some (pI x1), some (pI x2), some (pI x3), some (pI x4), some (pI x5), some (pI x6)], [pI (m.1 82 0 (ix x6)), pI (m.1 81 0 (ix x6)), pI (m.1 82 0 (ix x3)), pI (m.1 81 0 (ix x3)), pR 64 0], (n, m))
            obtain ⟨r18, q17, h⟩ := zr_k h
            refine zcallVI (pc := 91) (As := [pI (m.1 81 0 (ix x3)), pI (m.1 82 0 (ix x3)), pI (m.1 81 0 (ix x6)), pI (m.1 82 0 (ix x6))]) (st := []) (c := 64) (j := 0) hF (m_X7_crosses  q17) w_X7_crosses k_7_215 (by decide +kernel) rfl rfl rfl rfl rfl rfl rfl ?_
            refine zif_ne (tgt := 101) (pc := 94) hF (by decide +kernel) (fun b19 => ?_) (fun b19 => ?_)
            · replace h := zit b19 h
              refine zcut [true, true, true, true, true, false, true] ?_
              exact m_X7_layers_L97 hl hF hR hk9 hk20 ih _ _ _ _ _ _  h
            · replace h := zif b19 h
              refine zrun hF [(.iconst 0, 1, pI 0)] 101 _ (by decide +kernel) ?_
              show zG w f 7 102 ([some (pR 64 0), some (pI x1), some (pI x2), some (pI x3), some (pI x4), some (pI x5), some (pI x6)], [pI 0], (n, m))
              refine zcut [true, true, true, true, true, false, true] ?_
              exact m_X7_layers_L102 hl hF hR hk9 hk20 ih _ _ _ _ _ _ _  h
          · replace h := zif b15 h
            refine zcut [true, true, true, true, true, false, true] ?_
            exact m_X7_layers_L97 hl hF hR hk9 hk20 ih _ _ _ _ _ _  h
        · replace h := zif b12 h
          refine zcut [true, true, true, true, true, false, true] ?_
          exact m_X7_layers_L97 hl hF hR hk9 hk20 ih _ _ _ _ _ _  h

set_option maxHeartbeats 4000000 in
set_option maxRecDepth 100000 in
theorem m_X7_layers_L145 {w : zWd} {f : zFr} {n : zMem} {x : Int32} {m0 : zMem} {lc : Launch} (hl : f.2.1 = lc) (hF : zFOK w f 7 cX7_layers 7 5) (hR : zFin w f (some .int) (zQI w x (n, m0))) {k9 : Int32 → Int32 → Int32 → zMem → Option (Int32 × zMem)} (hk9 : ∀ (x1 : Int32) (x2 : Int32) (x3 : Int32) (m : zMem), k9 x1 x2 x3 m = some (x, m0) → zG w f 7 9 ([some (pR 64 0), some (pI x1), some (pI x2), some (pI x3), none, none, none], [], (n, m))) : ∀ (x1 : Int32) (x3 : Int32) (y0 : Int32) (m : zMem), s_X7_layers_L145 k9 x1 x3 y0 m = some (x, m0) → zG w f 7 145 ([some (pR 64 0), some (pI x1), none, some (pI x3), none, none, none], [pI y0], (n, m)) := by
  intro x1 x3 y0 m h
  unfold s_X7_layers_L145 at h
  refine zrun hF [(.istore_n 2, 1, pI 0), (.iinc 3 1, 3, pI 1)] 145 _ (by decide +kernel) ?_
  refine (And.intro rfl (And.intro rfl ?_))
  show zG w f 7 149 ([some (pR 64 0), some (pI x1), some (pI y0), some (pI (x3 + 1)), none, none, none], [], (n, m))
  refine zgoto (tgt := 9) (pc := 149) hF (by decide +kernel) ?_
  exact hk9 _ _ _ _  h

set_option maxHeartbeats 4000000 in
set_option maxRecDepth 100000 in
theorem m_X7_layers_L20 {w : zWd} {f : zFr} {n : zMem} {x : Int32} {m0 : zMem} {lc : Launch} (hl : f.2.1 = lc) (hF : zFOK w f 7 cX7_layers 7 5) (hR : zFin w f (some .int) (zQI w x (n, m0))) {k9 : Int32 → Int32 → Int32 → zMem → Option (Int32 × zMem)} (hk9 : ∀ (x1 : Int32) (x2 : Int32) (x3 : Int32) (m : zMem), k9 x1 x2 x3 m = some (x, m0) → zG w f 7 9 ([some (pR 64 0), some (pI x1), some (pI x2), some (pI x3), none, none, none], [], (n, m))) : ∀ (k : Nat) (x1 : Int32) (x2 : Int32) (x3 : Int32) (x4 : Int32) (x5 : Int32) (m : zMem), s_X7_layers_L20 k9 k x1 x2 x3 x4 x5 m = some (x, m0) → zG w f 7 20 ([some (pR 64 0), some (pI x1), some (pI x2), some (pI x3), some (pI x4), some (pI x5), none], [], (n, m)) := by
  intro k
  induction k with
  | zero => intro x1 x2 x3 x4 x5 m h; exact zno h
  | succ k ih =>
    intro x1 x2 x3 x4 x5 m h
    unfold s_X7_layers_L20 at h
    refine zrun hF [(.iload 5, 2, pI 0)] 20 _ (by decide +kernel) ?_
    show zG w f 7 22 ([some (pR 64 0), some (pI x1), some (pI x2), some (pI x3), some (pI x4), some (pI x5), none], [pI x5], (n, m))
    refine zif_ne (tgt := 121) (pc := 22) hF (by decide +kernel) (fun b5 => ?_) (fun b5 => ?_)
    · replace h := zit b5 h
      refine zrun hF [(.iconst 1, 1, pI 1), (.istore 5, 2, pI 0), (.iconst 0, 1, pI 0), (.istore 6, 2, pI 0)] 25 _ (by decide +kernel) ?_
      refine (And.intro rfl (And.intro rfl ?_))
      show zG w f 7 31 ([some (pR 64 0), some (pI x1), some (pI x2), some (pI x3), some (pI x4), some (pI 1), some (pI 0)], [], (n, m))
      exact m_X7_layers_L31 hl hF hR hk9 ih zF _ _ _ _ _ _ _  h
    · replace h := zif b5 h
      obtain ⟨c6, h⟩ := zchk h
      refine zrun hF [(.aload_n 0, 1, pI 0), (.getfield 87, 3, pR 64 38), (.iload_n 3, 1, pI 0), (.iload 4, 2, pI 0), (.iastore, 1, pI 0)] 121 _ (by decide +kernel) ?_
      refine (And.intro rfl (And.intro rfl (And.intro rfl (And.intro rfl (And.intro c6 ?_)))))
      refine zlet_k (P := fun (m7 : zMem) => zG w f 7 129 ([some (pR 64 0), some (pI x1), some (pI x2), some (pI x3), some (pI x4), some (pI x5), none], [], (n, m7))) h (fun m7 h => ?_)
      refine zrun hF [(.iload 4, 2, pI 0), (.iconst 1, 1, pI 1), (.iadd, 1, pI 0), (.iload_n 2, 1, pI 0)] 129 _ (by decide +kernel) ?_
      show zG w f 7 134 ([some (pR 64 0), some (pI x1), some (pI x2), some (pI x3), some (pI x4), some (pI x5), none], [pI x2, pI (x4 + 1)], (n, m7))
      refine zicmp_le (tgt := 144) (pc := 134) hF (by decide +kernel) (fun b8 => ?_) (fun b8 => ?_)
      · replace h := zit b8 h
        refine zrun hF [(.iload_n 2, 1, pI 0)] 144 _ (by decide +kernel) ?_
        show zG w f 7 145 ([some (pR 64 0), some (pI x1), some (pI x2), some (pI x3), some (pI x4), some (pI x5), none], [pI x2], (n, m7))
        refine zcut [true, true, false, true, false, false, true] ?_
        exact m_X7_layers_L145 hl hF hR hk9 _ _ _ _  h
      · replace h := zif b8 h
        refine zrun hF [(.iload 4, 2, pI 0), (.iconst 1, 1, pI 1), (.iadd, 1, pI 0)] 137 _ (by decide +kernel) ?_
        show zG w f 7 141 ([some (pR 64 0), some (pI x1), some (pI x2), some (pI x3), some (pI x4), some (pI x5), none], [pI (x4 + 1)], (n, m7))
        refine zgoto (tgt := 145) (pc := 141) hF (by decide +kernel) ?_
        refine zcut [true, true, false, true, false, false, true] ?_
        exact m_X7_layers_L145 hl hF hR hk9 _ _ _ _  h

set_option maxHeartbeats 4000000 in
set_option maxRecDepth 100000 in
theorem m_X7_layers_L9 {w : zWd} {f : zFr} {n : zMem} {x : Int32} {m0 : zMem} {lc : Launch} (hl : f.2.1 = lc) (hF : zFOK w f 7 cX7_layers 7 5) (hR : zFin w f (some .int) (zQI w x (n, m0))) : ∀ (k : Nat) (x1 : Int32) (x2 : Int32) (x3 : Int32) (m : zMem), s_X7_layers_L9 k x1 x2 x3 m = some (x, m0) → zG w f 7 9 ([some (pR 64 0), some (pI x1), some (pI x2), some (pI x3), none, none, none], [], (n, m)) := by
  intro k
  induction k with
  | zero => intro x1 x2 x3 m h; exact zno h
  | succ k ih =>
    intro x1 x2 x3 m h
    unfold s_X7_layers_L9 at h
    refine zrun hF [(.iload_n 3, 1, pI 0), (.iload_n 1, 1, pI 0)] 9 _ (by decide +kernel) ?_
    show zG w f 7 11 ([some (pR 64 0), some (pI x1), some (pI x2), some (pI x3), none, none, none], [pI x1, pI x3], (n, m))
    refine zicmp_ge (tgt := 152) (pc := 11) hF (by decide +kernel) (fun b4 => ?_) (fun b4 => ?_)
    · replace h := zit b4 h
      refine zrun hF [(.iload_n 2, 1, pI 0)] 152 _ (by decide +kernel) ?_
      show zG w f 7 153 ([some (pR 64 0), some (pI x1), some (pI x2), some (pI x3), none, none, none], [pI x2], (n, m))
      exact zretI (pc := 153) hF hR (by decide +kernel) rfl (congrArg Prod.fst (Option.some.inj h)) (congrArg (fun (q : Int32 × zMem) => (n, q.2)) (Option.some.inj h))
    · replace h := zif b4 h
      refine zrun hF [(.iconst 0, 1, pI 0), (.istore 4, 2, pI 0), (.iconst 0, 1, pI 0), (.istore 5, 2, pI 0)] 14 _ (by decide +kernel) ?_
      refine (And.intro rfl (And.intro rfl ?_))
      show zG w f 7 20 ([some (pR 64 0), some (pI x1), some (pI x2), some (pI x3), some (pI 0), some (pI 0), none], [], (n, m))
      exact m_X7_layers_L20 hl hF hR ih zF _ _ _ _ _ _  h

set_option maxHeartbeats 4000000 in
set_option maxRecDepth 100000 in
theorem m_X7_layers {w : zWd} {lc : Launch} {n : zMem}  {m : zMem} {x : Int32} {m0 : zMem}  (h : s_X7_layers m = some (x, m0)) : zMet w lc 5 yX7_layers cX7_layers 7 (some .int) [pR 64 0] (n, m) (zQI w x (n, m0)) := by
  refine zmet (o := 7) (by decide +kernel) rfl (Nat.le_of_ble_eq_true rfl) rfl (fun f hl hF hR => ?_)
  unfold s_X7_layers at h
  show zG w f 7 0 ([some (pR 64 0), none, none, none, none, none, none], [], (n, m))
  refine zrun hF [(.aload_n 0, 1, pI 0)] 0 _ (by decide +kernel) ?_
  show zG w f 7 1 ([some (pR 64 0), none, none, none, none, none, none], [pR 64 0], (n, m))
  obtain ⟨r2, m3, q1, h⟩ := zb_k h
  refine zcallVI (pc := 1) (As := []) (st := []) (c := 64) (j := 0) hF (m_X7_lists  q1) w_X7_lists k_7_225 (by decide +kernel) rfl rfl rfl rfl rfl rfl rfl ?_
  refine zrun hF [(.istore_n 1, 1, pI 0), (.iconst 0, 1, pI 0), (.istore_n 2, 1, pI 0), (.iconst 0, 1, pI 0), (.istore_n 3, 1, pI 0)] 4 _ (by decide +kernel) ?_
  refine (And.intro rfl (And.intro rfl (And.intro rfl ?_)))
  show zG w f 7 9 ([some (pR 64 0), some (pI r2), some (pI 0), some (pI 0), none, none, none], [], (n, m3))
  exact m_X7_layers_L9 hl hF hR  zF _ _ _ _  h

set_option maxHeartbeats 4000000 in
set_option maxRecDepth 100000 in
theorem m_X5_clinkUncounted {w : zWd} {lc : Launch} {n : zMem} {t : Nat} {a1 : Int32} {a2 : Int32} {m : zMem} {m0 : zMem} (ht : Nat.blt t 3 = true) (h : s_X5_clinkUncounted t a1 a2 m = some m0) : zMet w lc 3 yX5_clinkUncounted cX5_clinkUncounted 3 none [pR 1 t, pI a1, pI a2] (m, n) (zQV w (m0, n)) := by
  refine zmet (o := 5) (by decide +kernel) rfl (Nat.le_of_ble_eq_true rfl) rfl (fun f hl hF hR => ?_)
  unfold s_X5_clinkUncounted at h
  show zG w f 3 0 ([some (pR 1 t), some (pI a1), some (pI a2)], [], (m, n))
  refine zrun hF [(.aload_n 0, 1, pI 0), (.aload_n 0, 1, pI 0), (.getfield 24, 3, pR 1 4), (.iload_n 1, 1, pI 0), (.iload_n 2, 1, pI 0), (.iconst 1, 1, pI 1)] 0 _ (by decide +kernel) ?_
  refine (And.intro rfl (And.intro ht ?_))
  show zG w f 3 8 ([some (pR 1 t), some (pI a1), some (pI a2)], [pI 1, pI a2, pI a1, pR 6 t, pR 1 t], (m, n))
  obtain ⟨r2, m3, q1, h⟩ := zb_k h
  refine zcallVI (pc := 8) (As := [pR 6 t, pI a1, pI a2, pI 1]) (st := []) (c := 1) (j := t) hF (m_X5_mark_6 ht ht q1) w_X5_mark k_5_117 (by decide +kernel) rfl ht rfl rfl rfl rfl rfl ?_
  refine zrun hF [(.pop, 1, pI 0), (.aload_n 0, 1, pI 0), (.dup, 1, pI 0), (.getfield 37, 3, pR 1 8), (.iconst 1, 1, pI 1), (.iadd, 1, pI 0), (.putfield 37, 3, pR 1 8)] 11 _ (by decide +kernel) ?_
  refine (And.intro rfl (And.intro rfl (And.intro rfl (And.intro ht (And.intro rfl (And.intro ht (And.intro trivial ?_)))))))
  refine zlet_k (P := fun (m4 : zMem) => zG w f 3 22 ([some (pR 1 t), some (pI a1), some (pI a2)], [], (m4, n))) h (fun m4 h => ?_)
  exact zretV (pc := 22) hF hR (by decide +kernel) (congrArg (fun q => (q, n)) (Option.some.inj h))

set_option maxHeartbeats 4000000 in
set_option maxRecDepth 100000 in
theorem m_X5_clinkAlone {w : zWd} {lc : Launch} {n : zMem} {t : Nat} {a1 : Int32} {a2 : Int32} {m : zMem} {m0 : zMem} (ht : Nat.blt t 3 = true) (h : s_X5_clinkAlone t a1 a2 m = some m0) : zMet w lc 4 yX5_clinkAlone cX5_clinkAlone 3 none [pR 1 t, pI a1, pI a2] (m, n) (zQV w (m0, n)) := by
  refine zmet (o := 5) (by decide +kernel) rfl (Nat.le_of_ble_eq_true rfl) rfl (fun f hl hF hR => ?_)
  unfold s_X5_clinkAlone at h
  show zG w f 3 0 ([some (pR 1 t), some (pI a1), some (pI a2)], [], (m, n))
  refine zrun hF [(.aload_n 0, 1, pI 0), (.dup, 1, pI 0), (.getfield 40, 3, pR 1 9), (.aload_n 0, 1, pI 0), (.iload_n 1, 1, pI 0), (.iload_n 2, 1, pI 0)] 0 _ (by decide +kernel) ?_
  refine (And.intro rfl (And.intro rfl (And.intro ht ?_)))
  show zG w f 3 8 ([some (pR 1 t), some (pI a1), some (pI a2)], [pI a2, pI a1, pR 1 t, pI (m.1 1 t 9), pR 1 t], (m, n))
  obtain ⟨r2, q1, h⟩ := zr_k h
  refine zcallVI (pc := 8) (As := [pI a1, pI a2]) (st := [pI (m.1 1 t 9), pR 1 t]) (c := 1) (j := t) hF (m_X5_secondsOf ht q1) w_X5_secondsOf k_5_110 (by decide +kernel) rfl ht rfl rfl rfl rfl rfl ?_
  refine zrun hF [(.iadd, 1, pI 0), (.putfield 40, 3, pR 1 9)] 11 _ (by decide +kernel) ?_
  refine (And.intro rfl (And.intro ht (And.intro trivial ?_)))
  refine zlet_k (P := fun (m3 : zMem) => zG w f 3 15 ([some (pR 1 t), some (pI a1), some (pI a2)], [], (m3, n))) h (fun m3 h => ?_)
  refine zrun hF [(.aload_n 0, 1, pI 0), (.iload_n 1, 1, pI 0), (.iload_n 2, 1, pI 0)] 15 _ (by decide +kernel) ?_
  show zG w f 3 18 ([some (pR 1 t), some (pI a1), some (pI a2)], [pI a2, pI a1, pR 1 t], (m3, n))
  obtain ⟨m6, q4, h⟩ := zr_k h
  refine zcallVV (pc := 18) (As := [pI a1, pI a2]) (st := []) (c := 1) (j := t) hF (m_X5_clinkUncounted ht q4) w_X5_clinkUncounted k_5_113 (by decide +kernel) rfl ht rfl rfl rfl rfl rfl ?_
  exact zretV (pc := 21) hF hR (by decide +kernel) (congrArg (fun q => (q, n)) (Option.some.inj h))

set_option maxHeartbeats 4000000 in
set_option maxRecDepth 100000 in
theorem m_X6_clink {w : zWd} {lc : Launch} {n : zMem} {a1 : Int32} {a2 : Int32} {m : zMem} {x : Int32} {m0 : zMem}  (h : s_X6_clink a1 a2 m = some (x, m0)) : zMet w lc 5 yX6_clink cX6_clink 4 (some .int) [pR 0 0, pI a1, pI a2] (m, n) (zQI w x (m0, n)) := by
  refine zmet (o := 6) (by decide +kernel) rfl (Nat.le_of_ble_eq_true rfl) rfl (fun f hl hF hR => ?_)
  unfold s_X6_clink at h
  show zG w f 4 0 ([some (pR 0 0), some (pI a1), some (pI a2), none], [], (m, n))
  refine zrun hF [(.aload_n 0, 1, pI 0), (.iload_n 1, 1, pI 0), (.iload_n 2, 1, pI 0)] 0 _ (by decide +kernel) ?_
  show zG w f 4 3 ([some (pR 0 0), some (pI a1), some (pI a2), none], [pI a2, pI a1, pR 0 0], (m, n))
  obtain ⟨r2, q1, h⟩ := zr_k h
  refine zcallVI (pc := 3) (As := [pI a1, pI a2]) (st := []) (c := 0) (j := 0) hF (m_X6_refusalOfPair  q1) w_X6_refusalOfPair k_6_169 (by decide +kernel) rfl rfl rfl rfl rfl rfl rfl ?_
  refine zrun hF [(.istore_n 3, 1, pI 0), (.iload_n 3, 1, pI 0)] 6 _ (by decide +kernel) ?_
  refine (And.intro rfl ?_)
  show zG w f 4 8 ([some (pR 0 0), some (pI a1), some (pI a2), some (pI r2)], [pI r2], (m, n))
  refine zif_eq (tgt := 17) (pc := 8) hF (by decide +kernel) (fun b3 => ?_) (fun b3 => ?_)
  · replace h := zit b3 h
    refine zrun hF [(.aload_n 0, 1, pI 0), (.getfield 10, 3, pR 0 0), (.iload_n 1, 1, pI 0), (.iload_n 2, 1, pI 0)] 17 _ (by decide +kernel) ?_
    refine (And.intro rfl (And.intro rfl ?_))
    show zG w f 4 23 ([some (pR 0 0), some (pI a1), some (pI a2), some (pI r2)], [pI a2, pI a1, pR 1 0], (m, n))
    obtain ⟨r5, q4, h⟩ := zr_k h
    refine zcallVI (pc := 23) (As := [pI a1, pI a2]) (st := []) (c := 1) (j := 0) hF (m_X5_isWanted rfl q4) w_X5_isWanted k_6_314 (by decide +kernel) rfl rfl rfl rfl rfl rfl rfl ?_
    refine zif_ne (tgt := 36) (pc := 26) hF (by decide +kernel) (fun b6 => ?_) (fun b6 => ?_)
    · replace h := zit b6 h
      refine zrun hF [(.aload_n 0, 1, pI 0), (.bipush (-6), 2, pI (-6))] 29 _ (by decide +kernel) ?_
      show zG w f 4 32 ([some (pR 0 0), some (pI a1), some (pI a2), some (pI r2)], [pI (-6), pR 0 0], (m, n))
      obtain ⟨r8, m9, q7, h⟩ := zb_k h
      refine zcallVI (pc := 32) (As := [pI (-6)]) (st := []) (c := 0) (j := 0) hF (m_X6_refuse  q7) w_X6_refuse k_6_73 (by decide +kernel) rfl rfl rfl rfl rfl rfl rfl ?_
      exact zretI (pc := 35) hF hR (by decide +kernel) rfl (congrArg Prod.fst (Option.some.inj h)) (congrArg (fun (q : Int32 × zMem) => (q.2, n)) (Option.some.inj h))
    · replace h := zif b6 h
      refine zrun hF [(.aload_n 0, 1, pI 0), (.getfield 10, 3, pR 0 0), (.iload_n 1, 1, pI 0), (.iload_n 2, 1, pI 0)] 36 _ (by decide +kernel) ?_
      refine (And.intro rfl (And.intro rfl ?_))
      show zG w f 4 42 ([some (pR 0 0), some (pI a1), some (pI a2), some (pI r2)], [pI a2, pI a1, pR 1 0], (m, n))
      obtain ⟨m12, q10, h⟩ := zr_k h
      refine zcallVV (pc := 42) (As := [pI a1, pI a2]) (st := []) (c := 1) (j := 0) hF (m_X5_clinkAlone rfl q10) w_X5_clinkAlone k_6_317 (by decide +kernel) rfl rfl rfl rfl rfl rfl rfl ?_
      refine zrun hF [(.aload_n 0, 1, pI 0), (.getfield 10, 3, pR 0 0)] 45 _ (by decide +kernel) ?_
      refine (And.intro rfl (And.intro rfl ?_))
      show zG w f 4 49 ([some (pR 0 0), some (pI a1), some (pI a2), some (pI r2)], [pR 1 0], (m12, n))
      obtain ⟨r14, q13, h⟩ := zr_k h
      refine zcallVI (pc := 49) (As := []) (st := []) (c := 1) (j := 0) hF (m_X5_wantedPairs rfl q13) w_X5_wantedPairs k_6_320 (by decide +kernel) rfl rfl rfl rfl rfl rfl rfl ?_
      exact zretI (pc := 52) hF hR (by decide +kernel) rfl (congrArg Prod.fst (Option.some.inj h)) (congrArg (fun (q : Int32 × zMem) => (q.2, n)) (Option.some.inj h))
  · replace h := zif b3 h
    refine zrun hF [(.aload_n 0, 1, pI 0), (.iload_n 3, 1, pI 0)] 11 _ (by decide +kernel) ?_
    show zG w f 4 13 ([some (pR 0 0), some (pI a1), some (pI a2), some (pI r2)], [pI r2, pR 0 0], (m, n))
    obtain ⟨r16, m17, q15, h⟩ := zb_k h
    refine zcallVI (pc := 13) (As := [pI r2]) (st := []) (c := 0) (j := 0) hF (m_X6_refuse  q15) w_X6_refuse k_6_73 (by decide +kernel) rfl rfl rfl rfl rfl rfl rfl ?_
    exact zretI (pc := 16) hF hR (by decide +kernel) rfl (congrArg Prod.fst (Option.some.inj h)) (congrArg (fun (q : Int32 × zMem) => (q.2, n)) (Option.some.inj h))

set_option maxHeartbeats 4000000 in
set_option maxRecDepth 100000 in
theorem m_X7_clinks {w : zWd} {lc : Launch} {n : zMem} {a1 : Int32} {a2 : Int32} {m : zMem} {m0 : zMem}  (h : s_X7_clinks a1 a2 m = some m0) : zMet w lc 3 yX7_clinks cX7_clinks 3 none [pR 64 0, pI a1, pI a2] (n, m) (zQV w (n, m0)) := by
  refine zmet (o := 7) (by decide +kernel) rfl (Nat.le_of_ble_eq_true rfl) rfl (fun f hl hF hR => ?_)
  unfold s_X7_clinks at h
  show zG w f 3 0 ([some (pR 64 0), some (pI a1), some (pI a2)], [], (n, m))
  refine zrun hF [(.aload_n 0, 1, pI 0), (.aload_n 0, 1, pI 0), (.getfield 35, 3, pR 64 12), (.iload_n 1, 1, pI 0), (.iload_n 2, 1, pI 0), (.iconst 1, 1, pI 1)] 0 _ (by decide +kernel) ?_
  refine (And.intro rfl (And.intro rfl ?_))
  show zG w f 3 8 ([some (pR 64 0), some (pI a1), some (pI a2)], [pI 1, pI a2, pI a1, pR 70 0, pR 64 0], (n, m))
  obtain ⟨r2, m3, q1, h⟩ := zb_k h
  refine zcallVI (pc := 8) (As := [pR 70 0, pI a1, pI a2, pI 1]) (st := []) (c := 64) (j := 0) hF (m_X7_puts_70  q1) w_X7_puts k_7_137 (by decide +kernel) rfl rfl rfl rfl rfl rfl rfl ?_
  refine zrun hF [(.pop, 1, pI 0), (.aload_n 0, 1, pI 0), (.dup, 1, pI 0), (.getfield 183, 3, pR 64 3), (.iconst 1, 1, pI 1), (.iadd, 1, pI 0), (.putfield 183, 3, pR 64 3)] 11 _ (by decide +kernel) ?_
  refine (And.intro rfl (And.intro rfl (And.intro rfl (And.intro rfl (And.intro rfl (And.intro rfl (And.intro trivial ?_)))))))
  refine zlet_k (P := fun (m4 : zMem) => zG w f 3 22 ([some (pR 64 0), some (pI a1), some (pI a2)], [], (n, m4))) h (fun m4 h => ?_)
  refine zrun hF [(.aload_n 0, 1, pI 0), (.dup, 1, pI 0), (.getfield 186, 3, pR 64 4), (.aload_n 0, 1, pI 0), (.iload_n 1, 1, pI 0), (.iload_n 2, 1, pI 0)] 22 _ (by decide +kernel) ?_
  refine (And.intro rfl (And.intro rfl (And.intro rfl ?_)))
  show zG w f 3 30 ([some (pR 64 0), some (pI a1), some (pI a2)], [pI a2, pI a1, pR 64 0, pI (m4.1 64 0 4), pR 64 0], (n, m4))
  obtain ⟨r6, q5, h⟩ := zr_k h
  refine zcallVI (pc := 30) (As := [pI a1, pI a2]) (st := [pI (m4.1 64 0 4), pR 64 0]) (c := 64) (j := 0) hF (m_X7_takesOf  q5) w_X7_takesOf k_7_212 (by decide +kernel) rfl rfl rfl rfl rfl rfl rfl ?_
  refine zrun hF [(.iadd, 1, pI 0), (.putfield 186, 3, pR 64 4)] 33 _ (by decide +kernel) ?_
  refine (And.intro rfl (And.intro rfl (And.intro trivial ?_)))
  refine zlet_k (P := fun (m7 : zMem) => zG w f 3 37 ([some (pR 64 0), some (pI a1), some (pI a2)], [], (n, m7))) h (fun m7 h => ?_)
  exact zretV (pc := 37) hF hR (by decide +kernel) (congrArg (fun q => (n, q)) (Option.some.inj h))

set_option maxHeartbeats 4000000 in
set_option maxRecDepth 100000 in
theorem m_X7_clink_L23 {w : zWd} {f : zFr} {n : zMem} {x : Int32} {m0 : zMem} {lc : Launch} (hl : f.2.1 = lc) (hF : zFOK w f 7 cX7_clink 4 5) (hR : zFin w f (some .int) (zQI w x (n, m0))) : ∀ (x1 : Int32) (x2 : Int32) (x3 : Int32) (m : zMem), s_X7_clink_L23 x1 x2 x3 m = some (x, m0) → zG w f 4 23 ([some (pR 64 0), some (pI x1), some (pI x2), some (pI x3)], [], (n, m)) := by
  intro x1 x2 x3 m h
  unfold s_X7_clink_L23 at h
  refine zrun hF [(.iload_n 3, 1, pI 0)] 23 _ (by decide +kernel) ?_
  show zG w f 4 24 ([some (pR 64 0), some (pI x1), some (pI x2), some (pI x3)], [pI x3], (n, m))
  refine zif_eq (tgt := 33) (pc := 24) hF (by decide +kernel) (fun b7 => ?_) (fun b7 => ?_)
  · replace h := zit b7 h
    refine zrun hF [(.aload_n 0, 1, pI 0), (.iload_n 1, 1, pI 0), (.iload_n 2, 1, pI 0)] 33 _ (by decide +kernel) ?_
    show zG w f 4 36 ([some (pR 64 0), some (pI x1), some (pI x2), some (pI x3)], [pI x2, pI x1, pR 64 0], (n, m))
    obtain ⟨m10, q8, h⟩ := zr_k h
    refine zcallVV (pc := 36) (As := [pI x1, pI x2]) (st := []) (c := 64) (j := 0) hF (m_X7_clinks  q8) w_X7_clinks k_7_286 (by decide +kernel) rfl rfl rfl rfl rfl rfl rfl ?_
    refine zrun hF [(.aload_n 0, 1, pI 0)] 39 _ (by decide +kernel) ?_
    show zG w f 4 40 ([some (pR 64 0), some (pI x1), some (pI x2), some (pI x3)], [pR 64 0], (n, m10))
    obtain ⟨r12, m13, q11, h⟩ := zb_k h
    refine zcallVI (pc := 40) (As := []) (st := []) (c := 64) (j := 0) hF (m_X7_lists  q11) w_X7_lists k_7_225 (by decide +kernel) rfl rfl rfl rfl rfl rfl rfl ?_
    exact zretI (pc := 43) hF hR (by decide +kernel) rfl (congrArg Prod.fst (Option.some.inj h)) (congrArg (fun (q : Int32 × zMem) => (n, q.2)) (Option.some.inj h))
  · replace h := zif b7 h
    refine zrun hF [(.aload_n 0, 1, pI 0), (.iload_n 3, 1, pI 0)] 27 _ (by decide +kernel) ?_
    show zG w f 4 29 ([some (pR 64 0), some (pI x1), some (pI x2), some (pI x3)], [pI x3, pR 64 0], (n, m))
    obtain ⟨r15, m16, q14, h⟩ := zb_k h
    refine zcallVI (pc := 29) (As := [pI x3]) (st := []) (c := 64) (j := 0) hF (m_X7_no  q14) w_X7_no k_7_100 (by decide +kernel) rfl rfl rfl rfl rfl rfl rfl ?_
    exact zretI (pc := 32) hF hR (by decide +kernel) rfl (congrArg Prod.fst (Option.some.inj h)) (congrArg (fun (q : Int32 × zMem) => (n, q.2)) (Option.some.inj h))

set_option maxHeartbeats 4000000 in
set_option maxRecDepth 100000 in
theorem m_X7_clink {w : zWd} {lc : Launch} {n : zMem} {a1 : Int32} {a2 : Int32} {m : zMem} {x : Int32} {m0 : zMem}  (h : s_X7_clink a1 a2 m = some (x, m0)) : zMet w lc 5 yX7_clink cX7_clink 4 (some .int) [pR 64 0, pI a1, pI a2] (n, m) (zQI w x (n, m0)) := by
  refine zmet (o := 7) (by decide +kernel) rfl (Nat.le_of_ble_eq_true rfl) rfl (fun f hl hF hR => ?_)
  unfold s_X7_clink at h
  show zG w f 4 0 ([some (pR 64 0), some (pI a1), some (pI a2), none], [], (n, m))
  refine zrun hF [(.aload_n 0, 1, pI 0), (.iload_n 1, 1, pI 0), (.iload_n 2, 1, pI 0)] 0 _ (by decide +kernel) ?_
  show zG w f 4 3 ([some (pR 64 0), some (pI a1), some (pI a2), none], [pI a2, pI a1, pR 64 0], (n, m))
  obtain ⟨r2, q1, h⟩ := zr_k h
  refine zcallVI (pc := 3) (As := [pI a1, pI a2]) (st := []) (c := 64) (j := 0) hF (m_X7_pair  q1) w_X7_pair k_7_133 (by decide +kernel) rfl rfl rfl rfl rfl rfl rfl ?_
  refine zrun hF [(.istore_n 3, 1, pI 0), (.iload_n 3, 1, pI 0)] 6 _ (by decide +kernel) ?_
  refine (And.intro rfl ?_)
  show zG w f 4 8 ([some (pR 64 0), some (pI a1), some (pI a2), some (pI r2)], [pI r2], (n, m))
  refine zif_ne (tgt := 23) (pc := 8) hF (by decide +kernel) (fun b3 => ?_) (fun b3 => ?_)
  · replace h := zit b3 h
    refine zrun hF [(.aload_n 0, 1, pI 0), (.iload_n 1, 1, pI 0), (.iload_n 2, 1, pI 0)] 11 _ (by decide +kernel) ?_
    show zG w f 4 14 ([some (pR 64 0), some (pI a1), some (pI a2), some (pI r2)], [pI a2, pI a1, pR 64 0], (n, m))
    obtain ⟨r5, q4, h⟩ := zr_k h
    refine zcallVI (pc := 14) (As := [pI a1, pI a2]) (st := []) (c := 64) (j := 0) hF (m_X7_isWanted  q4) w_X7_isWanted k_7_219 (by decide +kernel) rfl rfl rfl rfl rfl rfl rfl ?_
    refine zif_ne (tgt := 23) (pc := 17) hF (by decide +kernel) (fun b6 => ?_) (fun b6 => ?_)
    · replace h := zit b6 h
      refine zrun hF [(.bipush (-6), 2, pI (-6)), (.istore_n 3, 1, pI 0)] 20 _ (by decide +kernel) ?_
      refine (And.intro rfl ?_)
      show zG w f 4 23 ([some (pR 64 0), some (pI a1), some (pI a2), some (pI (-6))], [], (n, m))
      exact m_X7_clink_L23 hl hF hR  _ _ _ _  h
    · replace h := zif b6 h
      exact m_X7_clink_L23 hl hF hR  _ _ _ _  h
  · replace h := zif b3 h
    exact m_X7_clink_L23 hl hF hR  _ _ _ _  h

