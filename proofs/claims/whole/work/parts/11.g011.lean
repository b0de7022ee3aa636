set_option maxHeartbeats 4000000 in
set_option maxRecDepth 100000 in
theorem m_X7_isSo_L189 {w : zWd} {f : zFr} {n : zMem} {x : Int32} {lc : Launch} {mr : zMem} (hl : f.2.1 = lc) (hF : zFOK w f 7 cX7_isSo 3 3) (hR : zFin w f (some .boolean) (zQI w x (n, mr))) : ∀ (m : zMem), m = mr → s_X7_isSo_L189 m = some x → zG w f 3 189 ([none, none, none], [], (n, m)) := by
  intro m hm h
  unfold s_X7_isSo_L189 at h
  refine zrun hF [(.iconst 1, 1, pI 1)] 189 _ (by decide +kernel) ?_
  show zG w f 3 190 ([none, none, none], [pI 1], (n, m))
  refine zgoto (tgt := 194) (pc := 190) hF (by decide +kernel) ?_
  exact zretI (pc := 194) hF hR (by decide +kernel) (by decide +kernel) (Option.some.inj h) (congrArg (fun q => (n, q)) hm)

set_option maxHeartbeats 4000000 in
set_option maxRecDepth 100000 in
theorem m_X7_isSo {w : zWd} {lc : Launch} {n : zMem} {a1 : Int32} {a2 : Int32} {m : zMem} {x : Int32}  (h : s_X7_isSo a1 a2 m = some x) : zMet w lc 3 yX7_isSo cX7_isSo 3 (some .boolean) [pR 64 0, pI a1, pI a2] (n, m) (zQI w x (n, m)) := by
  refine zmet (o := 7) (by decide +kernel) rfl (Nat.le_of_ble_eq_true rfl) rfl (fun f hl hF hR => ?_)
  unfold s_X7_isSo at h
  show zG w f 3 0 ([some (pR 64 0), some (pI a1), some (pI a2)], [], (n, m))
  refine zrun hF [(.iload_n 1, 1, pI 0)] 0 _ (by decide +kernel) ?_
  show zG w f 3 1 ([some (pR 64 0), some (pI a1), some (pI a2)], [pI a1], (n, m))
  refine zswitch (pc := 1) [(0, 40), (1, 63), (4, 115), (5, 129)] 161 hF (by decide +kernel) ?_
  refine And.intro (fun b1 => ?_) (fun b1 => ?_)
  · replace h := zit b1 h
    refine zrun hF [(.aload_n 0, 1, pI 0), (.getfield 156, 3, pR 64 24), (.iconst 3, 1, pI 3)] 40 _ (by decide +kernel) ?_
    refine (And.intro rfl (And.intro rfl ?_))
    show zG w f 3 45 ([some (pR 64 0), some (pI a1), some (pI a2)], [pI 3, pI (m.1 64 0 24)], (n, m))
    refine zicmp_lt (tgt := 61) (pc := 45) hF (by decide +kernel) (fun b2 => ?_) (fun b2 => ?_)
    · replace h := zit b2 h
      refine zrun hF [(.iconst 0, 1, pI 0)] 61 _ (by decide +kernel) ?_
      show zG w f 3 62 ([some (pR 64 0), some (pI a1), some (pI a2)], [pI 0], (n, m))
      exact zretI (pc := 62) hF hR (by decide +kernel) (by decide +kernel) (Option.some.inj h) rfl
    · replace h := zif b2 h
      refine zrun hF [(.aload_n 0, 1, pI 0), (.getfield 156, 3, pR 64 24), (.bipush 12, 2, pI 12)] 48 _ (by decide +kernel) ?_
      refine (And.intro rfl (And.intro rfl ?_))
      show zG w f 3 54 ([some (pR 64 0), some (pI a1), some (pI a2)], [pI 12, pI (m.1 64 0 24)], (n, m))
      refine zicmp_gt (tgt := 61) (pc := 54) hF (by decide +kernel) (fun b3 => ?_) (fun b3 => ?_)
      · replace h := zit b3 h
        refine zrun hF [(.iconst 0, 1, pI 0)] 61 _ (by decide +kernel) ?_
        show zG w f 3 62 ([some (pR 64 0), some (pI a1), some (pI a2)], [pI 0], (n, m))
        exact zretI (pc := 62) hF hR (by decide +kernel) (by decide +kernel) (Option.some.inj h) rfl
      · replace h := zif b3 h
        refine zrun hF [(.iconst 1, 1, pI 1)] 57 _ (by decide +kernel) ?_
        show zG w f 3 58 ([some (pR 64 0), some (pI a1), some (pI a2)], [pI 1], (n, m))
        refine zgoto (tgt := 62) (pc := 58) hF (by decide +kernel) ?_
        exact zretI (pc := 62) hF hR (by decide +kernel) (by decide +kernel) (Option.some.inj h) rfl
  · replace h := zif b1 h
    refine And.intro (fun b4 => ?_) (fun b4 => ?_)
    · replace h := zit b4 h
      refine zrun hF [(.iload_n 2, 1, pI 0)] 63 _ (by decide +kernel) ?_
      show zG w f 3 64 ([some (pR 64 0), some (pI a1), some (pI a2)], [pI a2], (n, m))
      refine zif_ne (tgt := 84) (pc := 64) hF (by decide +kernel) (fun b5 => ?_) (fun b5 => ?_)
      · replace h := zit b5 h
        refine zrun hF [(.aload_n 0, 1, pI 0), (.getfield 156, 3, pR 64 24), (.bipush 6, 2, pI 6)] 67 _ (by decide +kernel) ?_
        refine (And.intro rfl (And.intro rfl ?_))
        show zG w f 3 73 ([some (pR 64 0), some (pI a1), some (pI a2)], [pI 6, pI (m.1 64 0 24)], (n, m))
        refine zicmp_gt (tgt := 80) (pc := 73) hF (by decide +kernel) (fun b6 => ?_) (fun b6 => ?_)
        · replace h := zit b6 h
          refine zrun hF [(.iconst 0, 1, pI 0)] 80 _ (by decide +kernel) ?_
          show zG w f 3 81 ([some (pR 64 0), some (pI a1), some (pI a2)], [pI 0], (n, m))
          refine zgoto (tgt := 114) (pc := 81) hF (by decide +kernel) ?_
          exact zretI (pc := 114) hF hR (by decide +kernel) (by decide +kernel) (Option.some.inj h) rfl
        · replace h := zif b6 h
          refine zrun hF [(.iconst 1, 1, pI 1)] 76 _ (by decide +kernel) ?_
          show zG w f 3 77 ([some (pR 64 0), some (pI a1), some (pI a2)], [pI 1], (n, m))
          refine zgoto (tgt := 114) (pc := 77) hF (by decide +kernel) ?_
          exact zretI (pc := 114) hF hR (by decide +kernel) (by decide +kernel) (Option.some.inj h) rfl
      · replace h := zif b5 h
        refine zrun hF [(.iload_n 2, 1, pI 0), (.iconst 1, 1, pI 1)] 84 _ (by decide +kernel) ?_
        show zG w f 3 86 ([some (pR 64 0), some (pI a1), some (pI a2)], [pI 1, pI a2], (n, m))
        refine zicmp_ne (tgt := 100) (pc := 86) hF (by decide +kernel) (fun b7 => ?_) (fun b7 => ?_)
        · replace h := zit b7 h
          refine zrun hF [(.aload_n 0, 1, pI 0), (.aload_n 0, 1, pI 0), (.getfield 156, 3, pR 64 24)] 89 _ (by decide +kernel) ?_
          refine (And.intro rfl (And.intro rfl ?_))
          show zG w f 3 94 ([some (pR 64 0), some (pI a1), some (pI a2)], [pI (m.1 64 0 24), pR 64 0], (n, m))
          obtain ⟨r9, q8, h⟩ := zr_k h
          refine zcallVI (pc := 94) (As := [pI (m.1 64 0 24)]) (st := []) (c := 64) (j := 0) hF (m_X7_isFree  q8) w_X7_isFree k_7_123 (by decide +kernel) rfl rfl rfl rfl rfl rfl rfl ?_
          refine zgoto (tgt := 114) (pc := 97) hF (by decide +kernel) ?_
          obtain ⟨c10, h⟩ := zbo_k h
          exact zretI (pc := 114) hF hR (by decide +kernel) c10 (Option.some.inj h) rfl
        · replace h := zif b7 h
          refine zrun hF [(.aload_n 0, 1, pI 0), (.getfield 156, 3, pR 64 24), (.bipush 9, 2, pI 9)] 100 _ (by decide +kernel) ?_
          refine (And.intro rfl (And.intro rfl ?_))
          show zG w f 3 106 ([some (pR 64 0), some (pI a1), some (pI a2)], [pI 9, pI (m.1 64 0 24)], (n, m))
          refine zicmp_gt (tgt := 113) (pc := 106) hF (by decide +kernel) (fun b11 => ?_) (fun b11 => ?_)
          · replace h := zit b11 h
            refine zrun hF [(.iconst 0, 1, pI 0)] 113 _ (by decide +kernel) ?_
            show zG w f 3 114 ([some (pR 64 0), some (pI a1), some (pI a2)], [pI 0], (n, m))
            exact zretI (pc := 114) hF hR (by decide +kernel) (by decide +kernel) (Option.some.inj h) rfl
          · replace h := zif b11 h
            refine zrun hF [(.iconst 1, 1, pI 1)] 109 _ (by decide +kernel) ?_
            show zG w f 3 110 ([some (pR 64 0), some (pI a1), some (pI a2)], [pI 1], (n, m))
            refine zgoto (tgt := 114) (pc := 110) hF (by decide +kernel) ?_
            exact zretI (pc := 114) hF hR (by decide +kernel) (by decide +kernel) (Option.some.inj h) rfl
    · replace h := zif b4 h
      refine And.intro (fun b12 => ?_) (fun b12 => ?_)
      · replace h := zit b12 h
        refine zrun hF [(.aload_n 0, 1, pI 0), (.getfield 156, 3, pR 64 24), (.iconst 1, 1, pI 1)] 115 _ (by decide +kernel) ?_
        refine (And.intro rfl (And.intro rfl ?_))
        show zG w f 3 120 ([some (pR 64 0), some (pI a1), some (pI a2)], [pI 1, pI (m.1 64 0 24)], (n, m))
        refine zicmp_gt (tgt := 127) (pc := 120) hF (by decide +kernel) (fun b13 => ?_) (fun b13 => ?_)
        · replace h := zit b13 h
          refine zrun hF [(.iconst 0, 1, pI 0)] 127 _ (by decide +kernel) ?_
          show zG w f 3 128 ([some (pR 64 0), some (pI a1), some (pI a2)], [pI 0], (n, m))
          exact zretI (pc := 128) hF hR (by decide +kernel) (by decide +kernel) (Option.some.inj h) rfl
        · replace h := zif b13 h
          refine zrun hF [(.iconst 1, 1, pI 1)] 123 _ (by decide +kernel) ?_
          show zG w f 3 124 ([some (pR 64 0), some (pI a1), some (pI a2)], [pI 1], (n, m))
          refine zgoto (tgt := 128) (pc := 124) hF (by decide +kernel) ?_
          exact zretI (pc := 128) hF hR (by decide +kernel) (by decide +kernel) (Option.some.inj h) rfl
      · replace h := zif b12 h
        refine And.intro (fun b14 => ?_) (fun b14 => ?_)
        · replace h := zit b14 h
          refine zrun hF [(.iload_n 2, 1, pI 0)] 129 _ (by decide +kernel) ?_
          show zG w f 3 130 ([some (pR 64 0), some (pI a1), some (pI a2)], [pI a2], (n, m))
          refine zif_ne (tgt := 152) (pc := 130) hF (by decide +kernel) (fun b15 => ?_) (fun b15 => ?_)
          · replace h := zit b15 h
            refine zrun hF [(.aload_n 0, 1, pI 0), (.getfield 156, 3, pR 64 24), (.aload_n 0, 1, pI 0), (.getfield 93, 3, pR 64 0)] 133 _ (by decide +kernel) ?_
            refine (And.intro rfl (And.intro rfl (And.intro rfl (And.intro rfl ?_))))
            show zG w f 3 141 ([some (pR 64 0), some (pI a1), some (pI a2)], [pI (m.1 64 0 0), pI (m.1 64 0 24)], (n, m))
            refine zicmp_ge (tgt := 148) (pc := 141) hF (by decide +kernel) (fun b16 => ?_) (fun b16 => ?_)
            · replace h := zit b16 h
              refine zrun hF [(.iconst 0, 1, pI 0)] 148 _ (by decide +kernel) ?_
              show zG w f 3 149 ([some (pR 64 0), some (pI a1), some (pI a2)], [pI 0], (n, m))
              refine zgoto (tgt := 160) (pc := 149) hF (by decide +kernel) ?_
              exact zretI (pc := 160) hF hR (by decide +kernel) (by decide +kernel) (Option.some.inj h) rfl
            · replace h := zif b16 h
              refine zrun hF [(.iconst 1, 1, pI 1)] 144 _ (by decide +kernel) ?_
              show zG w f 3 145 ([some (pR 64 0), some (pI a1), some (pI a2)], [pI 1], (n, m))
              refine zgoto (tgt := 160) (pc := 145) hF (by decide +kernel) ?_
              exact zretI (pc := 160) hF hR (by decide +kernel) (by decide +kernel) (Option.some.inj h) rfl
          · replace h := zif b15 h
            refine zrun hF [(.aload_n 0, 1, pI 0), (.aload_n 0, 1, pI 0), (.getfield 156, 3, pR 64 24)] 152 _ (by decide +kernel) ?_
            refine (And.intro rfl (And.intro rfl ?_))
            show zG w f 3 157 ([some (pR 64 0), some (pI a1), some (pI a2)], [pI (m.1 64 0 24), pR 64 0], (n, m))
            obtain ⟨r18, q17, h⟩ := zr_k h
            refine zcallVI (pc := 157) (As := [pI (m.1 64 0 24)]) (st := []) (c := 64) (j := 0) hF (m_X7_isFree  q17) w_X7_isFree k_7_123 (by decide +kernel) rfl rfl rfl rfl rfl rfl rfl ?_
            obtain ⟨c19, h⟩ := zbo_k h
            exact zretI (pc := 160) hF hR (by decide +kernel) c19 (Option.some.inj h) rfl
        · replace h := zif b14 h
          refine zrun hF [(.aload_n 0, 1, pI 0), (.getfield 156, 3, pR 64 24), (.aload_n 0, 1, pI 0), (.getfield 93, 3, pR 64 0)] 161 _ (by decide +kernel) ?_
          refine (And.intro rfl (And.intro rfl (And.intro rfl (And.intro rfl ?_))))
          show zG w f 3 169 ([some (pR 64 0), some (pI a1), some (pI a2)], [pI (m.1 64 0 0), pI (m.1 64 0 24)], (n, m))
          refine zicmp_ge (tgt := 193) (pc := 169) hF (by decide +kernel) (fun b20 => ?_) (fun b20 => ?_)
          · replace h := zit b20 h
            refine zrun hF [(.iconst 0, 1, pI 0)] 193 _ (by decide +kernel) ?_
            show zG w f 3 194 ([some (pR 64 0), some (pI a1), some (pI a2)], [pI 0], (n, m))
            exact zretI (pc := 194) hF hR (by decide +kernel) (by decide +kernel) (Option.some.inj h) rfl
          · replace h := zif b20 h
            refine zrun hF [(.iload_n 2, 1, pI 0)] 172 _ (by decide +kernel) ?_
            show zG w f 3 173 ([some (pR 64 0), some (pI a1), some (pI a2)], [pI a2], (n, m))
            refine zif_eq (tgt := 189) (pc := 173) hF (by decide +kernel) (fun b21 => ?_) (fun b21 => ?_)
            · replace h := zit b21 h
              refine zcut [false, false, false] ?_
              exact m_X7_isSo_L189 hl hF hR  _  rfl h
            · replace h := zif b21 h
              refine zrun hF [(.aload_n 0, 1, pI 0), (.getfield 156, 3, pR 64 24), (.aload_n 0, 1, pI 0), (.getfield 60, 3, pR 64 20), (.iconst 0, 1, pI 0), (.iaload, 1, pI 0)] 176 _ (by decide +kernel) ?_
              refine (And.intro rfl (And.intro rfl (And.intro rfl (And.intro rfl (And.intro rfl (And.intro rfl (And.intro rfl ?_)))))))
              show zG w f 3 186 ([some (pR 64 0), some (pI a1), some (pI a2)], [pI (m.1 78 0 (ix 0)), pI (m.1 64 0 24)], (n, m))
              refine zicmp_eq (tgt := 193) (pc := 186) hF (by decide +kernel) (fun b22 => ?_) (fun b22 => ?_)
              · replace h := zit b22 h
                refine zrun hF [(.iconst 0, 1, pI 0)] 193 _ (by decide +kernel) ?_
                show zG w f 3 194 ([some (pR 64 0), some (pI a1), some (pI a2)], [pI 0], (n, m))
                exact zretI (pc := 194) hF hR (by decide +kernel) (by decide +kernel) (Option.some.inj h) rfl
              · replace h := zif b22 h
                refine zcut [false, false, false] ?_
                exact m_X7_isSo_L189 hl hF hR  _  rfl h

set_option maxHeartbeats 4000000 in
set_option maxRecDepth 100000 in
theorem m_X7_item_L32 {w : zWd} {f : zFr} {n : zMem} {x : Int32} {m0 : zMem} {lc : Launch} (hl : f.2.1 = lc) (hF : zFOK w f 7 cX7_item 5 4) (hR : zFin w f (some .boolean) (zQI w x (n, m0))) : ∀ (m : zMem), s_X7_item_L32 m = some (x, m0) → zG w f 5 32 ([some (pR 64 0), none, none, none, none], [], (n, m)) := by
  intro m h
  unfold s_X7_item_L32 at h
  refine zrun hF [(.aload_n 0, 1, pI 0), (.aload_n 0, 1, pI 0), (.getfield 147, 3, pR 64 22)] 32 _ (by decide +kernel) ?_
  refine (And.intro rfl (And.intro rfl ?_))
  show zG w f 5 37 ([some (pR 64 0), none, none, none, none], [pI (m.1 64 0 22), pR 64 0], (n, m))
  obtain ⟨r10, m11, q9, h⟩ := zb_k h
  refine zcallVI (pc := 37) (As := [pI (m.1 64 0 22)]) (st := []) (c := 64) (j := 0) hF (m_X7_wrong  q9) w_X7_wrong k_7_163 (by decide +kernel) rfl rfl rfl rfl rfl rfl rfl ?_
  obtain ⟨c12, h⟩ := zbo_k h
  exact zretI (pc := 40) hF hR (by decide +kernel) c12 (congrArg Prod.fst (Option.some.inj h)) (congrArg (fun (q : Int32 × zMem) => (n, q.2)) (Option.some.inj h))

set_option maxHeartbeats 4000000 in
set_option maxRecDepth 100000 in
theorem m_X7_item_L138 {w : zWd} {f : zFr} {n : zMem} {x : Int32} {m0 : zMem} {lc : Launch} (hl : f.2.1 = lc) (hF : zFOK w f 7 cX7_item 5 4) (hR : zFin w f (some .boolean) (zQI w x (n, m0))) {k79 : Int32 → Int32 → Int32 → zMem → Option (Int32 × zMem)} (hk79 : ∀ (x1 : Int32) (x2 : Int32) (x3 : Int32) (m : zMem), k79 x1 x2 x3 m = some (x, m0) → zG w f 5 79 ([some (pR 64 0), some (pI x1), some (pI x2), some (pI x3), none], [], (n, m))) : ∀ (x1 : Int32) (x2 : Int32) (x3 : Int32) (m : zMem), s_X7_item_L138 k79 x1 x2 x3 m = some (x, m0) → zG w f 5 138 ([some (pR 64 0), some (pI x1), some (pI x2), some (pI x3), none], [], (n, m)) := by
  intro x1 x2 x3 m h
  unfold s_X7_item_L138 at h
  refine zrun hF [(.aload_n 0, 1, pI 0), (.getfield 147, 3, pR 64 22), (.istore 4, 2, pI 0), (.aload_n 0, 1, pI 0)] 138 _ (by decide +kernel) ?_
  refine (And.intro rfl (And.intro rfl (And.intro rfl ?_)))
  show zG w f 5 145 ([some (pR 64 0), some (pI x1), some (pI x2), some (pI x3), some (pI (m.1 64 0 22))], [pR 64 0], (n, m))
  obtain ⟨r45, m46, q44, h⟩ := zb_k h
  refine zcallVI (pc := 145) (As := []) (st := []) (c := 64) (j := 0) hF (m_X7_reads  q44) w_X7_reads k_7_173 (by decide +kernel) rfl rfl rfl rfl rfl rfl rfl ?_
  refine zif_ne (tgt := 153) (pc := 148) hF (by decide +kernel) (fun b47 => ?_) (fun b47 => ?_)
  · replace h := zit b47 h
    refine zrun hF [(.iconst 0, 1, pI 0)] 151 _ (by decide +kernel) ?_
    show zG w f 5 152 ([some (pR 64 0), some (pI x1), some (pI x2), some (pI x3), some (pI (m.1 64 0 22))], [pI 0], (n, m46))
    exact zretI (pc := 152) hF hR (by decide +kernel) (by decide +kernel) (congrArg Prod.fst (Option.some.inj h)) (congrArg (fun (q : Int32 × zMem) => (n, q.2)) (Option.some.inj h))
  · replace h := zif b47 h
    refine zrun hF [(.aload_n 0, 1, pI 0), (.iload_n 1, 1, pI 0), (.iload_n 3, 1, pI 0)] 153 _ (by decide +kernel) ?_
    show zG w f 5 156 ([some (pR 64 0), some (pI x1), some (pI x2), some (pI x3), some (pI (m.1 64 0 22))], [pI x3, pI x1, pR 64 0], (n, m46))
    obtain ⟨r49, q48, h⟩ := zr_k h
    refine zcallVI (pc := 156) (As := [pI x1, pI x3]) (st := []) (c := 64) (j := 0) hF (m_X7_isSo  q48) w_X7_isSo k_7_176 (by decide +kernel) rfl rfl rfl rfl rfl rfl rfl ?_
    refine zif_ne (tgt := 169) (pc := 159) hF (by decide +kernel) (fun b50 => ?_) (fun b50 => ?_)
    · replace h := zit b50 h
      refine zrun hF [(.aload_n 0, 1, pI 0), (.iload 4, 2, pI 0)] 162 _ (by decide +kernel) ?_
      show zG w f 5 165 ([some (pR 64 0), some (pI x1), some (pI x2), some (pI x3), some (pI (m.1 64 0 22))], [pI (m.1 64 0 22), pR 64 0], (n, m46))
      obtain ⟨r52, m53, q51, h⟩ := zb_k h
      refine zcallVI (pc := 165) (As := [pI (m.1 64 0 22)]) (st := []) (c := 64) (j := 0) hF (m_X7_wrong  q51) w_X7_wrong k_7_163 (by decide +kernel) rfl rfl rfl rfl rfl rfl rfl ?_
      obtain ⟨c54, h⟩ := zbo_k h
      exact zretI (pc := 168) hF hR (by decide +kernel) c54 (congrArg Prod.fst (Option.some.inj h)) (congrArg (fun (q : Int32 × zMem) => (n, q.2)) (Option.some.inj h))
    · replace h := zif b50 h
      obtain ⟨c55, h⟩ := zchk h
      refine zrun hF [(.aload_n 0, 1, pI 0), (.getfield 60, 3, pR 64 20), (.iload_n 3, 1, pI 0), (.aload_n 0, 1, pI 0), (.getfield 156, 3, pR 64 24), (.iastore, 1, pI 0)] 169 _ (by decide +kernel) ?_
      refine (And.intro rfl (And.intro rfl (And.intro rfl (And.intro rfl (And.intro rfl (And.intro rfl (And.intro c55 ?_)))))))
      refine zlet_k (P := fun (m56 : zMem) => zG w f 5 179 ([some (pR 64 0), some (pI x1), some (pI x2), some (pI x3), some (pI (m.1 64 0 22))], [], (n, m56))) h (fun m56 h => ?_)
      refine zrun hF [(.iinc 3 1, 3, pI 1)] 179 _ (by decide +kernel) ?_
      refine (And.intro rfl ?_)
      show zG w f 5 182 ([some (pR 64 0), some (pI x1), some (pI x2), some (pI (x3 + 1)), some (pI (m.1 64 0 22))], [], (n, m56))
      refine zgoto (tgt := 79) (pc := 182) hF (by decide +kernel) ?_
      refine zcut [true, true, true, true, false] ?_
      exact hk79 _ _ _ _  h

set_option maxHeartbeats 4000000 in
set_option maxRecDepth 100000 in
theorem m_X7_item_L119 {w : zWd} {f : zFr} {n : zMem} {x : Int32} {m0 : zMem} {lc : Launch} (hl : f.2.1 = lc) (hF : zFOK w f 7 cX7_item 5 4) (hR : zFin w f (some .boolean) (zQI w x (n, m0))) : ∀ (m : zMem), s_X7_item_L119 m = some (x, m0) → zG w f 5 119 ([some (pR 64 0), none, none, none, none], [], (n, m)) := by
  intro m h
  unfold s_X7_item_L119 at h
  refine zrun hF [(.aload_n 0, 1, pI 0), (.aload_n 0, 1, pI 0), (.getfield 147, 3, pR 64 22)] 119 _ (by decide +kernel) ?_
  refine (And.intro rfl (And.intro rfl ?_))
  show zG w f 5 124 ([some (pR 64 0), none, none, none, none], [pI (m.1 64 0 22), pR 64 0], (n, m))
  obtain ⟨r58, m59, q57, h⟩ := zb_k h
  refine zcallVI (pc := 124) (As := [pI (m.1 64 0 22)]) (st := []) (c := 64) (j := 0) hF (m_X7_wrong  q57) w_X7_wrong k_7_163 (by decide +kernel) rfl rfl rfl rfl rfl rfl rfl ?_
  obtain ⟨c60, h⟩ := zbo_k h
  exact zretI (pc := 127) hF hR (by decide +kernel) c60 (congrArg Prod.fst (Option.some.inj h)) (congrArg (fun (q : Int32 × zMem) => (n, q.2)) (Option.some.inj h))

set_option maxHeartbeats 4000000 in
set_option maxRecDepth 100000 in
theorem m_X7_item_L79 {w : zWd} {f : zFr} {n : zMem} {x : Int32} {m0 : zMem} {lc : Launch} (hl : f.2.1 = lc) (hF : zFOK w f 7 cX7_item 5 4) (hR : zFin w f (some .boolean) (zQI w x (n, m0))) : ∀ (k : Nat) (x1 : Int32) (x2 : Int32) (x3 : Int32) (m : zMem), s_X7_item_L79 k x1 x2 x3 m = some (x, m0) → zG w f 5 79 ([some (pR 64 0), some (pI x1), some (pI x2), some (pI x3), none], [], (n, m)) := by
  intro k
  induction k with
  | zero => intro x1 x2 x3 m h; exact zno h
  | succ k ih =>
    intro x1 x2 x3 m h
    unfold s_X7_item_L79 at h
    refine zrun hF [(.iload_n 3, 1, pI 0), (.iload_n 2, 1, pI 0)] 79 _ (by decide +kernel) ?_
    show zG w f 5 81 ([some (pR 64 0), some (pI x1), some (pI x2), some (pI x3), none], [pI x2, pI x3], (n, m))
    refine zicmp_ge (tgt := 185) (pc := 81) hF (by decide +kernel) (fun b20 => ?_) (fun b20 => ?_)
    · replace h := zit b20 h
      refine zrun hF [(.iload_n 1, 1, pI 0)] 185 _ (by decide +kernel) ?_
      show zG w f 5 186 ([some (pR 64 0), some (pI x1), some (pI x2), some (pI x3), none], [pI x1], (n, m))
      refine zswitch (pc := 186) [(0, 220), (1, 233), (2, 259), (3, 284), (4, 309)] 322 hF (by decide +kernel) ?_
      refine And.intro (fun b21 => ?_) (fun b21 => ?_)
      · replace h := zit b21 h
        refine zrun hF [(.aload_n 0, 1, pI 0), (.aload_n 0, 1, pI 0), (.getfield 60, 3, pR 64 20), (.iconst 0, 1, pI 0), (.iaload, 1, pI 0), (.putfield 7, 3, pR 64 1)] 220 _ (by decide +kernel) ?_
        refine (And.intro rfl (And.intro rfl (And.intro rfl (And.intro rfl (And.intro rfl (And.intro rfl (And.intro rfl (And.intro trivial ?_))))))))
        refine zlet_k (P := fun (m22 : zMem) => zG w f 5 230 ([some (pR 64 0), some (pI x1), some (pI x2), some (pI x3), none], [], (n, m22))) h (fun m22 h => ?_)
        refine zgoto (tgt := 339) (pc := 230) hF (by decide +kernel) ?_
        refine zrun hF [(.iconst 1, 1, pI 1)] 339 _ (by decide +kernel) ?_
        show zG w f 5 340 ([some (pR 64 0), some (pI x1), some (pI x2), some (pI x3), none], [pI 1], (n, m22))
        exact zretI (pc := 340) hF hR (by decide +kernel) (by decide +kernel) (congrArg Prod.fst (Option.some.inj h)) (congrArg (fun (q : Int32 × zMem) => (n, q.2)) (Option.some.inj h))
      · replace h := zif b21 h
        refine And.intro (fun b23 => ?_) (fun b23 => ?_)
        · replace h := zit b23 h
          refine zrun hF [(.aload_n 0, 1, pI 0), (.aload_n 0, 1, pI 0), (.getfield 60, 3, pR 64 20), (.iconst 0, 1, pI 0), (.iaload, 1, pI 0), (.aload_n 0, 1, pI 0), (.getfield 60, 3, pR 64 20), (.iconst 1, 1, pI 1), (.iaload, 1, pI 0), (.aload_n 0, 1, pI 0), (.getfield 60, 3, pR 64 20), (.iconst 2, 1, pI 2), (.iaload, 1, pI 0)] 233 _ (by decide +kernel) ?_
          refine (And.intro rfl (And.intro rfl (And.intro rfl (And.intro rfl (And.intro rfl (And.intro rfl (And.intro rfl (And.intro rfl (And.intro rfl (And.intro rfl (And.intro rfl (And.intro rfl (And.intro rfl (And.intro rfl (And.intro rfl ?_)))))))))))))))
          show zG w f 5 252 ([some (pR 64 0), some (pI x1), some (pI x2), some (pI x3), none], [pI (m.1 78 0 (ix 2)), pI (m.1 78 0 (ix 1)), pI (m.1 78 0 (ix 0)), pR 64 0], (n, m))
          obtain ⟨r25, m26, q24, h⟩ := zb_k h
          refine zcallVI (pc := 252) (As := [pI (m.1 78 0 (ix 0)), pI (m.1 78 0 (ix 1)), pI (m.1 78 0 (ix 2))]) (st := []) (c := 64) (j := 0) hF (m_X7_adds  q24) w_X7_adds k_7_126 (by decide +kernel) rfl rfl rfl rfl rfl rfl rfl ?_
          refine zrun hF [(.pop, 1, pI 0)] 255 _ (by decide +kernel) ?_
          refine (And.intro rfl ?_)
          show zG w f 5 256 ([some (pR 64 0), some (pI x1), some (pI x2), some (pI x3), none], [], (n, m26))
          refine zgoto (tgt := 339) (pc := 256) hF (by decide +kernel) ?_
          refine zrun hF [(.iconst 1, 1, pI 1)] 339 _ (by decide +kernel) ?_
          show zG w f 5 340 ([some (pR 64 0), some (pI x1), some (pI x2), some (pI x3), none], [pI 1], (n, m26))
          exact zretI (pc := 340) hF hR (by decide +kernel) (by decide +kernel) (congrArg Prod.fst (Option.some.inj h)) (congrArg (fun (q : Int32 × zMem) => (n, q.2)) (Option.some.inj h))
        · replace h := zif b23 h
          refine And.intro (fun b27 => ?_) (fun b27 => ?_)
          · replace h := zit b27 h
            refine zrun hF [(.aload_n 0, 1, pI 0), (.aload_n 0, 1, pI 0), (.getfield 32, 3, pR 64 11), (.aload_n 0, 1, pI 0), (.getfield 60, 3, pR 64 20), (.iconst 0, 1, pI 0), (.iaload, 1, pI 0), (.aload_n 0, 1, pI 0), (.getfield 60, 3, pR 64 20), (.iconst 1, 1, pI 1), (.iaload, 1, pI 0), (.iconst 1, 1, pI 1)] 259 _ (by decide +kernel) ?_
            refine (And.intro rfl (And.intro rfl (And.intro rfl (And.intro rfl (And.intro rfl (And.intro rfl (And.intro rfl (And.intro rfl (And.intro rfl (And.intro rfl (And.intro rfl (And.intro rfl ?_))))))))))))
            show zG w f 5 277 ([some (pR 64 0), some (pI x1), some (pI x2), some (pI x3), none], [pI 1, pI (m.1 78 0 (ix 1)), pI (m.1 78 0 (ix 0)), pR 69 0, pR 64 0], (n, m))
            obtain ⟨r29, m30, q28, h⟩ := zb_k h
            refine zcallVI (pc := 277) (As := [pR 69 0, pI (m.1 78 0 (ix 0)), pI (m.1 78 0 (ix 1)), pI 1]) (st := []) (c := 64) (j := 0) hF (m_X7_puts_69  q28) w_X7_puts k_7_137 (by decide +kernel) rfl rfl rfl rfl rfl rfl rfl ?_
            refine zrun hF [(.pop, 1, pI 0)] 280 _ (by decide +kernel) ?_
            refine (And.intro rfl ?_)
            show zG w f 5 281 ([some (pR 64 0), some (pI x1), some (pI x2), some (pI x3), none], [], (n, m30))
            refine zgoto (tgt := 339) (pc := 281) hF (by decide +kernel) ?_
            refine zrun hF [(.iconst 1, 1, pI 1)] 339 _ (by decide +kernel) ?_
            show zG w f 5 340 ([some (pR 64 0), some (pI x1), some (pI x2), some (pI x3), none], [pI 1], (n, m30))
            exact zretI (pc := 340) hF hR (by decide +kernel) (by decide +kernel) (congrArg Prod.fst (Option.some.inj h)) (congrArg (fun (q : Int32 × zMem) => (n, q.2)) (Option.some.inj h))
          · replace h := zif b27 h
            refine And.intro (fun b31 => ?_) (fun b31 => ?_)
            · replace h := zit b31 h
              refine zrun hF [(.aload_n 0, 1, pI 0), (.aload_n 0, 1, pI 0), (.getfield 35, 3, pR 64 12), (.aload_n 0, 1, pI 0), (.getfield 60, 3, pR 64 20), (.iconst 0, 1, pI 0), (.iaload, 1, pI 0), (.aload_n 0, 1, pI 0), (.getfield 60, 3, pR 64 20), (.iconst 1, 1, pI 1), (.iaload, 1, pI 0), (.iconst 1, 1, pI 1)] 284 _ (by decide +kernel) ?_
              refine (And.intro rfl (And.intro rfl (And.intro rfl (And.intro rfl (And.intro rfl (And.intro rfl (And.intro rfl (And.intro rfl (And.intro rfl (And.intro rfl (And.intro rfl (And.intro rfl ?_))))))))))))
              show zG w f 5 302 ([some (pR 64 0), some (pI x1), some (pI x2), some (pI x3), none], [pI 1, pI (m.1 78 0 (ix 1)), pI (m.1 78 0 (ix 0)), pR 70 0, pR 64 0], (n, m))
              obtain ⟨r33, m34, q32, h⟩ := zb_k h
              refine zcallVI (pc := 302) (As := [pR 70 0, pI (m.1 78 0 (ix 0)), pI (m.1 78 0 (ix 1)), pI 1]) (st := []) (c := 64) (j := 0) hF (m_X7_puts_70  q32) w_X7_puts k_7_137 (by decide +kernel) rfl rfl rfl rfl rfl rfl rfl ?_
              refine zrun hF [(.pop, 1, pI 0)] 305 _ (by decide +kernel) ?_
              refine (And.intro rfl ?_)
              show zG w f 5 306 ([some (pR 64 0), some (pI x1), some (pI x2), some (pI x3), none], [], (n, m34))
              refine zgoto (tgt := 339) (pc := 306) hF (by decide +kernel) ?_
              refine zrun hF [(.iconst 1, 1, pI 1)] 339 _ (by decide +kernel) ?_
              show zG w f 5 340 ([some (pR 64 0), some (pI x1), some (pI x2), some (pI x3), none], [pI 1], (n, m34))
              exact zretI (pc := 340) hF hR (by decide +kernel) (by decide +kernel) (congrArg Prod.fst (Option.some.inj h)) (congrArg (fun (q : Int32 × zMem) => (n, q.2)) (Option.some.inj h))
            · replace h := zif b31 h
              refine And.intro (fun b35 => ?_) (fun b35 => ?_)
              · replace h := zit b35 h
                refine zrun hF [(.aload_n 0, 1, pI 0), (.aload_n 0, 1, pI 0), (.getfield 60, 3, pR 64 20), (.iconst 0, 1, pI 0), (.iaload, 1, pI 0), (.putfield 141, 3, pR 64 2)] 309 _ (by decide +kernel) ?_
                refine (And.intro rfl (And.intro rfl (And.intro rfl (And.intro rfl (And.intro rfl (And.intro rfl (And.intro rfl (And.intro trivial ?_))))))))
                refine zlet_k (P := fun (m36 : zMem) => zG w f 5 319 ([some (pR 64 0), some (pI x1), some (pI x2), some (pI x3), none], [], (n, m36))) h (fun m36 h => ?_)
                refine zgoto (tgt := 339) (pc := 319) hF (by decide +kernel) ?_
                refine zrun hF [(.iconst 1, 1, pI 1)] 339 _ (by decide +kernel) ?_
                show zG w f 5 340 ([some (pR 64 0), some (pI x1), some (pI x2), some (pI x3), none], [pI 1], (n, m36))
                exact zretI (pc := 340) hF hR (by decide +kernel) (by decide +kernel) (congrArg Prod.fst (Option.some.inj h)) (congrArg (fun (q : Int32 × zMem) => (n, q.2)) (Option.some.inj h))
              · replace h := zif b35 h
                obtain ⟨c37, h⟩ := zchk h
                refine zrun hF [(.aload_n 0, 1, pI 0), (.getfield 29, 3, pR 64 10), (.aload_n 0, 1, pI 0), (.getfield 60, 3, pR 64 20), (.iconst 0, 1, pI 0), (.iaload, 1, pI 0), (.aload_n 0, 1, pI 0), (.getfield 60, 3, pR 64 20), (.iconst 1, 1, pI 1), (.iaload, 1, pI 0), (.iastore, 1, pI 0)] 322 _ (by decide +kernel) ?_
                refine (And.intro rfl (And.intro rfl (And.intro rfl (And.intro rfl (And.intro rfl (And.intro rfl (And.intro rfl (And.intro rfl (And.intro rfl (And.intro rfl (And.intro rfl (And.intro rfl (And.intro rfl (And.intro rfl (And.intro c37 ?_)))))))))))))))
                refine zlet_k (P := fun (m38 : zMem) => zG w f 5 339 ([some (pR 64 0), some (pI x1), some (pI x2), some (pI x3), none], [], (n, m38))) h (fun m38 h => ?_)
                refine zrun hF [(.iconst 1, 1, pI 1)] 339 _ (by decide +kernel) ?_
                show zG w f 5 340 ([some (pR 64 0), some (pI x1), some (pI x2), some (pI x3), none], [pI 1], (n, m38))
                exact zretI (pc := 340) hF hR (by decide +kernel) (by decide +kernel) (congrArg Prod.fst (Option.some.inj h)) (congrArg (fun (q : Int32 × zMem) => (n, q.2)) (Option.some.inj h))
    · replace h := zif b20 h
      refine zrun hF [(.iload_n 3, 1, pI 0)] 84 _ (by decide +kernel) ?_
      show zG w f 5 85 ([some (pR 64 0), some (pI x1), some (pI x2), some (pI x3), none], [pI x3], (n, m))
      refine zif_le (tgt := 138) (pc := 85) hF (by decide +kernel) (fun b39 => ?_) (fun b39 => ?_)
      · replace h := zit b39 h
        exact m_X7_item_L138 hl hF hR ih _ _ _ _  h
      · replace h := zif b39 h
        refine zrun hF [(.aload_n 0, 1, pI 0), (.getfield 147, 3, pR 64 22), (.aload_n 0, 1, pI 0), (.getfield 150, 3, pR 64 23)] 88 _ (by decide +kernel) ?_
        refine (And.intro rfl (And.intro rfl (And.intro rfl (And.intro rfl ?_))))
        show zG w f 5 96 ([some (pR 64 0), some (pI x1), some (pI x2), some (pI x3), none], [pI (m.1 64 0 23), pI (m.1 64 0 22)], (n, m))
        refine zicmp_ge (tgt := 119) (pc := 96) hF (by decide +kernel) (fun b40 => ?_) (fun b40 => ?_)
        · replace h := zit b40 h
          refine zcut [true, false, false, false, true] ?_
          exact m_X7_item_L119 hl hF hR  _  h
        · replace h := zif b40 h
          obtain ⟨c41, h⟩ := zchk h
          refine zrun hF [(.aload_n 0, 1, pI 0), (.getfield 50, 3, pR 64 17), (.aload_n 0, 1, pI 0), (.getfield 153, 3, pR 64 21), (.aload_n 0, 1, pI 0), (.getfield 147, 3, pR 64 22), (.iadd, 1, pI 0), (.laload, 1, pI 0), (.l2i, 1, pI 0), (.bipush 32, 2, pI 32)] 99 _ (by decide +kernel) ?_
          refine (And.intro rfl (And.intro rfl (And.intro rfl (And.intro rfl (And.intro rfl (And.intro rfl (And.intro rfl (And.intro rfl (And.intro c41 ?_)))))))))
          show zG w f 5 116 ([some (pR 64 0), some (pI x1), some (pI x2), some (pI x3), none], [pI 32, pI (Int64.toInt32 (m.2 75 0 (ix ((m.1 64 0 21) + (m.1 64 0 22)))))], (n, m))
          refine zicmp_eq (tgt := 128) (pc := 116) hF (by decide +kernel) (fun b42 => ?_) (fun b42 => ?_)
          · replace h := zit b42 h
            refine zrun hF [(.aload_n 0, 1, pI 0), (.dup, 1, pI 0), (.getfield 147, 3, pR 64 22), (.iconst 1, 1, pI 1), (.iadd, 1, pI 0), (.putfield 147, 3, pR 64 22)] 128 _ (by decide +kernel) ?_
            refine (And.intro rfl (And.intro rfl (And.intro rfl (And.intro rfl (And.intro rfl (And.intro trivial ?_))))))
            refine zlet_k (P := fun (m43 : zMem) => zG w f 5 138 ([some (pR 64 0), some (pI x1), some (pI x2), some (pI x3), none], [], (n, m43))) h (fun m43 h => ?_)
            exact m_X7_item_L138 hl hF hR ih _ _ _ _  h
          · replace h := zif b42 h
            refine zcut [true, false, false, false, true] ?_
            exact m_X7_item_L119 hl hF hR  _  h

set_option maxHeartbeats 4000000 in
set_option maxRecDepth 100000 in
theorem m_X7_item_L76 {w : zWd} {f : zFr} {n : zMem} {x : Int32} {m0 : zMem} {lc : Launch} (hl : f.2.1 = lc) (hF : zFOK w f 7 cX7_item 5 4) (hR : zFin w f (some .boolean) (zQI w x (n, m0))) : ∀ (x1 : Int32) (y0 : Int32) (m : zMem), s_X7_item_L76 x1 y0 m = some (x, m0) → zG w f 5 76 ([some (pR 64 0), some (pI x1), none, none, none], [pI y0], (n, m)) := by
  intro x1 y0 m h
  unfold s_X7_item_L76 at h
  refine zrun hF [(.istore_n 2, 1, pI 0), (.iconst 0, 1, pI 0), (.istore_n 3, 1, pI 0)] 76 _ (by decide +kernel) ?_
  refine (And.intro rfl (And.intro rfl ?_))
  show zG w f 5 79 ([some (pR 64 0), some (pI x1), some (pI y0), some (pI 0), none], [], (n, m))
  exact m_X7_item_L79 hl hF hR  zF _ _ _ _  h

set_option maxHeartbeats 4000000 in
set_option maxRecDepth 100000 in
theorem m_X7_item_L71 {w : zWd} {f : zFr} {n : zMem} {x : Int32} {m0 : zMem} {lc : Launch} (hl : f.2.1 = lc) (hF : zFOK w f 7 cX7_item 5 4) (hR : zFin w f (some .boolean) (zQI w x (n, m0))) : ∀ (x1 : Int32) (m : zMem), s_X7_item_L71 x1 m = some (x, m0) → zG w f 5 71 ([some (pR 64 0), some (pI x1), none, none, none], [], (n, m)) := by
  intro x1 m h
  unfold s_X7_item_L71 at h
  refine zrun hF [(.iconst 1, 1, pI 1)] 71 _ (by decide +kernel) ?_
  show zG w f 5 72 ([some (pR 64 0), some (pI x1), none, none, none], [pI 1], (n, m))
  refine zgoto (tgt := 76) (pc := 72) hF (by decide +kernel) ?_
  exact m_X7_item_L76 hl hF hR  _ _ _  h

set_option maxHeartbeats 4000000 in
set_option maxRecDepth 100000 in
theorem m_X7_item_L41 {w : zWd} {f : zFr} {n : zMem} {x : Int32} {m0 : zMem} {lc : Launch} (hl : f.2.1 = lc) (hF : zFOK w f 7 cX7_item 5 4) (hR : zFin w f (some .boolean) (zQI w x (n, m0))) : ∀ (m : zMem), s_X7_item_L41 m = some (x, m0) → zG w f 5 41 ([some (pR 64 0), none, none, none, none], [], (n, m)) := by
  intro m h
  unfold s_X7_item_L41 at h
  refine zrun hF [(.aload_n 0, 1, pI 0)] 41 _ (by decide +kernel) ?_
  show zG w f 5 42 ([some (pR 64 0), none, none, none, none], [pR 64 0], (n, m))
  obtain ⟨r14, m15, q13, h⟩ := zb_k h
  refine zcallVI (pc := 42) (As := []) (st := []) (c := 64) (j := 0) hF (m_X7_word  q13) w_X7_word k_7_169 (by decide +kernel) rfl rfl rfl rfl rfl rfl rfl ?_
  refine zrun hF [(.istore_n 1, 1, pI 0), (.iload_n 1, 1, pI 0), (.iconst (-1), 1, pI (-1))] 45 _ (by decide +kernel) ?_
  refine (And.intro rfl ?_)
  show zG w f 5 48 ([some (pR 64 0), some (pI r14), none, none, none], [pI (-1), pI r14], (n, m15))
  refine zicmp_ne (tgt := 53) (pc := 48) hF (by decide +kernel) (fun b16 => ?_) (fun b16 => ?_)
  · replace h := zit b16 h
    refine zrun hF [(.iconst 0, 1, pI 0)] 51 _ (by decide +kernel) ?_
    show zG w f 5 52 ([some (pR 64 0), some (pI r14), none, none, none], [pI 0], (n, m15))
    exact zretI (pc := 52) hF hR (by decide +kernel) (by decide +kernel) (congrArg Prod.fst (Option.some.inj h)) (congrArg (fun (q : Int32 × zMem) => (n, q.2)) (Option.some.inj h))
  · replace h := zif b16 h
    refine zrun hF [(.iload_n 1, 1, pI 0), (.iconst 1, 1, pI 1)] 53 _ (by decide +kernel) ?_
    show zG w f 5 55 ([some (pR 64 0), some (pI r14), none, none, none], [pI 1, pI r14], (n, m15))
    refine zicmp_ne (tgt := 62) (pc := 55) hF (by decide +kernel) (fun b17 => ?_) (fun b17 => ?_)
    · replace h := zit b17 h
      refine zrun hF [(.iconst 3, 1, pI 3)] 58 _ (by decide +kernel) ?_
      show zG w f 5 59 ([some (pR 64 0), some (pI r14), none, none, none], [pI 3], (n, m15))
      refine zgoto (tgt := 76) (pc := 59) hF (by decide +kernel) ?_
      exact m_X7_item_L76 hl hF hR  _ _ _  h
    · replace h := zif b17 h
      refine zrun hF [(.iload_n 1, 1, pI 0)] 62 _ (by decide +kernel) ?_
      show zG w f 5 63 ([some (pR 64 0), some (pI r14), none, none, none], [pI r14], (n, m15))
      refine zif_eq (tgt := 71) (pc := 63) hF (by decide +kernel) (fun b18 => ?_) (fun b18 => ?_)
      · replace h := zit b18 h
        exact m_X7_item_L71 hl hF hR  _ _  h
      · replace h := zif b18 h
        refine zrun hF [(.iload_n 1, 1, pI 0), (.iconst 4, 1, pI 4)] 66 _ (by decide +kernel) ?_
        show zG w f 5 68 ([some (pR 64 0), some (pI r14), none, none, none], [pI 4, pI r14], (n, m15))
        refine zicmp_ne (tgt := 75) (pc := 68) hF (by decide +kernel) (fun b19 => ?_) (fun b19 => ?_)
        · replace h := zit b19 h
          exact m_X7_item_L71 hl hF hR  _ _  h
        · replace h := zif b19 h
          refine zrun hF [(.iconst 2, 1, pI 2)] 75 _ (by decide +kernel) ?_
          show zG w f 5 76 ([some (pR 64 0), some (pI r14), none, none, none], [pI 2], (n, m15))
          exact m_X7_item_L76 hl hF hR  _ _ _  h

set_option maxHeartbeats 4000000 in
set_option maxRecDepth 100000 in
theorem m_X7_item_L15 {w : zWd} {f : zFr} {n : zMem} {x : Int32} {m0 : zMem} {lc : Launch} (hl : f.2.1 = lc) (hF : zFOK w f 7 cX7_item 5 4) (hR : zFin w f (some .boolean) (zQI w x (n, m0))) : ∀ (m : zMem), s_X7_item_L15 m = some (x, m0) → zG w f 5 15 ([some (pR 64 0), none, none, none, none], [], (n, m)) := by
  intro m h
  unfold s_X7_item_L15 at h
  refine zrun hF [(.aload_n 0, 1, pI 0), (.iconst 1, 1, pI 1)] 15 _ (by decide +kernel) ?_
  show zG w f 5 17 ([some (pR 64 0), none, none, none, none], [pI 1, pR 64 0], (n, m))
  obtain ⟨r6, q5, h⟩ := zr_k h
  refine zcallVI (pc := 17) (As := [pI 1]) (st := []) (c := 64) (j := 0) hF (m_X7_isWordAt  q5) w_X7_isWordAt k_7_166 (by decide +kernel) rfl rfl rfl rfl rfl rfl rfl ?_
  refine zif_eq (tgt := 41) (pc := 20) hF (by decide +kernel) (fun b7 => ?_) (fun b7 => ?_)
  · replace h := zit b7 h
    exact m_X7_item_L41 hl hF hR  _  h
  · replace h := zif b7 h
    refine zrun hF [(.aload_n 0, 1, pI 0), (.getfield 93, 3, pR 64 0), (.bipush 10, 2, pI 10)] 23 _ (by decide +kernel) ?_
    refine (And.intro rfl (And.intro rfl ?_))
    show zG w f 5 29 ([some (pR 64 0), none, none, none, none], [pI 10, pI (m.1 64 0 0)], (n, m))
    refine zicmp_ne (tgt := 41) (pc := 29) hF (by decide +kernel) (fun b8 => ?_) (fun b8 => ?_)
    · replace h := zit b8 h
      exact m_X7_item_L32 hl hF hR  _  h
    · replace h := zif b8 h
      exact m_X7_item_L41 hl hF hR  _  h

set_option maxHeartbeats 4000000 in
set_option maxRecDepth 100000 in
theorem m_X7_item {w : zWd} {lc : Launch} {n : zMem}  {m : zMem} {x : Int32} {m0 : zMem}  (h : s_X7_item m = some (x, m0)) : zMet w lc 4 yX7_item cX7_item 5 (some .boolean) [pR 64 0] (n, m) (zQI w x (n, m0)) := by
  refine zmet (o := 7) (by decide +kernel) rfl (Nat.le_of_ble_eq_true rfl) rfl (fun f hl hF hR => ?_)
  unfold s_X7_item at h
  show zG w f 5 0 ([some (pR 64 0), none, none, none, none], [], (n, m))
  refine zrun hF [(.aload_n 0, 1, pI 0), (.iconst 0, 1, pI 0)] 0 _ (by decide +kernel) ?_
  show zG w f 5 2 ([some (pR 64 0), none, none, none, none], [pI 0, pR 64 0], (n, m))
  obtain ⟨r2, q1, h⟩ := zr_k h
  refine zcallVI (pc := 2) (As := [pI 0]) (st := []) (c := 64) (j := 0) hF (m_X7_isWordAt  q1) w_X7_isWordAt k_7_166 (by decide +kernel) rfl rfl rfl rfl rfl rfl rfl ?_
  refine zif_eq (tgt := 15) (pc := 5) hF (by decide +kernel) (fun b3 => ?_) (fun b3 => ?_)
  · replace h := zit b3 h
    exact m_X7_item_L15 hl hF hR  _  h
  · replace h := zif b3 h
    refine zrun hF [(.aload_n 0, 1, pI 0), (.getfield 93, 3, pR 64 0)] 8 _ (by decide +kernel) ?_
    refine (And.intro rfl (And.intro rfl ?_))
    show zG w f 5 12 ([some (pR 64 0), none, none, none, none], [pI (m.1 64 0 0)], (n, m))
    refine zif_gt (tgt := 32) (pc := 12) hF (by decide +kernel) (fun b4 => ?_) (fun b4 => ?_)
    · replace h := zit b4 h
      exact m_X7_item_L32 hl hF hR  _  h
    · replace h := zif b4 h
      exact m_X7_item_L15 hl hF hR  _  h

set_option maxHeartbeats 4000000 in
set_option maxRecDepth 100000 in
theorem m_X7_table_L133 {w : zWd} {f : zFr} {n : zMem} {x : Int32} {m0 : zMem} {lc : Launch} (hl : f.2.1 = lc) (hF : zFOK w f 7 cX7_table 5 5) (hR : zFin w f (some .int) (zQI w x (n, m0))) : ∀ (x3 : Int32) (x4 : Int32) (m : zMem), s_X7_table_L133 x3 x4 m = some (x, m0) → zG w f 5 133 ([some (pR 64 0), none, none, some (pI x3), some (pI x4)], [], (n, m)) := by
  intro x3 x4 m h
  unfold s_X7_table_L133 at h
  refine zrun hF [(.iload 4, 2, pI 0)] 133 _ (by decide +kernel) ?_
  show zG w f 5 135 ([some (pR 64 0), none, none, some (pI x3), some (pI x4)], [pI x4], (n, m))
  refine zif_eq (tgt := 140) (pc := 135) hF (by decide +kernel) (fun b29 => ?_) (fun b29 => ?_)
  · replace h := zit b29 h
    refine zrun hF [(.aload_n 0, 1, pI 0), (.aload_n 0, 1, pI 0), (.getfield 63, 3, pR 64 26), (.iconst 1, 1, pI 1)] 140 _ (by decide +kernel) ?_
    refine (And.intro rfl (And.intro rfl ?_))
    show zG w f 5 146 ([some (pR 64 0), none, none, some (pI x3), some (pI x4)], [pI 1, pR 79 0, pR 64 0], (n, m))
    obtain ⟨m32, q30, h⟩ := zr_k h
    refine zcallVV (pc := 146) (As := [pR 79 0, pI 1]) (st := []) (c := 64) (j := 0) hF (m_X7_all_79  q30) w_X7_all k_7_189 (by decide +kernel) rfl rfl rfl rfl rfl rfl rfl ?_
    refine zrun hF [(.aload_n 0, 1, pI 0), (.aload_n 0, 1, pI 0), (.getfield 144, 3, pR 64 25), (.putfield 16, 3, pR 64 6)] 149 _ (by decide +kernel) ?_
    refine (And.intro rfl (And.intro rfl (And.intro rfl (And.intro rfl (And.intro trivial ?_)))))
    refine zlet_k (P := fun (m33 : zMem) => zG w f 5 157 ([some (pR 64 0), none, none, some (pI x3), some (pI x4)], [], (n, m33))) h (fun m33 h => ?_)
    refine zrun hF [(.aload_n 0, 1, pI 0), (.bipush (-6), 2, pI (-6))] 157 _ (by decide +kernel) ?_
    show zG w f 5 160 ([some (pR 64 0), none, none, some (pI x3), some (pI x4)], [pI (-6), pR 64 0], (n, m33))
    obtain ⟨r35, m36, q34, h⟩ := zb_k h
    refine zcallVI (pc := 160) (As := [pI (-6)]) (st := []) (c := 64) (j := 0) hF (m_X7_no  q34) w_X7_no k_7_100 (by decide +kernel) rfl rfl rfl rfl rfl rfl rfl ?_
    exact zretI (pc := 163) hF hR (by decide +kernel) rfl (congrArg Prod.fst (Option.some.inj h)) (congrArg (fun (q : Int32 × zMem) => (n, q.2)) (Option.some.inj h))
  · replace h := zif b29 h
    refine zrun hF [(.iload_n 3, 1, pI 0)] 138 _ (by decide +kernel) ?_
    show zG w f 5 139 ([some (pR 64 0), none, none, some (pI x3), some (pI x4)], [pI x3], (n, m))
    exact zretI (pc := 139) hF hR (by decide +kernel) rfl (congrArg Prod.fst (Option.some.inj h)) (congrArg (fun (q : Int32 × zMem) => (n, q.2)) (Option.some.inj h))

set_option maxHeartbeats 4000000 in
set_option maxRecDepth 100000 in
theorem m_X7_table_L62 {w : zWd} {f : zFr} {n : zMem} {x : Int32} {m0 : zMem} {lc : Launch} (hl : f.2.1 = lc) (hF : zFOK w f 7 cX7_table 5 5) (hR : zFin w f (some .int) (zQI w x (n, m0))) : ∀ (k : Nat) (x3 : Int32) (x4 : Int32) (m : zMem), s_X7_table_L62 k x3 x4 m = some (x, m0) → zG w f 5 62 ([some (pR 64 0), none, none, some (pI x3), some (pI x4)], [], (n, m)) := by
  intro k
  induction k with
  | zero => intro x3 x4 m h; exact zno h
  | succ k ih =>
    intro x3 x4 m h
    unfold s_X7_table_L62 at h
    refine zrun hF [(.iload 4, 2, pI 0)] 62 _ (by decide +kernel) ?_
    show zG w f 5 64 ([some (pR 64 0), none, none, some (pI x3), some (pI x4)], [pI x4], (n, m))
    refine zif_eq (tgt := 133) (pc := 64) hF (by decide +kernel) (fun b18 => ?_) (fun b18 => ?_)
    · replace h := zit b18 h
      exact m_X7_table_L133 hl hF hR  _ _ _  h
    · replace h := zif b18 h
      refine zrun hF [(.aload_n 0, 1, pI 0), (.getfield 147, 3, pR 64 22), (.aload_n 0, 1, pI 0), (.getfield 150, 3, pR 64 23)] 67 _ (by decide +kernel) ?_
      refine (And.intro rfl (And.intro rfl (And.intro rfl (And.intro rfl ?_))))
      show zG w f 5 75 ([some (pR 64 0), none, none, some (pI x3), some (pI x4)], [pI (m.1 64 0 23), pI (m.1 64 0 22)], (n, m))
      refine zicmp_ge (tgt := 133) (pc := 75) hF (by decide +kernel) (fun b19 => ?_) (fun b19 => ?_)
      · replace h := zit b19 h
        exact m_X7_table_L133 hl hF hR  _ _ _  h
      · replace h := zif b19 h
        obtain ⟨c20, h⟩ := zchk h
        refine zrun hF [(.aload_n 0, 1, pI 0), (.getfield 50, 3, pR 64 17), (.aload_n 0, 1, pI 0), (.getfield 153, 3, pR 64 21), (.aload_n 0, 1, pI 0), (.getfield 147, 3, pR 64 22), (.iadd, 1, pI 0), (.laload, 1, pI 0), (.l2i, 1, pI 0), (.bipush 59, 2, pI 59)] 78 _ (by decide +kernel) ?_
        refine (And.intro rfl (And.intro rfl (And.intro rfl (And.intro rfl (And.intro rfl (And.intro rfl (And.intro rfl (And.intro rfl (And.intro c20 ?_)))))))))
        show zG w f 5 95 ([some (pR 64 0), none, none, some (pI x3), some (pI x4)], [pI 59, pI (Int64.toInt32 (m.2 75 0 (ix ((m.1 64 0 21) + (m.1 64 0 22)))))], (n, m))
        refine zicmp_eq (tgt := 111) (pc := 95) hF (by decide +kernel) (fun b21 => ?_) (fun b21 => ?_)
        · replace h := zit b21 h
          refine zrun hF [(.aload_n 0, 1, pI 0), (.dup, 1, pI 0), (.getfield 147, 3, pR 64 22), (.iconst 1, 1, pI 1), (.iadd, 1, pI 0), (.putfield 147, 3, pR 64 22)] 111 _ (by decide +kernel) ?_
          refine (And.intro rfl (And.intro rfl (And.intro rfl (And.intro rfl (And.intro rfl (And.intro trivial ?_))))))
          refine zlet_k (P := fun (m22 : zMem) => zG w f 5 121 ([some (pR 64 0), none, none, some (pI x3), some (pI x4)], [], (n, m22))) h (fun m22 h => ?_)
          refine zrun hF [(.iinc 3 1, 3, pI 1), (.aload_n 0, 1, pI 0)] 121 _ (by decide +kernel) ?_
          refine (And.intro rfl ?_)
          show zG w f 5 125 ([some (pR 64 0), none, none, some (pI (x3 + 1)), some (pI x4)], [pR 64 0], (n, m22))
          obtain ⟨r24, m25, q23, h⟩ := zb_k h
          refine zcallVI (pc := 125) (As := []) (st := []) (c := 64) (j := 0) hF (m_X7_item  q23) w_X7_item k_7_193 (by decide +kernel) rfl rfl rfl rfl rfl rfl rfl ?_
          refine zrun hF [(.istore 4, 2, pI 0)] 128 _ (by decide +kernel) ?_
          refine (And.intro rfl ?_)
          show zG w f 5 130 ([some (pR 64 0), none, none, some (pI (x3 + 1)), some (pI r24)], [], (n, m25))
          refine zgoto (tgt := 62) (pc := 130) hF (by decide +kernel) ?_
          exact ih _ _ _  h
        · replace h := zif b21 h
          refine zrun hF [(.aload_n 0, 1, pI 0), (.aload_n 0, 1, pI 0), (.getfield 147, 3, pR 64 22)] 98 _ (by decide +kernel) ?_
          refine (And.intro rfl (And.intro rfl ?_))
          show zG w f 5 103 ([some (pR 64 0), none, none, some (pI x3), some (pI x4)], [pI (m.1 64 0 22), pR 64 0], (n, m))
          obtain ⟨r27, m28, q26, h⟩ := zb_k h
          refine zcallVI (pc := 103) (As := [pI (m.1 64 0 22)]) (st := []) (c := 64) (j := 0) hF (m_X7_wrong  q26) w_X7_wrong k_7_163 (by decide +kernel) rfl rfl rfl rfl rfl rfl rfl ?_
          refine zrun hF [(.istore 4, 2, pI 0)] 106 _ (by decide +kernel) ?_
          refine (And.intro rfl ?_)
          show zG w f 5 108 ([some (pR 64 0), none, none, some (pI x3), some (pI r27)], [], (n, m28))
          refine zgoto (tgt := 62) (pc := 108) hF (by decide +kernel) ?_
          exact ih _ _ _  h

set_option maxHeartbeats 4000000 in
set_option maxRecDepth 100000 in
theorem m_X7_table {w : zWd} {lc : Launch} {n : zMem} {a1 : Int32} {m : zMem} {x : Int32} {m0 : zMem}  (h : s_X7_table a1 m = some (x, m0)) : zMet w lc 5 yX7_table cX7_table 5 (some .int) [pR 64 0, pI a1] (n, m) (zQI w x (n, m0)) := by
  refine zmet (o := 7) (by decide +kernel) rfl (Nat.le_of_ble_eq_true rfl) rfl (fun f hl hF hR => ?_)
  unfold s_X7_table at h
  show zG w f 5 0 ([some (pR 64 0), some (pI a1), none, none, none], [], (n, m))
  refine zrun hF [(.aload_n 0, 1, pI 0), (.iload_n 1, 1, pI 0)] 0 _ (by decide +kernel) ?_
  show zG w f 5 2 ([some (pR 64 0), some (pI a1), none, none, none], [pI a1, pR 64 0], (n, m))
  obtain ⟨r2, q1, h⟩ := zr_k h
  refine zcallVI (pc := 2) (As := [pI a1]) (st := []) (c := 64) (j := 0) hF (m_X7_needed  q1) w_X7_needed k_7_117 (by decide +kernel) rfl rfl rfl rfl rfl rfl rfl ?_
  refine zrun hF [(.istore_n 2, 1, pI 0), (.iload_n 2, 1, pI 0)] 5 _ (by decide +kernel) ?_
  refine (And.intro rfl ?_)
  show zG w f 5 7 ([some (pR 64 0), some (pI a1), some (pI r2), none, none], [pI r2], (n, m))
  refine zif_eq (tgt := 16) (pc := 7) hF (by decide +kernel) (fun b3 => ?_) (fun b3 => ?_)
  · replace h := zit b3 h
    refine zrun hF [(.aload_n 0, 1, pI 0), (.aload_n 0, 1, pI 0), (.getfield 63, 3, pR 64 26), (.iconst 0, 1, pI 0)] 16 _ (by decide +kernel) ?_
    refine (And.intro rfl (And.intro rfl ?_))
    show zG w f 5 22 ([some (pR 64 0), some (pI a1), some (pI r2), none, none], [pI 0, pR 79 0, pR 64 0], (n, m))
    obtain ⟨m6, q4, h⟩ := zr_k h
    refine zcallVV (pc := 22) (As := [pR 79 0, pI 0]) (st := []) (c := 64) (j := 0) hF (m_X7_all_79  q4) w_X7_all k_7_189 (by decide +kernel) rfl rfl rfl rfl rfl rfl rfl ?_
    refine zrun hF [(.aload_n 0, 1, pI 0), (.sipush 160, 3, pI 160), (.iload_n 1, 1, pI 0), (.imul, 1, pI 0), (.putfield 153, 3, pR 64 21)] 25 _ (by decide +kernel) ?_
    refine (And.intro rfl (And.intro rfl (And.intro trivial ?_)))
    refine zlet_k (P := fun (m7 : zMem) => zG w f 5 34 ([some (pR 64 0), some (pI a1), some (pI r2), none, none], [], (n, m7))) h (fun m7 h => ?_)
    refine zrun hF [(.aload_n 0, 1, pI 0), (.iconst 0, 1, pI 0), (.putfield 147, 3, pR 64 22)] 34 _ (by decide +kernel) ?_
    refine (And.intro rfl (And.intro rfl (And.intro trivial ?_)))
    refine zlet_k (P := fun (m8 : zMem) => zG w f 5 39 ([some (pR 64 0), some (pI a1), some (pI r2), none, none], [], (n, m8))) h (fun m8 h => ?_)
    obtain ⟨c9, h⟩ := zchk h
    refine zrun hF [(.aload_n 0, 1, pI 0), (.aload_n 0, 1, pI 0), (.getfield 44, 3, pR 64 15), (.iload_n 1, 1, pI 0), (.iaload, 1, pI 0), (.putfield 150, 3, pR 64 23)] 39 _ (by decide +kernel) ?_
    refine (And.intro rfl (And.intro rfl (And.intro rfl (And.intro rfl (And.intro c9 (And.intro rfl (And.intro rfl (And.intro trivial ?_))))))))
    refine zlet_k (P := fun (m10 : zMem) => zG w f 5 49 ([some (pR 64 0), some (pI a1), some (pI r2), none, none], [], (n, m10))) h (fun m10 h => ?_)
    refine zrun hF [(.aload_n 0, 1, pI 0), (.iconst (-1), 1, pI (-1)), (.putfield 16, 3, pR 64 6)] 49 _ (by decide +kernel) ?_
    refine (And.intro rfl (And.intro rfl (And.intro trivial ?_)))
    refine zlet_k (P := fun (m11 : zMem) => zG w f 5 54 ([some (pR 64 0), some (pI a1), some (pI r2), none, none], [], (n, m11))) h (fun m11 h => ?_)
    refine zrun hF [(.iconst 1, 1, pI 1), (.istore_n 3, 1, pI 0), (.aload_n 0, 1, pI 0)] 54 _ (by decide +kernel) ?_
    refine (And.intro rfl ?_)
    show zG w f 5 57 ([some (pR 64 0), some (pI a1), some (pI r2), some (pI 1), none], [pR 64 0], (n, m11))
    obtain ⟨r13, m14, q12, h⟩ := zb_k h
    refine zcallVI (pc := 57) (As := []) (st := []) (c := 64) (j := 0) hF (m_X7_item  q12) w_X7_item k_7_193 (by decide +kernel) rfl rfl rfl rfl rfl rfl rfl ?_
    refine zrun hF [(.istore 4, 2, pI 0)] 60 _ (by decide +kernel) ?_
    refine (And.intro rfl ?_)
    show zG w f 5 62 ([some (pR 64 0), some (pI a1), some (pI r2), some (pI 1), some (pI r13)], [], (n, m14))
    refine zcut [true, false, false, true, true] ?_
    exact m_X7_table_L62 hl hF hR  zF _ _ _  h
  · replace h := zif b3 h
    refine zrun hF [(.aload_n 0, 1, pI 0), (.iload_n 2, 1, pI 0)] 10 _ (by decide +kernel) ?_
    show zG w f 5 12 ([some (pR 64 0), some (pI a1), some (pI r2), none, none], [pI r2, pR 64 0], (n, m))
    obtain ⟨r16, m17, q15, h⟩ := zb_k h
    refine zcallVI (pc := 12) (As := [pI r2]) (st := []) (c := 64) (j := 0) hF (m_X7_no  q15) w_X7_no k_7_100 (by decide +kernel) rfl rfl rfl rfl rfl rfl rfl ?_
    exact zretI (pc := 15) hF hR (by decide +kernel) rfl (congrArg Prod.fst (Option.some.inj h)) (congrArg (fun (q : Int32 × zMem) => (n, q.2)) (Option.some.inj h))

