set_option maxHeartbeats 4000000 in
set_option maxRecDepth 100000 in
theorem m_X4_hasPart {w : zWd} {lc : Launch} {n : zMem} {t : Nat} {a1 : Int32} {a2 : Int32} {m : zMem} {x : Int32} (ht : Nat.blt t 8 = true) (h : s_X4_hasPart t a1 a2 m = some x) : zMet w lc 1 yX4_hasPart cX4_hasPart 3 (some .boolean) [pR 8 t, pI a1, pI a2] (m, n) (zQI w x (m, n)) := by
  refine zmet (o := 4) (by decide +kernel) rfl (Nat.le_of_ble_eq_true rfl) rfl (fun f hl hF hR => ?_)
  unfold s_X4_hasPart at h
  show zG w f 3 0 ([some (pR 8 t), some (pI a1), some (pI a2)], [], (m, n))
  refine zrun hF [(.iload_n 1, 1, pI 0)] 0 _ (by decide +kernel) ?_
  show zG w f 3 1 ([some (pR 8 t), some (pI a1), some (pI a2)], [pI a1], (m, n))
  refine zif_lt (tgt := 30) (pc := 1) hF (by decide +kernel) (fun b1 => ?_) (fun b1 => ?_)
  · replace h := zit b1 h
    refine zrun hF [(.iconst 0, 1, pI 0)] 30 _ (by decide +kernel) ?_
    show zG w f 3 31 ([some (pR 8 t), some (pI a1), some (pI a2)], [pI 0], (m, n))
    exact zretI (pc := 31) hF hR (by decide +kernel) (by decide +kernel) (Option.some.inj h) rfl
  · replace h := zif b1 h
    refine zrun hF [(.iload_n 2, 1, pI 0)] 4 _ (by decide +kernel) ?_
    show zG w f 3 5 ([some (pR 8 t), some (pI a1), some (pI a2)], [pI a2], (m, n))
    refine zif_lt (tgt := 30) (pc := 5) hF (by decide +kernel) (fun b2 => ?_) (fun b2 => ?_)
    · replace h := zit b2 h
      refine zrun hF [(.iconst 0, 1, pI 0)] 30 _ (by decide +kernel) ?_
      show zG w f 3 31 ([some (pR 8 t), some (pI a1), some (pI a2)], [pI 0], (m, n))
      exact zretI (pc := 31) hF hR (by decide +kernel) (by decide +kernel) (Option.some.inj h) rfl
    · replace h := zif b2 h
      refine zrun hF [(.iload_n 1, 1, pI 0), (.aload_n 0, 1, pI 0), (.getfield 19, 3, pR 8 2)] 8 _ (by decide +kernel) ?_
      refine (And.intro rfl (And.intro ht ?_))
      show zG w f 3 13 ([some (pR 8 t), some (pI a1), some (pI a2)], [pI (m.1 8 t 2), pI a1], (m, n))
      refine zicmp_gt (tgt := 30) (pc := 13) hF (by decide +kernel) (fun b3 => ?_) (fun b3 => ?_)
      · replace h := zit b3 h
        refine zrun hF [(.iconst 0, 1, pI 0)] 30 _ (by decide +kernel) ?_
        show zG w f 3 31 ([some (pR 8 t), some (pI a1), some (pI a2)], [pI 0], (m, n))
        exact zretI (pc := 31) hF hR (by decide +kernel) (by decide +kernel) (Option.some.inj h) rfl
      · replace h := zif b3 h
        refine zrun hF [(.iload_n 2, 1, pI 0), (.aload_n 0, 1, pI 0), (.getfield 19, 3, pR 8 2), (.iload_n 1, 1, pI 0), (.isub, 1, pI 0)] 16 _ (by decide +kernel) ?_
        refine (And.intro rfl (And.intro ht ?_))
        show zG w f 3 23 ([some (pR 8 t), some (pI a1), some (pI a2)], [pI ((m.1 8 t 2) - a1), pI a2], (m, n))
        refine zicmp_gt (tgt := 30) (pc := 23) hF (by decide +kernel) (fun b4 => ?_) (fun b4 => ?_)
        · replace h := zit b4 h
          refine zrun hF [(.iconst 0, 1, pI 0)] 30 _ (by decide +kernel) ?_
          show zG w f 3 31 ([some (pR 8 t), some (pI a1), some (pI a2)], [pI 0], (m, n))
          exact zretI (pc := 31) hF hR (by decide +kernel) (by decide +kernel) (Option.some.inj h) rfl
        · replace h := zif b4 h
          refine zrun hF [(.iconst 1, 1, pI 1)] 26 _ (by decide +kernel) ?_
          show zG w f 3 27 ([some (pR 8 t), some (pI a1), some (pI a2)], [pI 1], (m, n))
          refine zgoto (tgt := 31) (pc := 27) hF (by decide +kernel) ?_
          exact zretI (pc := 31) hF hR (by decide +kernel) (by decide +kernel) (Option.some.inj h) rfl

set_option maxHeartbeats 4000000 in
set_option maxRecDepth 100000 in
theorem m_X6_copy_L14 {w : zWd} {f : zFr} {n : zMem} {x : Int32} {m0 : zMem} {lc : Launch} (hl : f.2.1 = lc) (hF : zFOK w f 6 cX6_copy 8 2) (hR : zFin w f (some .int) (zQI w x (m0, n))) : ∀ (m : zMem), s_X6_copy_L14 m = some (x, m0) → zG w f 8 14 ([some (pR 0 0), none, none, none, none, none, none, none], [], (m, n)) := by
  intro m h
  unfold s_X6_copy_L14 at h
  refine zrun hF [(.aload_n 0, 1, pI 0), (.iconst (-1), 1, pI (-1))] 14 _ (by decide +kernel) ?_
  show zG w f 8 16 ([some (pR 0 0), none, none, none, none, none, none, none], [pI (-1), pR 0 0], (m, n))
  obtain ⟨r38, m39, q37, h⟩ := zb_k h
  refine zcallVI (pc := 16) (As := [pI (-1)]) (st := []) (c := 0) (j := 0) hF (m_X6_refuse  q37) w_X6_refuse k_6_73 (by decide +kernel) rfl rfl rfl rfl rfl rfl rfl ?_
  exact zretI (pc := 19) hF hR (by decide +kernel) rfl (congrArg Prod.fst (Option.some.inj h)) (congrArg (fun (q : Int32 × zMem) => (q.2, n)) (Option.some.inj h))

set_option maxHeartbeats 4000000 in
set_option maxRecDepth 100000 in
theorem m_X6_copy_L52 {w : zWd} {f : zFr} {n : zMem} {x : Int32} {m0 : zMem} {lc : Launch} (hl : f.2.1 = lc) (hF : zFOK w f 6 cX6_copy 8 2) (hR : zFin w f (some .int) (zQI w x (m0, n))) : ∀ (m : zMem), s_X6_copy_L52 m = some (x, m0) → zG w f 8 52 ([some (pR 0 0), none, none, none, none, none, none, none], [], (m, n)) := by
  intro m h
  unfold s_X6_copy_L52 at h
  refine zrun hF [(.aload_n 0, 1, pI 0), (.bipush (-2), 2, pI (-2))] 52 _ (by decide +kernel) ?_
  show zG w f 8 55 ([some (pR 0 0), none, none, none, none, none, none, none], [pI (-2), pR 0 0], (m, n))
  obtain ⟨r47, m48, q46, h⟩ := zb_k h
  refine zcallVI (pc := 55) (As := [pI (-2)]) (st := []) (c := 0) (j := 0) hF (m_X6_refuse  q46) w_X6_refuse k_6_73 (by decide +kernel) rfl rfl rfl rfl rfl rfl rfl ?_
  exact zretI (pc := 58) hF hR (by decide +kernel) rfl (congrArg Prod.fst (Option.some.inj h)) (congrArg (fun (q : Int32 × zMem) => (q.2, n)) (Option.some.inj h))

set_option maxHeartbeats 4000000 in
set_option maxRecDepth 100000 in
theorem m_X6_copy_L75 {w : zWd} {f : zFr} {n : zMem} {x : Int32} {m0 : zMem} {lc : Launch} (hl : f.2.1 = lc) (hF : zFOK w f 6 cX6_copy 8 2) (hR : zFin w f (some .int) (zQI w x (m0, n))) : ∀ (m : zMem), s_X6_copy_L75 m = some (x, m0) → zG w f 8 75 ([some (pR 0 0), none, none, none, none, none, none, none], [], (m, n)) := by
  intro m h
  unfold s_X6_copy_L75 at h
  refine zrun hF [(.aload_n 0, 1, pI 0), (.bipush (-3), 2, pI (-3))] 75 _ (by decide +kernel) ?_
  show zG w f 8 78 ([some (pR 0 0), none, none, none, none, none, none, none], [pI (-3), pR 0 0], (m, n))
  obtain ⟨r44, m45, q43, h⟩ := zb_k h
  refine zcallVI (pc := 78) (As := [pI (-3)]) (st := []) (c := 0) (j := 0) hF (m_X6_refuse  q43) w_X6_refuse k_6_73 (by decide +kernel) rfl rfl rfl rfl rfl rfl rfl ?_
  exact zretI (pc := 81) hF hR (by decide +kernel) rfl (congrArg Prod.fst (Option.some.inj h)) (congrArg (fun (q : Int32 × zMem) => (q.2, n)) (Option.some.inj h))

set_option maxHeartbeats 4000000 in
set_option maxRecDepth 100000 in
theorem m_X6_copy_L137 {w : zWd} {f : zFr} {n : zMem} {x : Int32} {m0 : zMem} {lc : Launch} (hl : f.2.1 = lc) (hF : zFOK w f 6 cX6_copy 8 2) (hR : zFin w f (some .int) (zQI w x (m0, n))) : ∀ (m : zMem), s_X6_copy_L137 m = some (x, m0) → zG w f 8 137 ([some (pR 0 0), none, none, none, none, none, none, none], [], (m, n)) := by
  intro m h
  unfold s_X6_copy_L137 at h
  refine zrun hF [(.aload_n 0, 1, pI 0), (.bipush (-5), 2, pI (-5))] 137 _ (by decide +kernel) ?_
  show zG w f 8 140 ([some (pR 0 0), none, none, none, none, none, none, none], [pI (-5), pR 0 0], (m, n))
  obtain ⟨r41, m42, q40, h⟩ := zb_k h
  refine zcallVI (pc := 140) (As := [pI (-5)]) (st := []) (c := 0) (j := 0) hF (m_X6_refuse  q40) w_X6_refuse k_6_73 (by decide +kernel) rfl rfl rfl rfl rfl rfl rfl ?_
  exact zretI (pc := 143) hF hR (by decide +kernel) rfl (congrArg Prod.fst (Option.some.inj h)) (congrArg (fun (q : Int32 × zMem) => (q.2, n)) (Option.some.inj h))

set_option maxHeartbeats 4000000 in
set_option maxRecDepth 100000 in
theorem m_X6_copy {w : zWd} {lc : Launch} {n : zMem} {a1 : Int32} {a2 : Int32} {a3 : Int32} {a4 : Int32} {a5 : Int32} {m : zMem} {x : Int32} {m0 : zMem}  (h : s_X6_copy a1 a2 a3 a4 a5 m = some (x, m0)) : zMet w lc 2 yX6_copy cX6_copy 8 (some .int) [pR 0 0, pI a1, pI a2, pI a3, pI a4, pI a5] (m, n) (zQI w x (m0, n)) := by
  refine zmet (o := 6) (by decide +kernel) rfl (Nat.le_of_ble_eq_true rfl) rfl (fun f hl hF hR => ?_)
  unfold s_X6_copy at h
  show zG w f 8 0 ([some (pR 0 0), some (pI a1), some (pI a2), some (pI a3), some (pI a4), some (pI a5), none, none], [], (m, n))
  refine zrun hF [(.iload_n 1, 1, pI 0)] 0 _ (by decide +kernel) ?_
  show zG w f 8 1 ([some (pR 0 0), some (pI a1), some (pI a2), some (pI a3), some (pI a4), some (pI a5), none, none], [pI a1], (m, n))
  obtain ⟨r2, q1, h⟩ := zr_k h
  refine zcallSI (pc := 1) (As := [pI a1]) (st := []) hF (m_X6_isShelf  q1) w_X6_isShelf k_6_69 (by decide +kernel) rfl rfl rfl rfl ?_
  refine zif_eq (tgt := 14) (pc := 4) hF (by decide +kernel) (fun b3 => ?_) (fun b3 => ?_)
  · replace h := zit b3 h
    refine zcut [true, false, false, false, false, false, true, true] ?_
    exact m_X6_copy_L14 hl hF hR  _  h
  · replace h := zif b3 h
    refine zrun hF [(.iload_n 2, 1, pI 0)] 7 _ (by decide +kernel) ?_
    show zG w f 8 8 ([some (pR 0 0), some (pI a1), some (pI a2), some (pI a3), some (pI a4), some (pI a5), none, none], [pI a2], (m, n))
    obtain ⟨r5, q4, h⟩ := zr_k h
    refine zcallSI (pc := 8) (As := [pI a2]) (st := []) hF (m_X6_isShelf  q4) w_X6_isShelf k_6_69 (by decide +kernel) rfl rfl rfl rfl ?_
    refine zif_ne (tgt := 20) (pc := 11) hF (by decide +kernel) (fun b6 => ?_) (fun b6 => ?_)
    · replace h := zit b6 h
      refine zcut [true, false, false, false, false, false, true, true] ?_
      exact m_X6_copy_L14 hl hF hR  _  h
    · replace h := zif b6 h
      obtain ⟨c7, h⟩ := zchk h
      obtain ⟨c8, h⟩ := zchk h
      refine zrun hF [(.aload_n 0, 1, pI 0), (.getfield 28, 3, pR 0 4), (.iload_n 1, 1, pI 0), (.aaload, 1, pI 0), (.astore 6, 2, pI 0), (.aload_n 0, 1, pI 0), (.getfield 28, 3, pR 0 4), (.iload_n 2, 1, pI 0), (.aaload, 1, pI 0), (.astore 7, 2, pI 0), (.aload 6, 2, pI 0)] 20 _ (by decide +kernel) ?_
      refine (And.intro rfl (And.intro rfl (And.intro rfl (And.intro c7 (And.intro rfl (And.intro rfl (And.intro rfl (And.intro rfl (And.intro c8 (And.intro rfl ?_))))))))))
      show zG w f 8 38 ([some (pR 0 0), some (pI a1), some (pI a2), some (pI a3), some (pI a4), some (pI a5), some (pR 8 (ix a1)), some (pR 8 (ix a2))], [pR 8 (ix a1)], (m, n))
      obtain ⟨r10, q9, h⟩ := zr_k h
      refine zcallVI (pc := 38) (As := []) (st := []) (c := 8) (j := (ix a1)) hF (m_X4_holdsGuest (zinb_blt c7) q9) w_X4_holdsGuest k_6_91 (by decide +kernel) rfl (zinb_blt c7) rfl rfl rfl rfl rfl ?_
      refine zif_ne (tgt := 52) (pc := 41) hF (by decide +kernel) (fun b11 => ?_) (fun b11 => ?_)
      · replace h := zit b11 h
        refine zrun hF [(.aload 7, 2, pI 0)] 44 _ (by decide +kernel) ?_
        show zG w f 8 46 ([some (pR 0 0), some (pI a1), some (pI a2), some (pI a3), some (pI a4), some (pI a5), some (pR 8 (ix a1)), some (pR 8 (ix a2))], [pR 8 (ix a2)], (m, n))
        obtain ⟨r13, q12, h⟩ := zr_k h
        refine zcallVI (pc := 46) (As := []) (st := []) (c := 8) (j := (ix a2)) hF (m_X4_holdsGuest (zinb_blt c8) q12) w_X4_holdsGuest k_6_91 (by decide +kernel) rfl (zinb_blt c8) rfl rfl rfl rfl rfl ?_
        refine zif_eq (tgt := 59) (pc := 49) hF (by decide +kernel) (fun b14 => ?_) (fun b14 => ?_)
        · replace h := zit b14 h
          refine zrun hF [(.aload 6, 2, pI 0)] 59 _ (by decide +kernel) ?_
          show zG w f 8 61 ([some (pR 0 0), some (pI a1), some (pI a2), some (pI a3), some (pI a4), some (pI a5), some (pR 8 (ix a1)), some (pR 8 (ix a2))], [pR 8 (ix a1)], (m, n))
          obtain ⟨r16, q15, h⟩ := zr_k h
          refine zcallVI (pc := 61) (As := []) (st := []) (c := 8) (j := (ix a1)) hF (m_X4_isEmpty (zinb_blt c7) q15) w_X4_isEmpty k_6_95 (by decide +kernel) rfl (zinb_blt c7) rfl rfl rfl rfl rfl ?_
          refine zif_ne (tgt := 75) (pc := 64) hF (by decide +kernel) (fun b17 => ?_) (fun b17 => ?_)
          · replace h := zit b17 h
            refine zrun hF [(.aload 7, 2, pI 0)] 67 _ (by decide +kernel) ?_
            show zG w f 8 69 ([some (pR 0 0), some (pI a1), some (pI a2), some (pI a3), some (pI a4), some (pI a5), some (pR 8 (ix a1)), some (pR 8 (ix a2))], [pR 8 (ix a2)], (m, n))
            obtain ⟨r19, q18, h⟩ := zr_k h
            refine zcallVI (pc := 69) (As := []) (st := []) (c := 8) (j := (ix a2)) hF (m_X4_isEmpty (zinb_blt c8) q18) w_X4_isEmpty k_6_95 (by decide +kernel) rfl (zinb_blt c8) rfl rfl rfl rfl rfl ?_
            refine zif_eq (tgt := 82) (pc := 72) hF (by decide +kernel) (fun b20 => ?_) (fun b20 => ?_)
            · replace h := zit b20 h
              refine zrun hF [(.aload 6, 2, pI 0), (.getfield 98, 3, pR 8 1), (.aload 7, 2, pI 0), (.getfield 98, 3, pR 8 1)] 82 _ (by decide +kernel) ?_
              refine (And.intro rfl (And.intro (zinb_blt c7) (And.intro rfl (And.intro (zinb_blt c8) ?_))))
              show zG w f 8 92 ([some (pR 0 0), some (pI a1), some (pI a2), some (pI a3), some (pI a4), some (pI a5), some (pR 8 (ix a1)), some (pR 8 (ix a2))], [pI (m.1 8 (ix a2) 1), pI (m.1 8 (ix a1) 1)], (m, n))
              refine zicmp_eq (tgt := 102) (pc := 92) hF (by decide +kernel) (fun b21 => ?_) (fun b21 => ?_)
              · replace h := zit b21 h
                refine zrun hF [(.iload 5, 2, pI 0)] 102 _ (by decide +kernel) ?_
                show zG w f 8 104 ([some (pR 0 0), some (pI a1), some (pI a2), some (pI a3), some (pI a4), some (pI a5), some (pR 8 (ix a1)), some (pR 8 (ix a2))], [pI a5], (m, n))
                refine zif_ge (tgt := 114) (pc := 104) hF (by decide +kernel) (fun b22 => ?_) (fun b22 => ?_)
                · replace h := zit b22 h
                  refine zrun hF [(.aload 6, 2, pI 0), (.iload_n 3, 1, pI 0), (.iload 5, 2, pI 0)] 114 _ (by decide +kernel) ?_
                  show zG w f 8 119 ([some (pR 0 0), some (pI a1), some (pI a2), some (pI a3), some (pI a4), some (pI a5), some (pR 8 (ix a1)), some (pR 8 (ix a2))], [pI a5, pI a3, pR 8 (ix a1)], (m, n))
                  obtain ⟨r24, q23, h⟩ := zr_k h
                  refine zcallVI (pc := 119) (As := [pI a3, pI a5]) (st := []) (c := 8) (j := (ix a1)) hF (m_X4_hasPart (zinb_blt c7) q23) w_X4_hasPart k_6_101 (by decide +kernel) rfl (zinb_blt c7) rfl rfl rfl rfl rfl ?_
                  refine zif_eq (tgt := 137) (pc := 122) hF (by decide +kernel) (fun b25 => ?_) (fun b25 => ?_)
                  · replace h := zit b25 h
                    refine zcut [true, false, false, false, false, false, false, false] ?_
                    exact m_X6_copy_L137 hl hF hR  _  h
                  · replace h := zif b25 h
                    refine zrun hF [(.aload 7, 2, pI 0), (.iload 4, 2, pI 0), (.iload 5, 2, pI 0)] 125 _ (by decide +kernel) ?_
                    show zG w f 8 131 ([some (pR 0 0), some (pI a1), some (pI a2), some (pI a3), some (pI a4), some (pI a5), some (pR 8 (ix a1)), some (pR 8 (ix a2))], [pI a5, pI a4, pR 8 (ix a2)], (m, n))
                    obtain ⟨r27, q26, h⟩ := zr_k h
                    refine zcallVI (pc := 131) (As := [pI a4, pI a5]) (st := []) (c := 8) (j := (ix a2)) hF (m_X4_hasPart (zinb_blt c8) q26) w_X4_hasPart k_6_101 (by decide +kernel) rfl (zinb_blt c8) rfl rfl rfl rfl rfl ?_
                    refine zif_ne (tgt := 144) (pc := 134) hF (by decide +kernel) (fun b28 => ?_) (fun b28 => ?_)
                    · replace h := zit b28 h
                      refine zcut [true, false, false, false, false, false, false, false] ?_
                      exact m_X6_copy_L137 hl hF hR  _  h
                    · replace h := zif b28 h
                      obtain ⟨c29, h⟩ := zac_k h
                      refine zrun hF [(.aload 6, 2, pI 0), (.getfield 105, 3, pR 8 0), (.iload_n 3, 1, pI 0), (.aload 7, 2, pI 0), (.getfield 105, 3, pR 8 0), (.iload 4, 2, pI 0), (.iload 5, 2, pI 0), (.invokestatic 109, 3, pR 201 0)] 144 _ (by decide +kernel) ?_
                      refine (And.intro rfl (And.intro (zinb_blt c7) (And.intro rfl (And.intro (zinb_blt c8) (And.intro rfl (And.intro (And.intro (zinb_blt c8) (zinb_blt c7)) (And.intro c29.1 (And.intro c29.2 (And.intro rfl (And.intro rfl ?_))))))))))
                      refine zlet_k (P := fun (m30 : zMem) => zG w f 8 162 ([some (pR 0 0), some (pI a1), some (pI a2), some (pI a3), some (pI a4), some (pI a5), some (pR 8 (ix a1)), some (pR 8 (ix a2))], [], (m30, n))) h (fun m30 h => ?_)
                      refine zrun hF [(.iconst 1, 1, pI 1)] 162 _ (by decide +kernel) ?_
                      show zG w f 8 163 ([some (pR 0 0), some (pI a1), some (pI a2), some (pI a3), some (pI a4), some (pI a5), some (pR 8 (ix a1)), some (pR 8 (ix a2))], [pI 1], (m30, n))
                      exact zretI (pc := 163) hF hR (by decide +kernel) rfl (congrArg Prod.fst (Option.some.inj h)) (congrArg (fun (q : Int32 × zMem) => (q.2, n)) (Option.some.inj h))
                · replace h := zif b22 h
                  refine zrun hF [(.aload_n 0, 1, pI 0), (.bipush (-4), 2, pI (-4))] 107 _ (by decide +kernel) ?_
                  show zG w f 8 110 ([some (pR 0 0), some (pI a1), some (pI a2), some (pI a3), some (pI a4), some (pI a5), some (pR 8 (ix a1)), some (pR 8 (ix a2))], [pI (-4), pR 0 0], (m, n))
                  obtain ⟨r32, m33, q31, h⟩ := zb_k h
                  refine zcallVI (pc := 110) (As := [pI (-4)]) (st := []) (c := 0) (j := 0) hF (m_X6_refuse  q31) w_X6_refuse k_6_73 (by decide +kernel) rfl rfl rfl rfl rfl rfl rfl ?_
                  exact zretI (pc := 113) hF hR (by decide +kernel) rfl (congrArg Prod.fst (Option.some.inj h)) (congrArg (fun (q : Int32 × zMem) => (q.2, n)) (Option.some.inj h))
              · replace h := zif b21 h
                refine zrun hF [(.aload_n 0, 1, pI 0), (.bipush (-2), 2, pI (-2))] 95 _ (by decide +kernel) ?_
                show zG w f 8 98 ([some (pR 0 0), some (pI a1), some (pI a2), some (pI a3), some (pI a4), some (pI a5), some (pR 8 (ix a1)), some (pR 8 (ix a2))], [pI (-2), pR 0 0], (m, n))
                obtain ⟨r35, m36, q34, h⟩ := zb_k h
                refine zcallVI (pc := 98) (As := [pI (-2)]) (st := []) (c := 0) (j := 0) hF (m_X6_refuse  q34) w_X6_refuse k_6_73 (by decide +kernel) rfl rfl rfl rfl rfl rfl rfl ?_
                exact zretI (pc := 101) hF hR (by decide +kernel) rfl (congrArg Prod.fst (Option.some.inj h)) (congrArg (fun (q : Int32 × zMem) => (q.2, n)) (Option.some.inj h))
            · replace h := zif b20 h
              refine zcut [true, false, false, false, false, false, false, false] ?_
              exact m_X6_copy_L75 hl hF hR  _  h
          · replace h := zif b17 h
            refine zcut [true, false, false, false, false, false, false, false] ?_
            exact m_X6_copy_L75 hl hF hR  _  h
        · replace h := zif b14 h
          refine zcut [true, false, false, false, false, false, false, false] ?_
          exact m_X6_copy_L52 hl hF hR  _  h
      · replace h := zif b11 h
        refine zcut [true, false, false, false, false, false, false, false] ?_
        exact m_X6_copy_L52 hl hF hR  _  h

