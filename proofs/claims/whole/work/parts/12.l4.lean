/-! the law: its calls, by program -/
section LAW3
variable {w : zWd} {p : Program} {l : Launch} {e : Env} {s : State} {m : MethodId} {below : List Frame} {meth : Method} {c9 : Code} {b L cells slots : Nat} {xs : Nat → Int32} {i : Int32}
set_option maxHeartbeats 4000000 in
set_option maxRecDepth 100000 in
theorem law_36 {T : zTab} {c r : zMem} (hF : zFOK w (lwF p l e s m below meth c9 b L cells slots xs) 8 code 4 800) (i1 : inb (i + 1) L = true) (i2 : inb (i + 2) L = true) (i3 : inb (i + 3) L = true) (i4 : inb (i + 4) L = true) (i5 : inb (i + 5) L = true) (h : Rel T c r) (next : ∀ T' c' r', Rel T' c' r' → zG w (lwF p l e s m below meth c9 b L cells slots xs) 4 1573 ([some (pR 63 0), some (pR 0 0), some (pR 64 0), some (pI i)], [], (c', r'))) : zG w (lwF p l e s m below meth c9 b L cells slots xs) 4 1343 ([some (pR 63 0), some (pR 0 0), some (pR 64 0), some (pI i)], [], (c, r)) := by
  obtain ⟨a, c', r', T', e1, e2, hn⟩ := op_goes h (xs (ix (i + 1)))
  refine zrun hF [(.aload_n 1, 1, pI 0), (.aload_n 0, 1, pI 0), (.iload_n 3, 1, pI 0), (.iconst 1, 1, pI 1), (.iadd, 1, pI 0), (.iaload, 1, pI 0)] 1343 _ (by decide +kernel) ?_
  refine (And.intro rfl (And.intro rfl (And.intro i1 ?_)))
  show zG w (lwF p l e s m below meth c9 b L cells slots xs) 4 1349 ([some (pR 63 0), some (pR 0 0), some (pR 64 0), some (pI i)], [pI (xs (ix (i + 1))), pR 0 0], (c, r))
  refine zcallVI (pc := 1349) (As := [pI (xs (ix (i + 1)))]) (st := []) (c := 0) (j := 0) hF (m_X6_goes e1) w_X6_goes k_8_168 (by decide +kernel) rfl rfl rfl rfl rfl rfl rfl ?_
  refine zrun hF [(.aload_n 2, 1, pI 0), (.aload_n 0, 1, pI 0), (.iload_n 3, 1, pI 0), (.iconst 1, 1, pI 1), (.iadd, 1, pI 0), (.iaload, 1, pI 0)] 1352 _ (by decide +kernel) ?_
  refine (And.intro rfl (And.intro rfl (And.intro i1 ?_)))
  show zG w (lwF p l e s m below meth c9 b L cells slots xs) 4 1358 ([some (pR 63 0), some (pR 0 0), some (pR 64 0), some (pI i)], [pI (xs (ix (i + 1))), pR 64 0, pI a], (c', r))
  refine zcallVI (pc := 1358) (As := [pI (xs (ix (i + 1)))]) (st := [pI a]) (c := 64) (j := 0) hF (m_X7_goes e2) w_X7_goes k_8_171 (by decide +kernel) rfl rfl rfl rfl rfl rfl rfl ?_
  exact zicmp_eq (tgt := 1573) (pc := 1361) hF (by decide +kernel) (fun _ => next _ _ _ hn) (fun b => absurd rfl b)
set_option maxHeartbeats 4000000 in
set_option maxRecDepth 100000 in
theorem law_37 {T : zTab} {c r : zMem} (hF : zFOK w (lwF p l e s m below meth c9 b L cells slots xs) 8 code 4 800) (i1 : inb (i + 1) L = true) (i2 : inb (i + 2) L = true) (i3 : inb (i + 3) L = true) (i4 : inb (i + 4) L = true) (i5 : inb (i + 5) L = true) (h : Rel T c r) (next : ∀ T' c' r', Rel T' c' r' → zG w (lwF p l e s m below meth c9 b L cells slots xs) 4 1573 ([some (pR 63 0), some (pR 0 0), some (pR 64 0), some (pI i)], [], (c', r'))) : zG w (lwF p l e s m below meth c9 b L cells slots xs) 4 1366 ([some (pR 63 0), some (pR 0 0), some (pR 64 0), some (pI i)], [], (c, r)) := by
  obtain ⟨a, c', r', T', e1, e2, hn⟩ := op_change h (xs (ix (i + 1))) (xs (ix (i + 2)))
  refine zrun hF [(.aload_n 1, 1, pI 0), (.aload_n 0, 1, pI 0), (.iload_n 3, 1, pI 0), (.iconst 1, 1, pI 1), (.iadd, 1, pI 0), (.iaload, 1, pI 0), (.aload_n 0, 1, pI 0), (.iload_n 3, 1, pI 0), (.iconst 2, 1, pI 2), (.iadd, 1, pI 0), (.iaload, 1, pI 0)] 1366 _ (by decide +kernel) ?_
  refine (And.intro rfl (And.intro rfl (And.intro i1 (And.intro rfl (And.intro rfl (And.intro i2 ?_))))))
  show zG w (lwF p l e s m below meth c9 b L cells slots xs) 4 1377 ([some (pR 63 0), some (pR 0 0), some (pR 64 0), some (pI i)], [pI (xs (ix (i + 2))), pI (xs (ix (i + 1))), pR 0 0], (c, r))
  refine zcallVI (pc := 1377) (As := [pI (xs (ix (i + 1))), pI (xs (ix (i + 2)))]) (st := []) (c := 0) (j := 0) hF (m_X6_change e1) w_X6_change k_8_172 (by decide +kernel) rfl rfl rfl rfl rfl rfl rfl ?_
  refine zrun hF [(.aload_n 2, 1, pI 0), (.aload_n 0, 1, pI 0), (.iload_n 3, 1, pI 0), (.iconst 1, 1, pI 1), (.iadd, 1, pI 0), (.iaload, 1, pI 0), (.aload_n 0, 1, pI 0), (.iload_n 3, 1, pI 0), (.iconst 2, 1, pI 2), (.iadd, 1, pI 0), (.iaload, 1, pI 0)] 1380 _ (by decide +kernel) ?_
  refine (And.intro rfl (And.intro rfl (And.intro i1 (And.intro rfl (And.intro rfl (And.intro i2 ?_))))))
  show zG w (lwF p l e s m below meth c9 b L cells slots xs) 4 1391 ([some (pR 63 0), some (pR 0 0), some (pR 64 0), some (pI i)], [pI (xs (ix (i + 2))), pI (xs (ix (i + 1))), pR 64 0, pI a], (c', r))
  refine zcallVI (pc := 1391) (As := [pI (xs (ix (i + 1))), pI (xs (ix (i + 2)))]) (st := [pI a]) (c := 64) (j := 0) hF (m_X7_change e2) w_X7_change k_8_175 (by decide +kernel) rfl rfl rfl rfl rfl rfl rfl ?_
  exact zicmp_eq (tgt := 1573) (pc := 1394) hF (by decide +kernel) (fun _ => next _ _ _ hn) (fun b => absurd rfl b)
set_option maxHeartbeats 4000000 in
set_option maxRecDepth 100000 in
theorem law_38 {T : zTab} {c r : zMem} (hF : zFOK w (lwF p l e s m below meth c9 b L cells slots xs) 8 code 4 800) (i1 : inb (i + 1) L = true) (i2 : inb (i + 2) L = true) (i3 : inb (i + 3) L = true) (i4 : inb (i + 4) L = true) (i5 : inb (i + 5) L = true) (h : Rel T c r) (next : ∀ T' c' r', Rel T' c' r' → zG w (lwF p l e s m below meth c9 b L cells slots xs) 4 1573 ([some (pR 63 0), some (pR 0 0), some (pR 64 0), some (pI i)], [], (c', r'))) : zG w (lwF p l e s m below meth c9 b L cells slots xs) 4 1399 ([some (pR 63 0), some (pR 0 0), some (pR 64 0), some (pI i)], [], (c, r)) := by
  obtain ⟨a, c', r', T', e1, e2, hn⟩ := op_leaves h 
  refine zrun hF [(.aload_n 1, 1, pI 0)] 1399 _ (by decide +kernel) ?_
  show zG w (lwF p l e s m below meth c9 b L cells slots xs) 4 1400 ([some (pR 63 0), some (pR 0 0), some (pR 64 0), some (pI i)], [pR 0 0], (c, r))
  refine zcallVI (pc := 1400) (As := []) (st := []) (c := 0) (j := 0) hF (m_X6_leaves e1) w_X6_leaves k_8_176 (by decide +kernel) rfl rfl rfl rfl rfl rfl rfl ?_
  refine zrun hF [(.aload_n 2, 1, pI 0)] 1403 _ (by decide +kernel) ?_
  show zG w (lwF p l e s m below meth c9 b L cells slots xs) 4 1404 ([some (pR 63 0), some (pR 0 0), some (pR 64 0), some (pI i)], [pR 64 0, pI a], (c', r))
  refine zcallVI (pc := 1404) (As := []) (st := [pI a]) (c := 64) (j := 0) hF (m_X7_leaves e2) w_X7_leaves k_8_179 (by decide +kernel) rfl rfl rfl rfl rfl rfl rfl ?_
  exact zicmp_eq (tgt := 1573) (pc := 1407) hF (by decide +kernel) (fun _ => next _ _ _ hn) (fun b => absurd rfl b)
set_option maxHeartbeats 4000000 in
set_option maxRecDepth 100000 in
theorem law_39 {T : zTab} {c r : zMem} (hF : zFOK w (lwF p l e s m below meth c9 b L cells slots xs) 8 code 4 800) (i1 : inb (i + 1) L = true) (i2 : inb (i + 2) L = true) (i3 : inb (i + 3) L = true) (i4 : inb (i + 4) L = true) (i5 : inb (i + 5) L = true) (h : Rel T c r) (next : ∀ T' c' r', Rel T' c' r' → zG w (lwF p l e s m below meth c9 b L cells slots xs) 4 1573 ([some (pR 63 0), some (pR 0 0), some (pR 64 0), some (pI i)], [], (c', r'))) : zG w (lwF p l e s m below meth c9 b L cells slots xs) 4 1412 ([some (pR 63 0), some (pR 0 0), some (pR 64 0), some (pI i)], [], (c, r)) := by
  obtain ⟨a, c', r', T', e1, e2, hn⟩ := op_feast h (xs (ix (i + 1)))
  refine zrun hF [(.aload_n 1, 1, pI 0), (.aload_n 0, 1, pI 0), (.iload_n 3, 1, pI 0), (.iconst 1, 1, pI 1), (.iadd, 1, pI 0), (.iaload, 1, pI 0)] 1412 _ (by decide +kernel) ?_
  refine (And.intro rfl (And.intro rfl (And.intro i1 ?_)))
  show zG w (lwF p l e s m below meth c9 b L cells slots xs) 4 1418 ([some (pR 63 0), some (pR 0 0), some (pR 64 0), some (pI i)], [pI (xs (ix (i + 1))), pR 0 0], (c, r))
  refine zcallVI (pc := 1418) (As := [pI (xs (ix (i + 1)))]) (st := []) (c := 0) (j := 0) hF (m_X6_feast e1) w_X6_feast k_8_180 (by decide +kernel) rfl rfl rfl rfl rfl rfl rfl ?_
  refine zrun hF [(.aload_n 2, 1, pI 0), (.aload_n 0, 1, pI 0), (.iload_n 3, 1, pI 0), (.iconst 1, 1, pI 1), (.iadd, 1, pI 0), (.iaload, 1, pI 0)] 1421 _ (by decide +kernel) ?_
  refine (And.intro rfl (And.intro rfl (And.intro i1 ?_)))
  show zG w (lwF p l e s m below meth c9 b L cells slots xs) 4 1427 ([some (pR 63 0), some (pR 0 0), some (pR 64 0), some (pI i)], [pI (xs (ix (i + 1))), pR 64 0, pI a], (c', r))
  refine zcallVI (pc := 1427) (As := [pI (xs (ix (i + 1)))]) (st := [pI a]) (c := 64) (j := 0) hF (m_X7_feast e2) w_X7_feast k_8_183 (by decide +kernel) rfl rfl rfl rfl rfl rfl rfl ?_
  exact zicmp_eq (tgt := 1573) (pc := 1430) hF (by decide +kernel) (fun _ => next _ _ _ hn) (fun b => absurd rfl b)
set_option maxHeartbeats 4000000 in
set_option maxRecDepth 100000 in
theorem law_40 {T : zTab} {c r : zMem} (hF : zFOK w (lwF p l e s m below meth c9 b L cells slots xs) 8 code 4 800) (i1 : inb (i + 1) L = true) (i2 : inb (i + 2) L = true) (i3 : inb (i + 3) L = true) (i4 : inb (i + 4) L = true) (i5 : inb (i + 5) L = true) (h : Rel T c r) (next : ∀ T' c' r', Rel T' c' r' → zG w (lwF p l e s m below meth c9 b L cells slots xs) 4 1573 ([some (pR 63 0), some (pR 0 0), some (pR 64 0), some (pI i)], [], (c', r'))) : zG w (lwF p l e s m below meth c9 b L cells slots xs) 4 1435 ([some (pR 63 0), some (pR 0 0), some (pR 64 0), some (pI i)], [], (c, r)) := by
  obtain ⟨a, c', r', T', e1, e2, hn⟩ := op_seed h (xs (ix (i + 1)))
  refine zrun hF [(.aload_n 1, 1, pI 0), (.aload_n 0, 1, pI 0), (.iload_n 3, 1, pI 0), (.iconst 1, 1, pI 1), (.iadd, 1, pI 0), (.iaload, 1, pI 0)] 1435 _ (by decide +kernel) ?_
  refine (And.intro rfl (And.intro rfl (And.intro i1 ?_)))
  show zG w (lwF p l e s m below meth c9 b L cells slots xs) 4 1441 ([some (pR 63 0), some (pR 0 0), some (pR 64 0), some (pI i)], [pI (xs (ix (i + 1))), pR 0 0], (c, r))
  refine zcallVI (pc := 1441) (As := [pI (xs (ix (i + 1)))]) (st := []) (c := 0) (j := 0) hF (m_X6_seed e1) w_X6_seed k_8_184 (by decide +kernel) rfl rfl rfl rfl rfl rfl rfl ?_
  refine zrun hF [(.aload_n 2, 1, pI 0), (.aload_n 0, 1, pI 0), (.iload_n 3, 1, pI 0), (.iconst 1, 1, pI 1), (.iadd, 1, pI 0), (.iaload, 1, pI 0)] 1444 _ (by decide +kernel) ?_
  refine (And.intro rfl (And.intro rfl (And.intro i1 ?_)))
  show zG w (lwF p l e s m below meth c9 b L cells slots xs) 4 1450 ([some (pR 63 0), some (pR 0 0), some (pR 64 0), some (pI i)], [pI (xs (ix (i + 1))), pR 64 0, pI a], (c', r))
  refine zcallVI (pc := 1450) (As := [pI (xs (ix (i + 1)))]) (st := [pI a]) (c := 64) (j := 0) hF (m_X7_seed e2) w_X7_seed k_8_187 (by decide +kernel) rfl rfl rfl rfl rfl rfl rfl ?_
  exact zicmp_eq (tgt := 1573) (pc := 1453) hF (by decide +kernel) (fun _ => next _ _ _ hn) (fun b => absurd rfl b)
set_option maxHeartbeats 4000000 in
set_option maxRecDepth 100000 in
theorem law_41 {T : zTab} {c r : zMem} (hF : zFOK w (lwF p l e s m below meth c9 b L cells slots xs) 8 code 4 800) (i1 : inb (i + 1) L = true) (i2 : inb (i + 2) L = true) (i3 : inb (i + 3) L = true) (i4 : inb (i + 4) L = true) (i5 : inb (i + 5) L = true) (h : Rel T c r) (next : ∀ T' c' r', Rel T' c' r' → zG w (lwF p l e s m below meth c9 b L cells slots xs) 4 1573 ([some (pR 63 0), some (pR 0 0), some (pR 64 0), some (pI i)], [], (c', r'))) : zG w (lwF p l e s m below meth c9 b L cells slots xs) 4 1458 ([some (pR 63 0), some (pR 0 0), some (pR 64 0), some (pI i)], [], (c, r)) := by
  obtain ⟨a, c', r', T', e1, e2, hn⟩ := op_act h (xs (ix (i + 1))) (xs (ix (i + 2))) (xs (ix (i + 3)))
  refine zrun hF [(.aload_n 1, 1, pI 0), (.aload_n 0, 1, pI 0), (.iload_n 3, 1, pI 0), (.iconst 1, 1, pI 1), (.iadd, 1, pI 0), (.iaload, 1, pI 0), (.aload_n 0, 1, pI 0), (.iload_n 3, 1, pI 0), (.iconst 2, 1, pI 2), (.iadd, 1, pI 0), (.iaload, 1, pI 0), (.aload_n 0, 1, pI 0), (.iload_n 3, 1, pI 0), (.iconst 3, 1, pI 3), (.iadd, 1, pI 0), (.iaload, 1, pI 0)] 1458 _ (by decide +kernel) ?_
  refine (And.intro rfl (And.intro rfl (And.intro i1 (And.intro rfl (And.intro rfl (And.intro i2 (And.intro rfl (And.intro rfl (And.intro i3 ?_)))))))))
  show zG w (lwF p l e s m below meth c9 b L cells slots xs) 4 1474 ([some (pR 63 0), some (pR 0 0), some (pR 64 0), some (pI i)], [pI (xs (ix (i + 3))), pI (xs (ix (i + 2))), pI (xs (ix (i + 1))), pR 0 0], (c, r))
  refine zcallVI (pc := 1474) (As := [pI (xs (ix (i + 1))), pI (xs (ix (i + 2))), pI (xs (ix (i + 3)))]) (st := []) (c := 0) (j := 0) hF (m_X6_act e1) w_X6_act k_8_188 (by decide +kernel) rfl rfl rfl rfl rfl rfl rfl ?_
  refine zrun hF [(.aload_n 2, 1, pI 0), (.aload_n 0, 1, pI 0), (.iload_n 3, 1, pI 0), (.iconst 1, 1, pI 1), (.iadd, 1, pI 0), (.iaload, 1, pI 0), (.aload_n 0, 1, pI 0), (.iload_n 3, 1, pI 0), (.iconst 2, 1, pI 2), (.iadd, 1, pI 0), (.iaload, 1, pI 0), (.aload_n 0, 1, pI 0), (.iload_n 3, 1, pI 0), (.iconst 3, 1, pI 3), (.iadd, 1, pI 0), (.iaload, 1, pI 0)] 1477 _ (by decide +kernel) ?_
  refine (And.intro rfl (And.intro rfl (And.intro i1 (And.intro rfl (And.intro rfl (And.intro i2 (And.intro rfl (And.intro rfl (And.intro i3 ?_)))))))))
  show zG w (lwF p l e s m below meth c9 b L cells slots xs) 4 1493 ([some (pR 63 0), some (pR 0 0), some (pR 64 0), some (pI i)], [pI (xs (ix (i + 3))), pI (xs (ix (i + 2))), pI (xs (ix (i + 1))), pR 64 0, pI a], (c', r))
  refine zcallVI (pc := 1493) (As := [pI (xs (ix (i + 1))), pI (xs (ix (i + 2))), pI (xs (ix (i + 3)))]) (st := [pI a]) (c := 64) (j := 0) hF (m_X7_act e2) w_X7_act k_8_191 (by decide +kernel) rfl rfl rfl rfl rfl rfl rfl ?_
  exact zicmp_eq (tgt := 1573) (pc := 1496) hF (by decide +kernel) (fun _ => next _ _ _ hn) (fun b => absurd rfl b)
set_option maxHeartbeats 4000000 in
set_option maxRecDepth 100000 in
theorem law_42 {T : zTab} {c r : zMem} (hF : zFOK w (lwF p l e s m below meth c9 b L cells slots xs) 8 code 4 800) (i1 : inb (i + 1) L = true) (i2 : inb (i + 2) L = true) (i3 : inb (i + 3) L = true) (i4 : inb (i + 4) L = true) (i5 : inb (i + 5) L = true) (h : Rel T c r) (next : ∀ T' c' r', Rel T' c' r' → zG w (lwF p l e s m below meth c9 b L cells slots xs) 4 1573 ([some (pR 63 0), some (pR 0 0), some (pR 64 0), some (pI i)], [], (c', r'))) : zG w (lwF p l e s m below meth c9 b L cells slots xs) 4 1501 ([some (pR 63 0), some (pR 0 0), some (pR 64 0), some (pI i)], [], (c, r)) := by
  obtain ⟨a, e1, e2⟩ := op_trace h (xs (ix (i + 1)))
  refine zrun hF [(.aload_n 1, 1, pI 0), (.aload_n 0, 1, pI 0), (.iload_n 3, 1, pI 0), (.iconst 1, 1, pI 1), (.iadd, 1, pI 0), (.iaload, 1, pI 0)] 1501 _ (by decide +kernel) ?_
  refine (And.intro rfl (And.intro rfl (And.intro i1 ?_)))
  show zG w (lwF p l e s m below meth c9 b L cells slots xs) 4 1507 ([some (pR 63 0), some (pR 0 0), some (pR 64 0), some (pI i)], [pI (xs (ix (i + 1))), pR 0 0], (c, r))
  refine zcallVI (pc := 1507) (As := [pI (xs (ix (i + 1)))]) (st := []) (c := 0) (j := 0) hF (m_X6_trace e1) w_X6_trace k_8_192 (by decide +kernel) rfl rfl rfl rfl rfl rfl rfl ?_
  refine zrun hF [(.aload_n 2, 1, pI 0), (.aload_n 0, 1, pI 0), (.iload_n 3, 1, pI 0), (.iconst 1, 1, pI 1), (.iadd, 1, pI 0), (.iaload, 1, pI 0)] 1510 _ (by decide +kernel) ?_
  refine (And.intro rfl (And.intro rfl (And.intro i1 ?_)))
  show zG w (lwF p l e s m below meth c9 b L cells slots xs) 4 1516 ([some (pR 63 0), some (pR 0 0), some (pR 64 0), some (pI i)], [pI (xs (ix (i + 1))), pR 64 0, pI a], (c, r))
  refine zcallVI (pc := 1516) (As := [pI (xs (ix (i + 1)))]) (st := [pI a]) (c := 64) (j := 0) hF (m_X7_trace e2) w_X7_trace k_8_195 (by decide +kernel) rfl rfl rfl rfl rfl rfl rfl ?_
  exact zicmp_eq (tgt := 1573) (pc := 1519) hF (by decide +kernel) (fun _ => next _ _ _ h) (fun b => absurd rfl b)
set_option maxHeartbeats 4000000 in
set_option maxRecDepth 100000 in
theorem law_43 {T : zTab} {c r : zMem} (hF : zFOK w (lwF p l e s m below meth c9 b L cells slots xs) 8 code 4 800) (i1 : inb (i + 1) L = true) (i2 : inb (i + 2) L = true) (i3 : inb (i + 3) L = true) (i4 : inb (i + 4) L = true) (i5 : inb (i + 5) L = true) (h : Rel T c r) (next : ∀ T' c' r', Rel T' c' r' → zG w (lwF p l e s m below meth c9 b L cells slots xs) 4 1573 ([some (pR 63 0), some (pR 0 0), some (pR 64 0), some (pI i)], [], (c', r'))) : zG w (lwF p l e s m below meth c9 b L cells slots xs) 4 1524 ([some (pR 63 0), some (pR 0 0), some (pR 64 0), some (pI i)], [], (c, r)) := by
  obtain ⟨a, c', r', T', e1, e2, hn⟩ := op_image h 
  refine zrun hF [(.aload_n 1, 1, pI 0)] 1524 _ (by decide +kernel) ?_
  show zG w (lwF p l e s m below meth c9 b L cells slots xs) 4 1525 ([some (pR 63 0), some (pR 0 0), some (pR 64 0), some (pI i)], [pR 0 0], (c, r))
  refine zcallVI (pc := 1525) (As := []) (st := []) (c := 0) (j := 0) hF (m_X6_image e1) w_X6_image k_8_196 (by decide +kernel) rfl rfl rfl rfl rfl rfl rfl ?_
  refine zrun hF [(.aload_n 2, 1, pI 0)] 1528 _ (by decide +kernel) ?_
  show zG w (lwF p l e s m below meth c9 b L cells slots xs) 4 1529 ([some (pR 63 0), some (pR 0 0), some (pR 64 0), some (pI i)], [pR 64 0, pI a], (c', r))
  refine zcallVI (pc := 1529) (As := []) (st := [pI a]) (c := 64) (j := 0) hF (m_X7_image e2) w_X7_image k_8_199 (by decide +kernel) rfl rfl rfl rfl rfl rfl rfl ?_
  exact zicmp_eq (tgt := 1573) (pc := 1532) hF (by decide +kernel) (fun _ => next _ _ _ hn) (fun b => absurd rfl b)
set_option maxHeartbeats 4000000 in
set_option maxRecDepth 100000 in
theorem law_44 {T : zTab} {c r : zMem} (hF : zFOK w (lwF p l e s m below meth c9 b L cells slots xs) 8 code 4 800) (i1 : inb (i + 1) L = true) (i2 : inb (i + 2) L = true) (i3 : inb (i + 3) L = true) (i4 : inb (i + 4) L = true) (i5 : inb (i + 5) L = true) (h : Rel T c r) (next : ∀ T' c' r', Rel T' c' r' → zG w (lwF p l e s m below meth c9 b L cells slots xs) 4 1573 ([some (pR 63 0), some (pR 0 0), some (pR 64 0), some (pI i)], [], (c', r'))) : zG w (lwF p l e s m below meth c9 b L cells slots xs) 4 1537 ([some (pR 63 0), some (pR 0 0), some (pR 64 0), some (pI i)], [], (c, r)) := by
  obtain ⟨a, c', r', T', e1, e2, hn⟩ := op_restore h 
  refine zrun hF [(.aload_n 1, 1, pI 0)] 1537 _ (by decide +kernel) ?_
  show zG w (lwF p l e s m below meth c9 b L cells slots xs) 4 1538 ([some (pR 63 0), some (pR 0 0), some (pR 64 0), some (pI i)], [pR 0 0], (c, r))
  refine zcallVI (pc := 1538) (As := []) (st := []) (c := 0) (j := 0) hF (m_X6_restore e1) w_X6_restore k_8_200 (by decide +kernel) rfl rfl rfl rfl rfl rfl rfl ?_
  refine zrun hF [(.aload_n 2, 1, pI 0)] 1541 _ (by decide +kernel) ?_
  show zG w (lwF p l e s m below meth c9 b L cells slots xs) 4 1542 ([some (pR 63 0), some (pR 0 0), some (pR 64 0), some (pI i)], [pR 64 0, pI a], (c', r))
  refine zcallVI (pc := 1542) (As := []) (st := [pI a]) (c := 64) (j := 0) hF (m_X7_restore e2) w_X7_restore k_8_203 (by decide +kernel) rfl rfl rfl rfl rfl rfl rfl ?_
  exact zicmp_eq (tgt := 1573) (pc := 1545) hF (by decide +kernel) (fun _ => next _ _ _ hn) (fun b => absurd rfl b)
set_option maxHeartbeats 4000000 in
set_option maxRecDepth 100000 in
theorem law_45 {T : zTab} {c r : zMem} (hF : zFOK w (lwF p l e s m below meth c9 b L cells slots xs) 8 code 4 800) (i1 : inb (i + 1) L = true) (i2 : inb (i + 2) L = true) (i3 : inb (i + 3) L = true) (i4 : inb (i + 4) L = true) (i5 : inb (i + 5) L = true) (h : Rel T c r) (next : ∀ T' c' r', Rel T' c' r' → zG w (lwF p l e s m below meth c9 b L cells slots xs) 4 1573 ([some (pR 63 0), some (pR 0 0), some (pR 64 0), some (pI i)], [], (c', r'))) : zG w (lwF p l e s m below meth c9 b L cells slots xs) 4 1550 ([some (pR 63 0), some (pR 0 0), some (pR 64 0), some (pI i)], [], (c, r)) := by
  obtain ⟨a, e1, e2⟩ := op_status h (xs (ix (i + 1)))
  refine zrun hF [(.aload_n 1, 1, pI 0), (.aload_n 0, 1, pI 0), (.iload_n 3, 1, pI 0), (.iconst 1, 1, pI 1), (.iadd, 1, pI 0), (.iaload, 1, pI 0)] 1550 _ (by decide +kernel) ?_
  refine (And.intro rfl (And.intro rfl (And.intro i1 ?_)))
  show zG w (lwF p l e s m below meth c9 b L cells slots xs) 4 1556 ([some (pR 63 0), some (pR 0 0), some (pR 64 0), some (pI i)], [pI (xs (ix (i + 1))), pR 0 0], (c, r))
  refine zcallVI (pc := 1556) (As := [pI (xs (ix (i + 1)))]) (st := []) (c := 0) (j := 0) hF (m_X6_status e1) w_X6_status k_8_204 (by decide +kernel) rfl rfl rfl rfl rfl rfl rfl ?_
  refine zrun hF [(.aload_n 2, 1, pI 0), (.aload_n 0, 1, pI 0), (.iload_n 3, 1, pI 0), (.iconst 1, 1, pI 1), (.iadd, 1, pI 0), (.iaload, 1, pI 0)] 1559 _ (by decide +kernel) ?_
  refine (And.intro rfl (And.intro rfl (And.intro i1 ?_)))
  show zG w (lwF p l e s m below meth c9 b L cells slots xs) 4 1565 ([some (pR 63 0), some (pR 0 0), some (pR 64 0), some (pI i)], [pI (xs (ix (i + 1))), pR 64 0, pI a], (c, r))
  refine zcallVI (pc := 1565) (As := [pI (xs (ix (i + 1)))]) (st := [pI a]) (c := 64) (j := 0) hF (m_X7_status e2) w_X7_status k_8_207 (by decide +kernel) rfl rfl rfl rfl rfl rfl rfl ?_
  exact zicmp_eq (tgt := 1573) (pc := 1568) hF (by decide +kernel) (fun _ => next _ _ _ h) (fun b => absurd rfl b)
end LAW3
