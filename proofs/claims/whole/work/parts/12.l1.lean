/-! the law: its calls, by program -/
section LAW0
variable {w : zWd} {p : Program} {l : Launch} {e : Env} {s : State} {m : MethodId} {below : List Frame} {meth : Method} {c9 : Code} {b L cells slots : Nat} {xs : Nat → Int32} {i : Int32}
set_option maxHeartbeats 4000000 in
set_option maxRecDepth 100000 in
theorem law_0 {T : zTab} {c r : zMem} (hF : zFOK w (lwF p l e s m below meth c9 b L cells slots xs) 8 code 4 800) (i1 : inb (i + 1) L = true) (i2 : inb (i + 2) L = true) (i3 : inb (i + 3) L = true) (i4 : inb (i + 4) L = true) (i5 : inb (i + 5) L = true) (h : Rel T c r) (next : ∀ T' c' r', Rel T' c' r' → zG w (lwF p l e s m below meth c9 b L cells slots xs) 4 1573 ([some (pR 63 0), some (pR 0 0), some (pR 64 0), some (pI i)], [], (c', r'))) : zG w (lwF p l e s m below meth c9 b L cells slots xs) 4 232 ([some (pR 63 0), some (pR 0 0), some (pR 64 0), some (pI i)], [], (c, r)) := by
  obtain ⟨a, c', r', T', e1, e2, hn⟩ := op_row h (xs (ix (i + 1))) (xs (ix (i + 2))) (xs (ix (i + 3)))
  refine zrun hF [(.aload_n 1, 1, pI 0), (.aload_n 0, 1, pI 0), (.iload_n 3, 1, pI 0), (.iconst 1, 1, pI 1), (.iadd, 1, pI 0), (.iaload, 1, pI 0), (.aload_n 0, 1, pI 0), (.iload_n 3, 1, pI 0), (.iconst 2, 1, pI 2), (.iadd, 1, pI 0), (.iaload, 1, pI 0), (.aload_n 0, 1, pI 0), (.iload_n 3, 1, pI 0), (.iconst 3, 1, pI 3), (.iadd, 1, pI 0), (.iaload, 1, pI 0)] 232 _ (by decide +kernel) ?_
  refine (And.intro rfl (And.intro rfl (And.intro i1 (And.intro rfl (And.intro rfl (And.intro i2 (And.intro rfl (And.intro rfl (And.intro i3 ?_)))))))))
  show zG w (lwF p l e s m below meth c9 b L cells slots xs) 4 248 ([some (pR 63 0), some (pR 0 0), some (pR 64 0), some (pI i)], [pI (xs (ix (i + 3))), pI (xs (ix (i + 2))), pI (xs (ix (i + 1))), pR 0 0], (c, r))
  refine zcallVI (pc := 248) (As := [pI (xs (ix (i + 1))), pI (xs (ix (i + 2))), pI (xs (ix (i + 3)))]) (st := []) (c := 0) (j := 0) hF (m_X6_row e1) w_X6_row k_8_13 (by decide +kernel) rfl rfl rfl rfl rfl rfl rfl ?_
  refine zrun hF [(.aload_n 2, 1, pI 0), (.aload_n 0, 1, pI 0), (.iload_n 3, 1, pI 0), (.iconst 1, 1, pI 1), (.iadd, 1, pI 0), (.iaload, 1, pI 0), (.aload_n 0, 1, pI 0), (.iload_n 3, 1, pI 0), (.iconst 2, 1, pI 2), (.iadd, 1, pI 0), (.iaload, 1, pI 0), (.aload_n 0, 1, pI 0), (.iload_n 3, 1, pI 0), (.iconst 3, 1, pI 3), (.iadd, 1, pI 0), (.iaload, 1, pI 0)] 251 _ (by decide +kernel) ?_
  refine (And.intro rfl (And.intro rfl (And.intro i1 (And.intro rfl (And.intro rfl (And.intro i2 (And.intro rfl (And.intro rfl (And.intro i3 ?_)))))))))
  show zG w (lwF p l e s m below meth c9 b L cells slots xs) 4 267 ([some (pR 63 0), some (pR 0 0), some (pR 64 0), some (pI i)], [pI (xs (ix (i + 3))), pI (xs (ix (i + 2))), pI (xs (ix (i + 1))), pR 64 0, pI a], (c', r))
  refine zcallVI (pc := 267) (As := [pI (xs (ix (i + 1))), pI (xs (ix (i + 2))), pI (xs (ix (i + 3)))]) (st := [pI a]) (c := 64) (j := 0) hF (m_X7_row e2) w_X7_row k_8_17 (by decide +kernel) rfl rfl rfl rfl rfl rfl rfl ?_
  exact zicmp_eq (tgt := 1573) (pc := 270) hF (by decide +kernel) (fun _ => next _ _ _ hn) (fun b => absurd rfl b)
set_option maxHeartbeats 4000000 in
set_option maxRecDepth 100000 in
theorem law_1 {T : zTab} {c r : zMem} (hF : zFOK w (lwF p l e s m below meth c9 b L cells slots xs) 8 code 4 800) (i1 : inb (i + 1) L = true) (i2 : inb (i + 2) L = true) (i3 : inb (i + 3) L = true) (i4 : inb (i + 4) L = true) (i5 : inb (i + 5) L = true) (h : Rel T c r) (next : ∀ T' c' r', Rel T' c' r' → zG w (lwF p l e s m below meth c9 b L cells slots xs) 4 1573 ([some (pR 63 0), some (pR 0 0), some (pR 64 0), some (pI i)], [], (c', r'))) : zG w (lwF p l e s m below meth c9 b L cells slots xs) 4 275 ([some (pR 63 0), some (pR 0 0), some (pR 64 0), some (pI i)], [], (c, r)) := by
  obtain ⟨a, c', r', T', e1, e2, hn⟩ := op_set h (xs (ix (i + 1))) (xs (ix (i + 2))) ((jlshl (Int32.toInt64 (xs (ix (i + 3)))) 32) ||| ((Int32.toInt64 (xs (ix (i + 4)))) &&& 4294967295))
  refine zrun hF [(.aload_n 1, 1, pI 0), (.aload_n 0, 1, pI 0), (.iload_n 3, 1, pI 0), (.iconst 1, 1, pI 1), (.iadd, 1, pI 0), (.iaload, 1, pI 0), (.aload_n 0, 1, pI 0), (.iload_n 3, 1, pI 0), (.iconst 2, 1, pI 2), (.iadd, 1, pI 0), (.iaload, 1, pI 0), (.aload_n 0, 1, pI 0), (.iload_n 3, 1, pI 0), (.iconst 3, 1, pI 3), (.iadd, 1, pI 0), (.iaload, 1, pI 0), (.i2l, 1, pI 0), (.bipush 32, 2, pI 32), (.lshl, 1, pI 0), (.aload_n 0, 1, pI 0), (.iload_n 3, 1, pI 0), (.iconst 4, 1, pI 4), (.iadd, 1, pI 0), (.iaload, 1, pI 0), (.i2l, 1, pI 0), (.ldc2_w 18, 3, pL 4294967295), (.land, 1, pI 0), (.lor, 1, pI 0)] 275 _ (by decide +kernel) ?_
  refine (And.intro rfl (And.intro rfl (And.intro i1 (And.intro rfl (And.intro rfl (And.intro i2 (And.intro rfl (And.intro rfl (And.intro i3 (And.intro rfl (And.intro rfl (And.intro i4 ?_))))))))))))
  show zG w (lwF p l e s m below meth c9 b L cells slots xs) 4 306 ([some (pR 63 0), some (pR 0 0), some (pR 64 0), some (pI i)], [pL ((jlshl (Int32.toInt64 (xs (ix (i + 3)))) 32) ||| ((Int32.toInt64 (xs (ix (i + 4)))) &&& 4294967295)), pI (xs (ix (i + 2))), pI (xs (ix (i + 1))), pR 0 0], (c, r))
  refine zcallVI (pc := 306) (As := [pI (xs (ix (i + 1))), pI (xs (ix (i + 2))), pL ((jlshl (Int32.toInt64 (xs (ix (i + 3)))) 32) ||| ((Int32.toInt64 (xs (ix (i + 4)))) &&& 4294967295))]) (st := []) (c := 0) (j := 0) hF (m_X6_set e1) w_X6_set k_8_20 (by decide +kernel) rfl rfl rfl rfl rfl rfl rfl ?_
  refine zrun hF [(.aload_n 2, 1, pI 0), (.aload_n 0, 1, pI 0), (.iload_n 3, 1, pI 0), (.iconst 1, 1, pI 1), (.iadd, 1, pI 0), (.iaload, 1, pI 0), (.aload_n 0, 1, pI 0), (.iload_n 3, 1, pI 0), (.iconst 2, 1, pI 2), (.iadd, 1, pI 0), (.iaload, 1, pI 0), (.aload_n 0, 1, pI 0), (.iload_n 3, 1, pI 0), (.iconst 3, 1, pI 3), (.iadd, 1, pI 0), (.iaload, 1, pI 0), (.i2l, 1, pI 0), (.bipush 32, 2, pI 32), (.lshl, 1, pI 0), (.aload_n 0, 1, pI 0), (.iload_n 3, 1, pI 0), (.iconst 4, 1, pI 4), (.iadd, 1, pI 0), (.iaload, 1, pI 0), (.i2l, 1, pI 0), (.ldc2_w 18, 3, pL 4294967295), (.land, 1, pI 0), (.lor, 1, pI 0)] 309 _ (by decide +kernel) ?_
  refine (And.intro rfl (And.intro rfl (And.intro i1 (And.intro rfl (And.intro rfl (And.intro i2 (And.intro rfl (And.intro rfl (And.intro i3 (And.intro rfl (And.intro rfl (And.intro i4 ?_))))))))))))
  show zG w (lwF p l e s m below meth c9 b L cells slots xs) 4 340 ([some (pR 63 0), some (pR 0 0), some (pR 64 0), some (pI i)], [pL ((jlshl (Int32.toInt64 (xs (ix (i + 3)))) 32) ||| ((Int32.toInt64 (xs (ix (i + 4)))) &&& 4294967295)), pI (xs (ix (i + 2))), pI (xs (ix (i + 1))), pR 64 0, pI a], (c', r))
  refine zcallVI (pc := 340) (As := [pI (xs (ix (i + 1))), pI (xs (ix (i + 2))), pL ((jlshl (Int32.toInt64 (xs (ix (i + 3)))) 32) ||| ((Int32.toInt64 (xs (ix (i + 4)))) &&& 4294967295))]) (st := [pI a]) (c := 64) (j := 0) hF (m_X7_set e2) w_X7_set k_8_24 (by decide +kernel) rfl rfl rfl rfl rfl rfl rfl ?_
  exact zicmp_eq (tgt := 1573) (pc := 343) hF (by decide +kernel) (fun _ => next _ _ _ hn) (fun b => absurd rfl b)
set_option maxHeartbeats 4000000 in
set_option maxRecDepth 100000 in
theorem law_2 {T : zTab} {c r : zMem} (hF : zFOK w (lwF p l e s m below meth c9 b L cells slots xs) 8 code 4 800) (i1 : inb (i + 1) L = true) (i2 : inb (i + 2) L = true) (i3 : inb (i + 3) L = true) (i4 : inb (i + 4) L = true) (i5 : inb (i + 5) L = true) (h : Rel T c r) (next : ∀ T' c' r', Rel T' c' r' → zG w (lwF p l e s m below meth c9 b L cells slots xs) 4 1573 ([some (pR 63 0), some (pR 0 0), some (pR 64 0), some (pI i)], [], (c', r'))) : zG w (lwF p l e s m below meth c9 b L cells slots xs) 4 348 ([some (pR 63 0), some (pR 0 0), some (pR 64 0), some (pI i)], [], (c, r)) := by
  obtain ⟨a, c', r', T', e1, e2, hn⟩ := op_copy h (xs (ix (i + 1))) (xs (ix (i + 2))) (xs (ix (i + 3))) (xs (ix (i + 4))) (xs (ix (i + 5)))
  refine zrun hF [(.aload_n 1, 1, pI 0), (.aload_n 0, 1, pI 0), (.iload_n 3, 1, pI 0), (.iconst 1, 1, pI 1), (.iadd, 1, pI 0), (.iaload, 1, pI 0), (.aload_n 0, 1, pI 0), (.iload_n 3, 1, pI 0), (.iconst 2, 1, pI 2), (.iadd, 1, pI 0), (.iaload, 1, pI 0), (.aload_n 0, 1, pI 0), (.iload_n 3, 1, pI 0), (.iconst 3, 1, pI 3), (.iadd, 1, pI 0), (.iaload, 1, pI 0), (.aload_n 0, 1, pI 0), (.iload_n 3, 1, pI 0), (.iconst 4, 1, pI 4), (.iadd, 1, pI 0), (.iaload, 1, pI 0), (.aload_n 0, 1, pI 0), (.iload_n 3, 1, pI 0), (.iconst 5, 1, pI 5), (.iadd, 1, pI 0), (.iaload, 1, pI 0)] 348 _ (by decide +kernel) ?_
  refine (And.intro rfl (And.intro rfl (And.intro i1 (And.intro rfl (And.intro rfl (And.intro i2 (And.intro rfl (And.intro rfl (And.intro i3 (And.intro rfl (And.intro rfl (And.intro i4 (And.intro rfl (And.intro rfl (And.intro i5 ?_)))))))))))))))
  show zG w (lwF p l e s m below meth c9 b L cells slots xs) 4 374 ([some (pR 63 0), some (pR 0 0), some (pR 64 0), some (pI i)], [pI (xs (ix (i + 5))), pI (xs (ix (i + 4))), pI (xs (ix (i + 3))), pI (xs (ix (i + 2))), pI (xs (ix (i + 1))), pR 0 0], (c, r))
  refine zcallVI (pc := 374) (As := [pI (xs (ix (i + 1))), pI (xs (ix (i + 2))), pI (xs (ix (i + 3))), pI (xs (ix (i + 4))), pI (xs (ix (i + 5)))]) (st := []) (c := 0) (j := 0) hF (m_X6_copy e1) w_X6_copy k_8_25 (by decide +kernel) rfl rfl rfl rfl rfl rfl rfl ?_
  refine zrun hF [(.aload_n 2, 1, pI 0), (.aload_n 0, 1, pI 0), (.iload_n 3, 1, pI 0), (.iconst 1, 1, pI 1), (.iadd, 1, pI 0), (.iaload, 1, pI 0), (.aload_n 0, 1, pI 0), (.iload_n 3, 1, pI 0), (.iconst 2, 1, pI 2), (.iadd, 1, pI 0), (.iaload, 1, pI 0), (.aload_n 0, 1, pI 0), (.iload_n 3, 1, pI 0), (.iconst 3, 1, pI 3), (.iadd, 1, pI 0), (.iaload, 1, pI 0), (.aload_n 0, 1, pI 0), (.iload_n 3, 1, pI 0), (.iconst 4, 1, pI 4), (.iadd, 1, pI 0), (.iaload, 1, pI 0), (.aload_n 0, 1, pI 0), (.iload_n 3, 1, pI 0), (.iconst 5, 1, pI 5), (.iadd, 1, pI 0), (.iaload, 1, pI 0)] 377 _ (by decide +kernel) ?_
  refine (And.intro rfl (And.intro rfl (And.intro i1 (And.intro rfl (And.intro rfl (And.intro i2 (And.intro rfl (And.intro rfl (And.intro i3 (And.intro rfl (And.intro rfl (And.intro i4 (And.intro rfl (And.intro rfl (And.intro i5 ?_)))))))))))))))
  show zG w (lwF p l e s m below meth c9 b L cells slots xs) 4 403 ([some (pR 63 0), some (pR 0 0), some (pR 64 0), some (pI i)], [pI (xs (ix (i + 5))), pI (xs (ix (i + 4))), pI (xs (ix (i + 3))), pI (xs (ix (i + 2))), pI (xs (ix (i + 1))), pR 64 0, pI a], (c', r))
  refine zcallVI (pc := 403) (As := [pI (xs (ix (i + 1))), pI (xs (ix (i + 2))), pI (xs (ix (i + 3))), pI (xs (ix (i + 4))), pI (xs (ix (i + 5)))]) (st := [pI a]) (c := 64) (j := 0) hF (m_X7_copy e2) w_X7_copy k_8_29 (by decide +kernel) rfl rfl rfl rfl rfl rfl rfl ?_
  exact zicmp_eq (tgt := 1573) (pc := 406) hF (by decide +kernel) (fun _ => next _ _ _ hn) (fun b => absurd rfl b)
set_option maxHeartbeats 4000000 in
set_option maxRecDepth 100000 in
theorem law_3 {T : zTab} {c r : zMem} (hF : zFOK w (lwF p l e s m below meth c9 b L cells slots xs) 8 code 4 800) (i1 : inb (i + 1) L = true) (i2 : inb (i + 2) L = true) (i3 : inb (i + 3) L = true) (i4 : inb (i + 4) L = true) (i5 : inb (i + 5) L = true) (h : Rel T c r) (next : ∀ T' c' r', Rel T' c' r' → zG w (lwF p l e s m below meth c9 b L cells slots xs) 4 1573 ([some (pR 63 0), some (pR 0 0), some (pR 64 0), some (pI i)], [], (c', r'))) : zG w (lwF p l e s m below meth c9 b L cells slots xs) 4 411 ([some (pR 63 0), some (pR 0 0), some (pR 64 0), some (pI i)], [], (c, r)) := by
  obtain ⟨a, e1, e2⟩ := op_element h (xs (ix (i + 1))) (xs (ix (i + 2)))
  refine zrun hF [(.aload_n 1, 1, pI 0), (.aload_n 0, 1, pI 0), (.iload_n 3, 1, pI 0), (.iconst 1, 1, pI 1), (.iadd, 1, pI 0), (.iaload, 1, pI 0), (.aload_n 0, 1, pI 0), (.iload_n 3, 1, pI 0), (.iconst 2, 1, pI 2), (.iadd, 1, pI 0), (.iaload, 1, pI 0)] 411 _ (by decide +kernel) ?_
  refine (And.intro rfl (And.intro rfl (And.intro i1 (And.intro rfl (And.intro rfl (And.intro i2 ?_))))))
  show zG w (lwF p l e s m below meth c9 b L cells slots xs) 4 422 ([some (pR 63 0), some (pR 0 0), some (pR 64 0), some (pI i)], [pI (xs (ix (i + 2))), pI (xs (ix (i + 1))), pR 0 0], (c, r))
  refine zcallVL (pc := 422) (As := [pI (xs (ix (i + 1))), pI (xs (ix (i + 2)))]) (st := []) (c := 0) (j := 0) hF (m_X6_element e1) w_X6_element k_8_30 (by decide +kernel) rfl rfl rfl rfl rfl rfl rfl ?_
  refine zrun hF [(.aload_n 2, 1, pI 0), (.aload_n 0, 1, pI 0), (.iload_n 3, 1, pI 0), (.iconst 1, 1, pI 1), (.iadd, 1, pI 0), (.iaload, 1, pI 0), (.aload_n 0, 1, pI 0), (.iload_n 3, 1, pI 0), (.iconst 2, 1, pI 2), (.iadd, 1, pI 0), (.iaload, 1, pI 0)] 425 _ (by decide +kernel) ?_
  refine (And.intro rfl (And.intro rfl (And.intro i1 (And.intro rfl (And.intro rfl (And.intro i2 ?_))))))
  show zG w (lwF p l e s m below meth c9 b L cells slots xs) 4 436 ([some (pR 63 0), some (pR 0 0), some (pR 64 0), some (pI i)], [pI (xs (ix (i + 2))), pI (xs (ix (i + 1))), pR 64 0, pL a], (c, r))
  refine zcallVL (pc := 436) (As := [pI (xs (ix (i + 1))), pI (xs (ix (i + 2)))]) (st := [pL a]) (c := 64) (j := 0) hF (m_X7_element e2) w_X7_element k_8_34 (by decide +kernel) rfl rfl rfl rfl rfl rfl rfl ?_
  refine zrun hF [(.lcmp, 1, pI 0)] 439 _ (by decide +kernel) ?_
  show zG w (lwF p l e s m below meth c9 b L cells slots xs) 4 440 ([some (pR 63 0), some (pR 0 0), some (pR 64 0), some (pI i)], [pI (lg_cmp a a)], (c, r))
  exact zif_eq (tgt := 1573) (pc := 440) hF (by decide +kernel) (fun _ => next _ _ _ h) (fun b => absurd lg_self b)
set_option maxHeartbeats 4000000 in
set_option maxRecDepth 100000 in
theorem law_4 {T : zTab} {c r : zMem} (hF : zFOK w (lwF p l e s m below meth c9 b L cells slots xs) 8 code 4 800) (i1 : inb (i + 1) L = true) (i2 : inb (i + 2) L = true) (i3 : inb (i + 3) L = true) (i4 : inb (i + 4) L = true) (i5 : inb (i + 5) L = true) (h : Rel T c r) (next : ∀ T' c' r', Rel T' c' r' → zG w (lwF p l e s m below meth c9 b L cells slots xs) 4 1573 ([some (pR 63 0), some (pR 0 0), some (pR 64 0), some (pI i)], [], (c', r'))) : zG w (lwF p l e s m below meth c9 b L cells slots xs) 4 445 ([some (pR 63 0), some (pR 0 0), some (pR 64 0), some (pI i)], [], (c, r)) := by
  obtain ⟨a, c', r', T', e1, e2, hn⟩ := op_show h (xs (ix (i + 1))) (xs (ix (i + 2)))
  refine zrun hF [(.aload_n 1, 1, pI 0), (.aload_n 0, 1, pI 0), (.iload_n 3, 1, pI 0), (.iconst 1, 1, pI 1), (.iadd, 1, pI 0), (.iaload, 1, pI 0), (.aload_n 0, 1, pI 0), (.iload_n 3, 1, pI 0), (.iconst 2, 1, pI 2), (.iadd, 1, pI 0), (.iaload, 1, pI 0)] 445 _ (by decide +kernel) ?_
  refine (And.intro rfl (And.intro rfl (And.intro i1 (And.intro rfl (And.intro rfl (And.intro i2 ?_))))))
  show zG w (lwF p l e s m below meth c9 b L cells slots xs) 4 456 ([some (pR 63 0), some (pR 0 0), some (pR 64 0), some (pI i)], [pI (xs (ix (i + 2))), pI (xs (ix (i + 1))), pR 0 0], (c, r))
  refine zcallVI (pc := 456) (As := [pI (xs (ix (i + 1))), pI (xs (ix (i + 2)))]) (st := []) (c := 0) (j := 0) hF (m_X6_show e1) w_X6_show k_8_35 (by decide +kernel) rfl rfl rfl rfl rfl rfl rfl ?_
  refine zrun hF [(.aload_n 2, 1, pI 0), (.aload_n 0, 1, pI 0), (.iload_n 3, 1, pI 0), (.iconst 1, 1, pI 1), (.iadd, 1, pI 0), (.iaload, 1, pI 0), (.aload_n 0, 1, pI 0), (.iload_n 3, 1, pI 0), (.iconst 2, 1, pI 2), (.iadd, 1, pI 0), (.iaload, 1, pI 0)] 459 _ (by decide +kernel) ?_
  refine (And.intro rfl (And.intro rfl (And.intro i1 (And.intro rfl (And.intro rfl (And.intro i2 ?_))))))
  show zG w (lwF p l e s m below meth c9 b L cells slots xs) 4 470 ([some (pR 63 0), some (pR 0 0), some (pR 64 0), some (pI i)], [pI (xs (ix (i + 2))), pI (xs (ix (i + 1))), pR 64 0, pI a], (c', r))
  refine zcallVI (pc := 470) (As := [pI (xs (ix (i + 1))), pI (xs (ix (i + 2)))]) (st := [pI a]) (c := 64) (j := 0) hF (m_X7_show e2) w_X7_show k_8_39 (by decide +kernel) rfl rfl rfl rfl rfl rfl rfl ?_
  exact zicmp_eq (tgt := 1573) (pc := 473) hF (by decide +kernel) (fun _ => next _ _ _ hn) (fun b => absurd rfl b)
set_option maxHeartbeats 4000000 in
set_option maxRecDepth 100000 in
theorem law_5 {T : zTab} {c r : zMem} (hF : zFOK w (lwF p l e s m below meth c9 b L cells slots xs) 8 code 4 800) (i1 : inb (i + 1) L = true) (i2 : inb (i + 2) L = true) (i3 : inb (i + 3) L = true) (i4 : inb (i + 4) L = true) (i5 : inb (i + 5) L = true) (h : Rel T c r) (next : ∀ T' c' r', Rel T' c' r' → zG w (lwF p l e s m below meth c9 b L cells slots xs) 4 1573 ([some (pR 63 0), some (pR 0 0), some (pR 64 0), some (pI i)], [], (c', r'))) : zG w (lwF p l e s m below meth c9 b L cells slots xs) 4 478 ([some (pR 63 0), some (pR 0 0), some (pR 64 0), some (pI i)], [], (c, r)) := by
  obtain ⟨a, e1, e2⟩ := op_holds h (xs (ix (i + 1)))
  refine zrun hF [(.aload_n 1, 1, pI 0), (.aload_n 0, 1, pI 0), (.iload_n 3, 1, pI 0), (.iconst 1, 1, pI 1), (.iadd, 1, pI 0), (.iaload, 1, pI 0)] 478 _ (by decide +kernel) ?_
  refine (And.intro rfl (And.intro rfl (And.intro i1 ?_)))
  show zG w (lwF p l e s m below meth c9 b L cells slots xs) 4 484 ([some (pR 63 0), some (pR 0 0), some (pR 64 0), some (pI i)], [pI (xs (ix (i + 1))), pR 0 0], (c, r))
  refine zcallVI (pc := 484) (As := [pI (xs (ix (i + 1)))]) (st := []) (c := 0) (j := 0) hF (m_X6_holds e1) w_X6_holds k_8_40 (by decide +kernel) rfl rfl rfl rfl rfl rfl rfl ?_
  refine zrun hF [(.aload_n 2, 1, pI 0), (.aload_n 0, 1, pI 0), (.iload_n 3, 1, pI 0), (.iconst 1, 1, pI 1), (.iadd, 1, pI 0), (.iaload, 1, pI 0)] 487 _ (by decide +kernel) ?_
  refine (And.intro rfl (And.intro rfl (And.intro i1 ?_)))
  show zG w (lwF p l e s m below meth c9 b L cells slots xs) 4 493 ([some (pR 63 0), some (pR 0 0), some (pR 64 0), some (pI i)], [pI (xs (ix (i + 1))), pR 64 0, pI a], (c, r))
  refine zcallVI (pc := 493) (As := [pI (xs (ix (i + 1)))]) (st := [pI a]) (c := 64) (j := 0) hF (m_X7_holds e2) w_X7_holds k_8_44 (by decide +kernel) rfl rfl rfl rfl rfl rfl rfl ?_
  exact zicmp_eq (tgt := 1573) (pc := 496) hF (by decide +kernel) (fun _ => next _ _ _ h) (fun b => absurd rfl b)
set_option maxHeartbeats 4000000 in
set_option maxRecDepth 100000 in
theorem law_6 {T : zTab} {c r : zMem} (hF : zFOK w (lwF p l e s m below meth c9 b L cells slots xs) 8 code 4 800) (i1 : inb (i + 1) L = true) (i2 : inb (i + 2) L = true) (i3 : inb (i + 3) L = true) (i4 : inb (i + 4) L = true) (i5 : inb (i + 5) L = true) (h : Rel T c r) (next : ∀ T' c' r', Rel T' c' r' → zG w (lwF p l e s m below meth c9 b L cells slots xs) 4 1573 ([some (pR 63 0), some (pR 0 0), some (pR 64 0), some (pI i)], [], (c', r'))) : zG w (lwF p l e s m below meth c9 b L cells slots xs) 4 501 ([some (pR 63 0), some (pR 0 0), some (pR 64 0), some (pI i)], [], (c, r)) := by
  obtain ⟨a, c', r', T', e1, e2, hn⟩ := op_says h (xs (ix (i + 1))) (xs (ix (i + 2)))
  refine zrun hF [(.aload_n 1, 1, pI 0), (.aload_n 0, 1, pI 0), (.iload_n 3, 1, pI 0), (.iconst 1, 1, pI 1), (.iadd, 1, pI 0), (.iaload, 1, pI 0), (.aload_n 0, 1, pI 0), (.iload_n 3, 1, pI 0), (.iconst 2, 1, pI 2), (.iadd, 1, pI 0), (.iaload, 1, pI 0)] 501 _ (by decide +kernel) ?_
  refine (And.intro rfl (And.intro rfl (And.intro i1 (And.intro rfl (And.intro rfl (And.intro i2 ?_))))))
  show zG w (lwF p l e s m below meth c9 b L cells slots xs) 4 512 ([some (pR 63 0), some (pR 0 0), some (pR 64 0), some (pI i)], [pI (xs (ix (i + 2))), pI (xs (ix (i + 1))), pR 0 0], (c, r))
  refine zcallVI (pc := 512) (As := [pI (xs (ix (i + 1))), pI (xs (ix (i + 2)))]) (st := []) (c := 0) (j := 0) hF (m_X6_says e1) w_X6_says k_8_45 (by decide +kernel) rfl rfl rfl rfl rfl rfl rfl ?_
  refine zrun hF [(.aload_n 2, 1, pI 0), (.aload_n 0, 1, pI 0), (.iload_n 3, 1, pI 0), (.iconst 1, 1, pI 1), (.iadd, 1, pI 0), (.iaload, 1, pI 0), (.aload_n 0, 1, pI 0), (.iload_n 3, 1, pI 0), (.iconst 2, 1, pI 2), (.iadd, 1, pI 0), (.iaload, 1, pI 0)] 515 _ (by decide +kernel) ?_
  refine (And.intro rfl (And.intro rfl (And.intro i1 (And.intro rfl (And.intro rfl (And.intro i2 ?_))))))
  show zG w (lwF p l e s m below meth c9 b L cells slots xs) 4 526 ([some (pR 63 0), some (pR 0 0), some (pR 64 0), some (pI i)], [pI (xs (ix (i + 2))), pI (xs (ix (i + 1))), pR 64 0, pI a], (c', r))
  refine zcallVI (pc := 526) (As := [pI (xs (ix (i + 1))), pI (xs (ix (i + 2)))]) (st := [pI a]) (c := 64) (j := 0) hF (m_X7_says e2) w_X7_says k_8_48 (by decide +kernel) rfl rfl rfl rfl rfl rfl rfl ?_
  exact zicmp_eq (tgt := 1573) (pc := 529) hF (by decide +kernel) (fun _ => next _ _ _ hn) (fun b => absurd rfl b)
set_option maxHeartbeats 4000000 in
set_option maxRecDepth 100000 in
theorem law_7 {T : zTab} {c r : zMem} (hF : zFOK w (lwF p l e s m below meth c9 b L cells slots xs) 8 code 4 800) (i1 : inb (i + 1) L = true) (i2 : inb (i + 2) L = true) (i3 : inb (i + 3) L = true) (i4 : inb (i + 4) L = true) (i5 : inb (i + 5) L = true) (h : Rel T c r) (next : ∀ T' c' r', Rel T' c' r' → zG w (lwF p l e s m below meth c9 b L cells slots xs) 4 1573 ([some (pR 63 0), some (pR 0 0), some (pR 64 0), some (pI i)], [], (c', r'))) : zG w (lwF p l e s m below meth c9 b L cells slots xs) 4 534 ([some (pR 63 0), some (pR 0 0), some (pR 64 0), some (pI i)], [], (c, r)) := by
  obtain ⟨a, c', r', T', e1, e2, hn⟩ := op_seats h (xs (ix (i + 1)))
  refine zrun hF [(.aload_n 1, 1, pI 0), (.aload_n 0, 1, pI 0), (.iload_n 3, 1, pI 0), (.iconst 1, 1, pI 1), (.iadd, 1, pI 0), (.iaload, 1, pI 0)] 534 _ (by decide +kernel) ?_
  refine (And.intro rfl (And.intro rfl (And.intro i1 ?_)))
  show zG w (lwF p l e s m below meth c9 b L cells slots xs) 4 540 ([some (pR 63 0), some (pR 0 0), some (pR 64 0), some (pI i)], [pI (xs (ix (i + 1))), pR 0 0], (c, r))
  refine zcallVI (pc := 540) (As := [pI (xs (ix (i + 1)))]) (st := []) (c := 0) (j := 0) hF (m_X6_seats e1) w_X6_seats k_8_49 (by decide +kernel) rfl rfl rfl rfl rfl rfl rfl ?_
  refine zrun hF [(.aload_n 2, 1, pI 0), (.aload_n 0, 1, pI 0), (.iload_n 3, 1, pI 0), (.iconst 1, 1, pI 1), (.iadd, 1, pI 0), (.iaload, 1, pI 0)] 543 _ (by decide +kernel) ?_
  refine (And.intro rfl (And.intro rfl (And.intro i1 ?_)))
  show zG w (lwF p l e s m below meth c9 b L cells slots xs) 4 549 ([some (pR 63 0), some (pR 0 0), some (pR 64 0), some (pI i)], [pI (xs (ix (i + 1))), pR 64 0, pI a], (c', r))
  refine zcallVI (pc := 549) (As := [pI (xs (ix (i + 1)))]) (st := [pI a]) (c := 64) (j := 0) hF (m_X7_seats e2) w_X7_seats k_8_52 (by decide +kernel) rfl rfl rfl rfl rfl rfl rfl ?_
  exact zicmp_eq (tgt := 1573) (pc := 552) hF (by decide +kernel) (fun _ => next _ _ _ hn) (fun b => absurd rfl b)
set_option maxHeartbeats 4000000 in
set_option maxRecDepth 100000 in
theorem law_8 {T : zTab} {c r : zMem} (hF : zFOK w (lwF p l e s m below meth c9 b L cells slots xs) 8 code 4 800) (i1 : inb (i + 1) L = true) (i2 : inb (i + 2) L = true) (i3 : inb (i + 3) L = true) (i4 : inb (i + 4) L = true) (i5 : inb (i + 5) L = true) (h : Rel T c r) (next : ∀ T' c' r', Rel T' c' r' → zG w (lwF p l e s m below meth c9 b L cells slots xs) 4 1573 ([some (pR 63 0), some (pR 0 0), some (pR 64 0), some (pI i)], [], (c', r'))) : zG w (lwF p l e s m below meth c9 b L cells slots xs) 4 557 ([some (pR 63 0), some (pR 0 0), some (pR 64 0), some (pI i)], [], (c, r)) := by
  obtain ⟨a, c', r', T', e1, e2, hn⟩ := op_guest h (xs (ix (i + 1))) (xs (ix (i + 2))) (xs (ix (i + 3)))
  refine zrun hF [(.aload_n 1, 1, pI 0), (.aload_n 0, 1, pI 0), (.iload_n 3, 1, pI 0), (.iconst 1, 1, pI 1), (.iadd, 1, pI 0), (.iaload, 1, pI 0), (.aload_n 0, 1, pI 0), (.iload_n 3, 1, pI 0), (.iconst 2, 1, pI 2), (.iadd, 1, pI 0), (.iaload, 1, pI 0), (.aload_n 0, 1, pI 0), (.iload_n 3, 1, pI 0), (.iconst 3, 1, pI 3), (.iadd, 1, pI 0), (.iaload, 1, pI 0)] 557 _ (by decide +kernel) ?_
  refine (And.intro rfl (And.intro rfl (And.intro i1 (And.intro rfl (And.intro rfl (And.intro i2 (And.intro rfl (And.intro rfl (And.intro i3 ?_)))))))))
  show zG w (lwF p l e s m below meth c9 b L cells slots xs) 4 573 ([some (pR 63 0), some (pR 0 0), some (pR 64 0), some (pI i)], [pI (xs (ix (i + 3))), pI (xs (ix (i + 2))), pI (xs (ix (i + 1))), pR 0 0], (c, r))
  refine zcallVI (pc := 573) (As := [pI (xs (ix (i + 1))), pI (xs (ix (i + 2))), pI (xs (ix (i + 3)))]) (st := []) (c := 0) (j := 0) hF (m_X6_guest e1) w_X6_guest k_8_53 (by decide +kernel) rfl rfl rfl rfl rfl rfl rfl ?_
  refine zrun hF [(.aload_n 2, 1, pI 0), (.aload_n 0, 1, pI 0), (.iload_n 3, 1, pI 0), (.iconst 1, 1, pI 1), (.iadd, 1, pI 0), (.iaload, 1, pI 0), (.aload_n 0, 1, pI 0), (.iload_n 3, 1, pI 0), (.iconst 2, 1, pI 2), (.iadd, 1, pI 0), (.iaload, 1, pI 0), (.aload_n 0, 1, pI 0), (.iload_n 3, 1, pI 0), (.iconst 3, 1, pI 3), (.iadd, 1, pI 0), (.iaload, 1, pI 0)] 576 _ (by decide +kernel) ?_
  refine (And.intro rfl (And.intro rfl (And.intro i1 (And.intro rfl (And.intro rfl (And.intro i2 (And.intro rfl (And.intro rfl (And.intro i3 ?_)))))))))
  show zG w (lwF p l e s m below meth c9 b L cells slots xs) 4 592 ([some (pR 63 0), some (pR 0 0), some (pR 64 0), some (pI i)], [pI (xs (ix (i + 3))), pI (xs (ix (i + 2))), pI (xs (ix (i + 1))), pR 64 0, pI a], (c', r))
  refine zcallVI (pc := 592) (As := [pI (xs (ix (i + 1))), pI (xs (ix (i + 2))), pI (xs (ix (i + 3)))]) (st := [pI a]) (c := 64) (j := 0) hF (m_X7_guest e2) w_X7_guest k_8_56 (by decide +kernel) rfl rfl rfl rfl rfl rfl rfl ?_
  exact zicmp_eq (tgt := 1573) (pc := 595) hF (by decide +kernel) (fun _ => next _ _ _ hn) (fun b => absurd rfl b)
set_option maxHeartbeats 4000000 in
set_option maxRecDepth 100000 in
theorem law_9 {T : zTab} {c r : zMem} (hF : zFOK w (lwF p l e s m below meth c9 b L cells slots xs) 8 code 4 800) (i1 : inb (i + 1) L = true) (i2 : inb (i + 2) L = true) (i3 : inb (i + 3) L = true) (i4 : inb (i + 4) L = true) (i5 : inb (i + 5) L = true) (h : Rel T c r) (next : ∀ T' c' r', Rel T' c' r' → zG w (lwF p l e s m below meth c9 b L cells slots xs) 4 1573 ([some (pR 63 0), some (pR 0 0), some (pR 64 0), some (pI i)], [], (c', r'))) : zG w (lwF p l e s m below meth c9 b L cells slots xs) 4 600 ([some (pR 63 0), some (pR 0 0), some (pR 64 0), some (pI i)], [], (c, r)) := by
  obtain ⟨a, c', r', T', e1, e2, hn⟩ := op_guestOf h (xs (ix (i + 1))) (xs (ix (i + 2)))
  refine zrun hF [(.aload_n 1, 1, pI 0), (.aload_n 0, 1, pI 0), (.iload_n 3, 1, pI 0), (.iconst 1, 1, pI 1), (.iadd, 1, pI 0), (.iaload, 1, pI 0), (.aload_n 0, 1, pI 0), (.iload_n 3, 1, pI 0), (.iconst 2, 1, pI 2), (.iadd, 1, pI 0), (.iaload, 1, pI 0)] 600 _ (by decide +kernel) ?_
  refine (And.intro rfl (And.intro rfl (And.intro i1 (And.intro rfl (And.intro rfl (And.intro i2 ?_))))))
  show zG w (lwF p l e s m below meth c9 b L cells slots xs) 4 611 ([some (pR 63 0), some (pR 0 0), some (pR 64 0), some (pI i)], [pI (xs (ix (i + 2))), pI (xs (ix (i + 1))), pR 0 0], (c, r))
  refine zcallVI (pc := 611) (As := [pI (xs (ix (i + 1))), pI (xs (ix (i + 2)))]) (st := []) (c := 0) (j := 0) hF (m_X6_guestOf e1) w_X6_guestOf k_8_57 (by decide +kernel) rfl rfl rfl rfl rfl rfl rfl ?_
  refine zrun hF [(.aload_n 2, 1, pI 0), (.aload_n 0, 1, pI 0), (.iload_n 3, 1, pI 0), (.iconst 1, 1, pI 1), (.iadd, 1, pI 0), (.iaload, 1, pI 0), (.aload_n 0, 1, pI 0), (.iload_n 3, 1, pI 0), (.iconst 2, 1, pI 2), (.iadd, 1, pI 0), (.iaload, 1, pI 0)] 614 _ (by decide +kernel) ?_
  refine (And.intro rfl (And.intro rfl (And.intro i1 (And.intro rfl (And.intro rfl (And.intro i2 ?_))))))
  show zG w (lwF p l e s m below meth c9 b L cells slots xs) 4 625 ([some (pR 63 0), some (pR 0 0), some (pR 64 0), some (pI i)], [pI (xs (ix (i + 2))), pI (xs (ix (i + 1))), pR 64 0, pI a], (c', r))
  refine zcallVI (pc := 625) (As := [pI (xs (ix (i + 1))), pI (xs (ix (i + 2)))]) (st := [pI a]) (c := 64) (j := 0) hF (m_X7_guestOf e2) w_X7_guestOf k_8_60 (by decide +kernel) rfl rfl rfl rfl rfl rfl rfl ?_
  exact zicmp_eq (tgt := 1573) (pc := 628) hF (by decide +kernel) (fun _ => next _ _ _ hn) (fun b => absurd rfl b)
set_option maxHeartbeats 4000000 in
set_option maxRecDepth 100000 in
theorem law_10 {T : zTab} {c r : zMem} (hF : zFOK w (lwF p l e s m below meth c9 b L cells slots xs) 8 code 4 800) (i1 : inb (i + 1) L = true) (i2 : inb (i + 2) L = true) (i3 : inb (i + 3) L = true) (i4 : inb (i + 4) L = true) (i5 : inb (i + 5) L = true) (h : Rel T c r) (next : ∀ T' c' r', Rel T' c' r' → zG w (lwF p l e s m below meth c9 b L cells slots xs) 4 1573 ([some (pR 63 0), some (pR 0 0), some (pR 64 0), some (pI i)], [], (c', r'))) : zG w (lwF p l e s m below meth c9 b L cells slots xs) 4 633 ([some (pR 63 0), some (pR 0 0), some (pR 64 0), some (pI i)], [], (c, r)) := by
  refine zrun hF [(.aload_n 1, 1, pI 0), (.aload_n 0, 1, pI 0), (.iload_n 3, 1, pI 0), (.iconst 1, 1, pI 1), (.iadd, 1, pI 0), (.iaload, 1, pI 0), (.aload_n 0, 1, pI 0), (.iload_n 3, 1, pI 0), (.iconst 2, 1, pI 2), (.iadd, 1, pI 0), (.iaload, 1, pI 0), (.aload_n 0, 1, pI 0), (.iload_n 3, 1, pI 0), (.iconst 3, 1, pI 3), (.iadd, 1, pI 0), (.iaload, 1, pI 0)] 633 _ (by decide +kernel) ?_
  refine (And.intro rfl (And.intro rfl (And.intro i1 (And.intro rfl (And.intro rfl (And.intro i2 (And.intro rfl (And.intro rfl (And.intro i3 ?_)))))))))
  show zG w (lwF p l e s m below meth c9 b L cells slots xs) 4 649 ([some (pR 63 0), some (pR 0 0), some (pR 64 0), some (pI i)], [pI (xs (ix (i + 3))), pI (xs (ix (i + 2))), pI (xs (ix (i + 1))), pR 0 0], (c, r))
  refine zif_eq (tgt := 656) (pc := 649) hF (by decide +kernel) (fun b1 => ?_) (fun b1 => ?_)
  · have hb := b1
    obtain ⟨a, c', r', T', e1, e2, hn⟩ := op_bar h (xs (ix (i + 1))) (xs (ix (i + 2))) 0
    refine zrun hF [(.iconst 0, 1, pI 0)] 656 _ (by decide +kernel) ?_
    show zG w (lwF p l e s m below meth c9 b L cells slots xs) 4 657 ([some (pR 63 0), some (pR 0 0), some (pR 64 0), some (pI i)], [pI 0, pI (xs (ix (i + 2))), pI (xs (ix (i + 1))), pR 0 0], (c, r))
    refine zcallVI (pc := 657) (As := [pI (xs (ix (i + 1))), pI (xs (ix (i + 2))), pI 0]) (st := []) (c := 0) (j := 0) hF (m_X6_bar e1) w_X6_bar k_8_61 (by decide +kernel) rfl rfl rfl rfl rfl rfl rfl ?_
    refine zrun hF [(.aload_n 2, 1, pI 0), (.aload_n 0, 1, pI 0), (.iload_n 3, 1, pI 0), (.iconst 1, 1, pI 1), (.iadd, 1, pI 0), (.iaload, 1, pI 0), (.aload_n 0, 1, pI 0), (.iload_n 3, 1, pI 0), (.iconst 2, 1, pI 2), (.iadd, 1, pI 0), (.iaload, 1, pI 0), (.aload_n 0, 1, pI 0), (.iload_n 3, 1, pI 0), (.iconst 3, 1, pI 3), (.iadd, 1, pI 0), (.iaload, 1, pI 0)] 660 _ (by decide +kernel) ?_
    refine (And.intro rfl (And.intro rfl (And.intro i1 (And.intro rfl (And.intro rfl (And.intro i2 (And.intro rfl (And.intro rfl (And.intro i3 ?_)))))))))
    show zG w (lwF p l e s m below meth c9 b L cells slots xs) 4 676 ([some (pR 63 0), some (pR 0 0), some (pR 64 0), some (pI i)], [pI (xs (ix (i + 3))), pI (xs (ix (i + 2))), pI (xs (ix (i + 1))), pR 64 0, pI a], (c', r))
    refine zif_eq (tgt := 683) (pc := 676) hF (by decide +kernel) (fun _ => ?_) (fun b2 => absurd hb b2)
    refine zrun hF [(.iconst 0, 1, pI 0)] 683 _ (by decide +kernel) ?_
    show zG w (lwF p l e s m below meth c9 b L cells slots xs) 4 684 ([some (pR 63 0), some (pR 0 0), some (pR 64 0), some (pI i)], [pI 0, pI (xs (ix (i + 2))), pI (xs (ix (i + 1))), pR 64 0, pI a], (c', r))
    refine zcallVI (pc := 684) (As := [pI (xs (ix (i + 1))), pI (xs (ix (i + 2))), pI 0]) (st := [pI a]) (c := 64) (j := 0) hF (m_X7_bar e2) w_X7_bar k_8_65 (by decide +kernel) rfl rfl rfl rfl rfl rfl rfl ?_
    exact zicmp_eq (tgt := 1573) (pc := 687) hF (by decide +kernel) (fun _ => next _ _ _ hn) (fun b => absurd rfl b)
  · have hb := b1
    obtain ⟨a, c', r', T', e1, e2, hn⟩ := op_bar h (xs (ix (i + 1))) (xs (ix (i + 2))) 1
    refine zrun hF [(.iconst 1, 1, pI 1)] 652 _ (by decide +kernel) ?_
    show zG w (lwF p l e s m below meth c9 b L cells slots xs) 4 653 ([some (pR 63 0), some (pR 0 0), some (pR 64 0), some (pI i)], [pI 1, pI (xs (ix (i + 2))), pI (xs (ix (i + 1))), pR 0 0], (c, r))
    refine zgoto (tgt := 657) (pc := 653) hF (by decide +kernel) ?_
    refine zcallVI (pc := 657) (As := [pI (xs (ix (i + 1))), pI (xs (ix (i + 2))), pI 1]) (st := []) (c := 0) (j := 0) hF (m_X6_bar e1) w_X6_bar k_8_61 (by decide +kernel) rfl rfl rfl rfl rfl rfl rfl ?_
    refine zrun hF [(.aload_n 2, 1, pI 0), (.aload_n 0, 1, pI 0), (.iload_n 3, 1, pI 0), (.iconst 1, 1, pI 1), (.iadd, 1, pI 0), (.iaload, 1, pI 0), (.aload_n 0, 1, pI 0), (.iload_n 3, 1, pI 0), (.iconst 2, 1, pI 2), (.iadd, 1, pI 0), (.iaload, 1, pI 0), (.aload_n 0, 1, pI 0), (.iload_n 3, 1, pI 0), (.iconst 3, 1, pI 3), (.iadd, 1, pI 0), (.iaload, 1, pI 0)] 660 _ (by decide +kernel) ?_
    refine (And.intro rfl (And.intro rfl (And.intro i1 (And.intro rfl (And.intro rfl (And.intro i2 (And.intro rfl (And.intro rfl (And.intro i3 ?_)))))))))
    show zG w (lwF p l e s m below meth c9 b L cells slots xs) 4 676 ([some (pR 63 0), some (pR 0 0), some (pR 64 0), some (pI i)], [pI (xs (ix (i + 3))), pI (xs (ix (i + 2))), pI (xs (ix (i + 1))), pR 64 0, pI a], (c', r))
    refine zif_eq (tgt := 683) (pc := 676) hF (by decide +kernel) (fun b2 => absurd b2 hb) (fun _ => ?_)
    refine zrun hF [(.iconst 1, 1, pI 1)] 679 _ (by decide +kernel) ?_
    show zG w (lwF p l e s m below meth c9 b L cells slots xs) 4 680 ([some (pR 63 0), some (pR 0 0), some (pR 64 0), some (pI i)], [pI 1, pI (xs (ix (i + 2))), pI (xs (ix (i + 1))), pR 64 0, pI a], (c', r))
    refine zgoto (tgt := 684) (pc := 680) hF (by decide +kernel) ?_
    refine zcallVI (pc := 684) (As := [pI (xs (ix (i + 1))), pI (xs (ix (i + 2))), pI 1]) (st := [pI a]) (c := 64) (j := 0) hF (m_X7_bar e2) w_X7_bar k_8_65 (by decide +kernel) rfl rfl rfl rfl rfl rfl rfl ?_
    exact zicmp_eq (tgt := 1573) (pc := 687) hF (by decide +kernel) (fun _ => next _ _ _ hn) (fun b => absurd rfl b)
set_option maxHeartbeats 4000000 in
set_option maxRecDepth 100000 in
theorem law_11 {T : zTab} {c r : zMem} (hF : zFOK w (lwF p l e s m below meth c9 b L cells slots xs) 8 code 4 800) (i1 : inb (i + 1) L = true) (i2 : inb (i + 2) L = true) (i3 : inb (i + 3) L = true) (i4 : inb (i + 4) L = true) (i5 : inb (i + 5) L = true) (h : Rel T c r) (next : ∀ T' c' r', Rel T' c' r' → zG w (lwF p l e s m below meth c9 b L cells slots xs) 4 1573 ([some (pR 63 0), some (pR 0 0), some (pR 64 0), some (pI i)], [], (c', r'))) : zG w (lwF p l e s m below meth c9 b L cells slots xs) 4 692 ([some (pR 63 0), some (pR 0 0), some (pR 64 0), some (pI i)], [], (c, r)) := by
  refine zrun hF [(.aload_n 1, 1, pI 0), (.aload_n 0, 1, pI 0), (.iload_n 3, 1, pI 0), (.iconst 1, 1, pI 1), (.iadd, 1, pI 0), (.iaload, 1, pI 0), (.aload_n 0, 1, pI 0), (.iload_n 3, 1, pI 0), (.iconst 2, 1, pI 2), (.iadd, 1, pI 0), (.iaload, 1, pI 0), (.aload_n 0, 1, pI 0), (.iload_n 3, 1, pI 0), (.iconst 3, 1, pI 3), (.iadd, 1, pI 0), (.iaload, 1, pI 0)] 692 _ (by decide +kernel) ?_
  refine (And.intro rfl (And.intro rfl (And.intro i1 (And.intro rfl (And.intro rfl (And.intro i2 (And.intro rfl (And.intro rfl (And.intro i3 ?_)))))))))
  show zG w (lwF p l e s m below meth c9 b L cells slots xs) 4 708 ([some (pR 63 0), some (pR 0 0), some (pR 64 0), some (pI i)], [pI (xs (ix (i + 3))), pI (xs (ix (i + 2))), pI (xs (ix (i + 1))), pR 0 0], (c, r))
  refine zif_eq (tgt := 715) (pc := 708) hF (by decide +kernel) (fun b1 => ?_) (fun b1 => ?_)
  · have hb := b1
    obtain ⟨a, c', r', T', e1, e2, hn⟩ := op_had h (xs (ix (i + 1))) (xs (ix (i + 2))) 0
    refine zrun hF [(.iconst 0, 1, pI 0)] 715 _ (by decide +kernel) ?_
    show zG w (lwF p l e s m below meth c9 b L cells slots xs) 4 716 ([some (pR 63 0), some (pR 0 0), some (pR 64 0), some (pI i)], [pI 0, pI (xs (ix (i + 2))), pI (xs (ix (i + 1))), pR 0 0], (c, r))
    refine zcallVI (pc := 716) (As := [pI (xs (ix (i + 1))), pI (xs (ix (i + 2))), pI 0]) (st := []) (c := 0) (j := 0) hF (m_X6_had e1) w_X6_had k_8_66 (by decide +kernel) rfl rfl rfl rfl rfl rfl rfl ?_
    refine zrun hF [(.aload_n 2, 1, pI 0), (.aload_n 0, 1, pI 0), (.iload_n 3, 1, pI 0), (.iconst 1, 1, pI 1), (.iadd, 1, pI 0), (.iaload, 1, pI 0), (.aload_n 0, 1, pI 0), (.iload_n 3, 1, pI 0), (.iconst 2, 1, pI 2), (.iadd, 1, pI 0), (.iaload, 1, pI 0), (.aload_n 0, 1, pI 0), (.iload_n 3, 1, pI 0), (.iconst 3, 1, pI 3), (.iadd, 1, pI 0), (.iaload, 1, pI 0)] 719 _ (by decide +kernel) ?_
    refine (And.intro rfl (And.intro rfl (And.intro i1 (And.intro rfl (And.intro rfl (And.intro i2 (And.intro rfl (And.intro rfl (And.intro i3 ?_)))))))))
    show zG w (lwF p l e s m below meth c9 b L cells slots xs) 4 735 ([some (pR 63 0), some (pR 0 0), some (pR 64 0), some (pI i)], [pI (xs (ix (i + 3))), pI (xs (ix (i + 2))), pI (xs (ix (i + 1))), pR 64 0, pI a], (c', r))
    refine zif_eq (tgt := 742) (pc := 735) hF (by decide +kernel) (fun _ => ?_) (fun b2 => absurd hb b2)
    refine zrun hF [(.iconst 0, 1, pI 0)] 742 _ (by decide +kernel) ?_
    show zG w (lwF p l e s m below meth c9 b L cells slots xs) 4 743 ([some (pR 63 0), some (pR 0 0), some (pR 64 0), some (pI i)], [pI 0, pI (xs (ix (i + 2))), pI (xs (ix (i + 1))), pR 64 0, pI a], (c', r))
    refine zcallVI (pc := 743) (As := [pI (xs (ix (i + 1))), pI (xs (ix (i + 2))), pI 0]) (st := [pI a]) (c := 64) (j := 0) hF (m_X7_had e2) w_X7_had k_8_69 (by decide +kernel) rfl rfl rfl rfl rfl rfl rfl ?_
    exact zicmp_eq (tgt := 1573) (pc := 746) hF (by decide +kernel) (fun _ => next _ _ _ hn) (fun b => absurd rfl b)
  · have hb := b1
    obtain ⟨a, c', r', T', e1, e2, hn⟩ := op_had h (xs (ix (i + 1))) (xs (ix (i + 2))) 1
    refine zrun hF [(.iconst 1, 1, pI 1)] 711 _ (by decide +kernel) ?_
    show zG w (lwF p l e s m below meth c9 b L cells slots xs) 4 712 ([some (pR 63 0), some (pR 0 0), some (pR 64 0), some (pI i)], [pI 1, pI (xs (ix (i + 2))), pI (xs (ix (i + 1))), pR 0 0], (c, r))
    refine zgoto (tgt := 716) (pc := 712) hF (by decide +kernel) ?_
    refine zcallVI (pc := 716) (As := [pI (xs (ix (i + 1))), pI (xs (ix (i + 2))), pI 1]) (st := []) (c := 0) (j := 0) hF (m_X6_had e1) w_X6_had k_8_66 (by decide +kernel) rfl rfl rfl rfl rfl rfl rfl ?_
    refine zrun hF [(.aload_n 2, 1, pI 0), (.aload_n 0, 1, pI 0), (.iload_n 3, 1, pI 0), (.iconst 1, 1, pI 1), (.iadd, 1, pI 0), (.iaload, 1, pI 0), (.aload_n 0, 1, pI 0), (.iload_n 3, 1, pI 0), (.iconst 2, 1, pI 2), (.iadd, 1, pI 0), (.iaload, 1, pI 0), (.aload_n 0, 1, pI 0), (.iload_n 3, 1, pI 0), (.iconst 3, 1, pI 3), (.iadd, 1, pI 0), (.iaload, 1, pI 0)] 719 _ (by decide +kernel) ?_
    refine (And.intro rfl (And.intro rfl (And.intro i1 (And.intro rfl (And.intro rfl (And.intro i2 (And.intro rfl (And.intro rfl (And.intro i3 ?_)))))))))
    show zG w (lwF p l e s m below meth c9 b L cells slots xs) 4 735 ([some (pR 63 0), some (pR 0 0), some (pR 64 0), some (pI i)], [pI (xs (ix (i + 3))), pI (xs (ix (i + 2))), pI (xs (ix (i + 1))), pR 64 0, pI a], (c', r))
    refine zif_eq (tgt := 742) (pc := 735) hF (by decide +kernel) (fun b2 => absurd b2 hb) (fun _ => ?_)
    refine zrun hF [(.iconst 1, 1, pI 1)] 738 _ (by decide +kernel) ?_
    show zG w (lwF p l e s m below meth c9 b L cells slots xs) 4 739 ([some (pR 63 0), some (pR 0 0), some (pR 64 0), some (pI i)], [pI 1, pI (xs (ix (i + 2))), pI (xs (ix (i + 1))), pR 64 0, pI a], (c', r))
    refine zgoto (tgt := 743) (pc := 739) hF (by decide +kernel) ?_
    refine zcallVI (pc := 743) (As := [pI (xs (ix (i + 1))), pI (xs (ix (i + 2))), pI 1]) (st := [pI a]) (c := 64) (j := 0) hF (m_X7_had e2) w_X7_had k_8_69 (by decide +kernel) rfl rfl rfl rfl rfl rfl rfl ?_
    exact zicmp_eq (tgt := 1573) (pc := 746) hF (by decide +kernel) (fun _ => next _ _ _ hn) (fun b => absurd rfl b)
end LAW0
