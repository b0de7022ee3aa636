/-! the law: its calls, by program -/
section LAW1
variable {w : zWd} {p : Program} {l : Launch} {e : Env} {s : State} {m : MethodId} {below : List Frame} {meth : Method} {c9 : Code} {b L cells slots : Nat} {xs : Nat → Int32} {i : Int32}
set_option maxHeartbeats 4000000 in
set_option maxRecDepth 100000 in
theorem law_12 {T : zTab} {c r : zMem} (hF : zFOK w (lwF p l e s m below meth c9 b L cells slots xs) 8 code 4 800) (i1 : inb (i + 1) L = true) (i2 : inb (i + 2) L = true) (i3 : inb (i + 3) L = true) (i4 : inb (i + 4) L = true) (i5 : inb (i + 5) L = true) (h : Rel T c r) (next : ∀ T' c' r', Rel T' c' r' → zG w (lwF p l e s m below meth c9 b L cells slots xs) 4 1573 ([some (pR 63 0), some (pR 0 0), some (pR 64 0), some (pI i)], [], (c', r'))) : zG w (lwF p l e s m below meth c9 b L cells slots xs) 4 751 ([some (pR 63 0), some (pR 0 0), some (pR 64 0), some (pI i)], [], (c, r)) := by
  obtain ⟨a, c', r', T', e1, e2, hn⟩ := op_eyes h (xs (ix (i + 1)))
  refine zrun hF [(.aload_n 1, 1, pI 0), (.aload_n 0, 1, pI 0), (.iload_n 3, 1, pI 0), (.iconst 1, 1, pI 1), (.iadd, 1, pI 0), (.iaload, 1, pI 0)] 751 _ (by decide +kernel) ?_
  refine (And.intro rfl (And.intro rfl (And.intro i1 ?_)))
  show zG w (lwF p l e s m below meth c9 b L cells slots xs) 4 757 ([some (pR 63 0), some (pR 0 0), some (pR 64 0), some (pI i)], [pI (xs (ix (i + 1))), pR 0 0], (c, r))
  refine zcallVI (pc := 757) (As := [pI (xs (ix (i + 1)))]) (st := []) (c := 0) (j := 0) hF (m_X6_eyes e1) w_X6_eyes k_8_70 (by decide +kernel) rfl rfl rfl rfl rfl rfl rfl ?_
  refine zrun hF [(.aload_n 2, 1, pI 0), (.aload_n 0, 1, pI 0), (.iload_n 3, 1, pI 0), (.iconst 1, 1, pI 1), (.iadd, 1, pI 0), (.iaload, 1, pI 0)] 760 _ (by decide +kernel) ?_
  refine (And.intro rfl (And.intro rfl (And.intro i1 ?_)))
  show zG w (lwF p l e s m below meth c9 b L cells slots xs) 4 766 ([some (pR 63 0), some (pR 0 0), some (pR 64 0), some (pI i)], [pI (xs (ix (i + 1))), pR 64 0, pI a], (c', r))
  refine zcallVI (pc := 766) (As := [pI (xs (ix (i + 1)))]) (st := [pI a]) (c := 64) (j := 0) hF (m_X7_eyes e2) w_X7_eyes k_8_73 (by decide +kernel) rfl rfl rfl rfl rfl rfl rfl ?_
  exact zicmp_eq (tgt := 1573) (pc := 769) hF (by decide +kernel) (fun _ => next _ _ _ hn) (fun b => absurd rfl b)
set_option maxHeartbeats 4000000 in
set_option maxRecDepth 100000 in
theorem law_13 {T : zTab} {c r : zMem} (hF : zFOK w (lwF p l e s m below meth c9 b L cells slots xs) 8 code 4 800) (i1 : inb (i + 1) L = true) (i2 : inb (i + 2) L = true) (i3 : inb (i + 3) L = true) (i4 : inb (i + 4) L = true) (i5 : inb (i + 5) L = true) (h : Rel T c r) (next : ∀ T' c' r', Rel T' c' r' → zG w (lwF p l e s m below meth c9 b L cells slots xs) 4 1573 ([some (pR 63 0), some (pR 0 0), some (pR 64 0), some (pI i)], [], (c', r'))) : zG w (lwF p l e s m below meth c9 b L cells slots xs) 4 774 ([some (pR 63 0), some (pR 0 0), some (pR 64 0), some (pI i)], [], (c, r)) := by
  obtain ⟨a, c', r', T', e1, e2, hn⟩ := op_table h (xs (ix (i + 1)))
  refine zrun hF [(.aload_n 1, 1, pI 0), (.aload_n 0, 1, pI 0), (.iload_n 3, 1, pI 0), (.iconst 1, 1, pI 1), (.iadd, 1, pI 0), (.iaload, 1, pI 0)] 774 _ (by decide +kernel) ?_
  refine (And.intro rfl (And.intro rfl (And.intro i1 ?_)))
  show zG w (lwF p l e s m below meth c9 b L cells slots xs) 4 780 ([some (pR 63 0), some (pR 0 0), some (pR 64 0), some (pI i)], [pI (xs (ix (i + 1))), pR 0 0], (c, r))
  refine zcallVI (pc := 780) (As := [pI (xs (ix (i + 1)))]) (st := []) (c := 0) (j := 0) hF (m_X6_table e1) w_X6_table k_8_74 (by decide +kernel) rfl rfl rfl rfl rfl rfl rfl ?_
  refine zrun hF [(.aload_n 2, 1, pI 0), (.aload_n 0, 1, pI 0), (.iload_n 3, 1, pI 0), (.iconst 1, 1, pI 1), (.iadd, 1, pI 0), (.iaload, 1, pI 0)] 783 _ (by decide +kernel) ?_
  refine (And.intro rfl (And.intro rfl (And.intro i1 ?_)))
  show zG w (lwF p l e s m below meth c9 b L cells slots xs) 4 789 ([some (pR 63 0), some (pR 0 0), some (pR 64 0), some (pI i)], [pI (xs (ix (i + 1))), pR 64 0, pI a], (c', r))
  refine zcallVI (pc := 789) (As := [pI (xs (ix (i + 1)))]) (st := [pI a]) (c := 64) (j := 0) hF (m_X7_table e2) w_X7_table k_8_77 (by decide +kernel) rfl rfl rfl rfl rfl rfl rfl ?_
  exact zicmp_eq (tgt := 1573) (pc := 792) hF (by decide +kernel) (fun _ => next _ _ _ hn) (fun b => absurd rfl b)
set_option maxHeartbeats 4000000 in
set_option maxRecDepth 100000 in
theorem law_14 {T : zTab} {c r : zMem} (hF : zFOK w (lwF p l e s m below meth c9 b L cells slots xs) 8 code 4 800) (i1 : inb (i + 1) L = true) (i2 : inb (i + 2) L = true) (i3 : inb (i + 3) L = true) (i4 : inb (i + 4) L = true) (i5 : inb (i + 5) L = true) (h : Rel T c r) (next : ∀ T' c' r', Rel T' c' r' → zG w (lwF p l e s m below meth c9 b L cells slots xs) 4 1573 ([some (pR 63 0), some (pR 0 0), some (pR 64 0), some (pI i)], [], (c', r'))) : zG w (lwF p l e s m below meth c9 b L cells slots xs) 4 797 ([some (pR 63 0), some (pR 0 0), some (pR 64 0), some (pI i)], [], (c, r)) := by
  obtain ⟨a, e1, e2⟩ := op_fault h 
  refine zrun hF [(.aload_n 1, 1, pI 0)] 797 _ (by decide +kernel) ?_
  show zG w (lwF p l e s m below meth c9 b L cells slots xs) 4 798 ([some (pR 63 0), some (pR 0 0), some (pR 64 0), some (pI i)], [pR 0 0], (c, r))
  refine zcallVI (pc := 798) (As := []) (st := []) (c := 0) (j := 0) hF (m_X6_fault e1) w_X6_fault k_8_78 (by decide +kernel) rfl rfl rfl rfl rfl rfl rfl ?_
  refine zrun hF [(.aload_n 2, 1, pI 0)] 801 _ (by decide +kernel) ?_
  show zG w (lwF p l e s m below meth c9 b L cells slots xs) 4 802 ([some (pR 63 0), some (pR 0 0), some (pR 64 0), some (pI i)], [pR 64 0, pI a], (c, r))
  refine zcallVI (pc := 802) (As := []) (st := [pI a]) (c := 64) (j := 0) hF (m_X7_fault e2) w_X7_fault k_8_82 (by decide +kernel) rfl rfl rfl rfl rfl rfl rfl ?_
  exact zicmp_eq (tgt := 1573) (pc := 805) hF (by decide +kernel) (fun _ => next _ _ _ h) (fun b => absurd rfl b)
set_option maxHeartbeats 4000000 in
set_option maxRecDepth 100000 in
theorem law_15 {T : zTab} {c r : zMem} (hF : zFOK w (lwF p l e s m below meth c9 b L cells slots xs) 8 code 4 800) (i1 : inb (i + 1) L = true) (i2 : inb (i + 2) L = true) (i3 : inb (i + 3) L = true) (i4 : inb (i + 4) L = true) (i5 : inb (i + 5) L = true) (h : Rel T c r) (next : ∀ T' c' r', Rel T' c' r' → zG w (lwF p l e s m below meth c9 b L cells slots xs) 4 1573 ([some (pR 63 0), some (pR 0 0), some (pR 64 0), some (pI i)], [], (c', r'))) : zG w (lwF p l e s m below meth c9 b L cells slots xs) 4 810 ([some (pR 63 0), some (pR 0 0), some (pR 64 0), some (pI i)], [], (c, r)) := by
  obtain ⟨a, c', r', T', e1, e2, hn⟩ := op_far h (xs (ix (i + 1))) (xs (ix (i + 2)))
  refine zrun hF [(.aload_n 1, 1, pI 0), (.aload_n 0, 1, pI 0), (.iload_n 3, 1, pI 0), (.iconst 1, 1, pI 1), (.iadd, 1, pI 0), (.iaload, 1, pI 0), (.aload_n 0, 1, pI 0), (.iload_n 3, 1, pI 0), (.iconst 2, 1, pI 2), (.iadd, 1, pI 0), (.iaload, 1, pI 0)] 810 _ (by decide +kernel) ?_
  refine (And.intro rfl (And.intro rfl (And.intro i1 (And.intro rfl (And.intro rfl (And.intro i2 ?_))))))
  show zG w (lwF p l e s m below meth c9 b L cells slots xs) 4 821 ([some (pR 63 0), some (pR 0 0), some (pR 64 0), some (pI i)], [pI (xs (ix (i + 2))), pI (xs (ix (i + 1))), pR 0 0], (c, r))
  refine zcallVI (pc := 821) (As := [pI (xs (ix (i + 1))), pI (xs (ix (i + 2)))]) (st := []) (c := 0) (j := 0) hF (m_X6_far e1) w_X6_far k_8_83 (by decide +kernel) rfl rfl rfl rfl rfl rfl rfl ?_
  refine zrun hF [(.aload_n 2, 1, pI 0), (.aload_n 0, 1, pI 0), (.iload_n 3, 1, pI 0), (.iconst 1, 1, pI 1), (.iadd, 1, pI 0), (.iaload, 1, pI 0), (.aload_n 0, 1, pI 0), (.iload_n 3, 1, pI 0), (.iconst 2, 1, pI 2), (.iadd, 1, pI 0), (.iaload, 1, pI 0)] 824 _ (by decide +kernel) ?_
  refine (And.intro rfl (And.intro rfl (And.intro i1 (And.intro rfl (And.intro rfl (And.intro i2 ?_))))))
  show zG w (lwF p l e s m below meth c9 b L cells slots xs) 4 835 ([some (pR 63 0), some (pR 0 0), some (pR 64 0), some (pI i)], [pI (xs (ix (i + 2))), pI (xs (ix (i + 1))), pR 64 0, pI a], (c', r))
  refine zcallVI (pc := 835) (As := [pI (xs (ix (i + 1))), pI (xs (ix (i + 2)))]) (st := [pI a]) (c := 64) (j := 0) hF (m_X7_far e2) w_X7_far k_8_86 (by decide +kernel) rfl rfl rfl rfl rfl rfl rfl ?_
  exact zicmp_eq (tgt := 1573) (pc := 838) hF (by decide +kernel) (fun _ => next _ _ _ hn) (fun b => absurd rfl b)
set_option maxHeartbeats 4000000 in
set_option maxRecDepth 100000 in
theorem law_16 {T : zTab} {c r : zMem} (hF : zFOK w (lwF p l e s m below meth c9 b L cells slots xs) 8 code 4 800) (i1 : inb (i + 1) L = true) (i2 : inb (i + 2) L = true) (i3 : inb (i + 3) L = true) (i4 : inb (i + 4) L = true) (i5 : inb (i + 5) L = true) (h : Rel T c r) (next : ∀ T' c' r', Rel T' c' r' → zG w (lwF p l e s m below meth c9 b L cells slots xs) 4 1573 ([some (pR 63 0), some (pR 0 0), some (pR 64 0), some (pI i)], [], (c', r'))) : zG w (lwF p l e s m below meth c9 b L cells slots xs) 4 843 ([some (pR 63 0), some (pR 0 0), some (pR 64 0), some (pI i)], [], (c, r)) := by
  obtain ⟨a, c', r', T', e1, e2, hn⟩ := op_may h (xs (ix (i + 1))) (xs (ix (i + 2)))
  refine zrun hF [(.aload_n 1, 1, pI 0), (.aload_n 0, 1, pI 0), (.iload_n 3, 1, pI 0), (.iconst 1, 1, pI 1), (.iadd, 1, pI 0), (.iaload, 1, pI 0), (.aload_n 0, 1, pI 0), (.iload_n 3, 1, pI 0), (.iconst 2, 1, pI 2), (.iadd, 1, pI 0), (.iaload, 1, pI 0)] 843 _ (by decide +kernel) ?_
  refine (And.intro rfl (And.intro rfl (And.intro i1 (And.intro rfl (And.intro rfl (And.intro i2 ?_))))))
  show zG w (lwF p l e s m below meth c9 b L cells slots xs) 4 854 ([some (pR 63 0), some (pR 0 0), some (pR 64 0), some (pI i)], [pI (xs (ix (i + 2))), pI (xs (ix (i + 1))), pR 0 0], (c, r))
  refine zcallVI (pc := 854) (As := [pI (xs (ix (i + 1))), pI (xs (ix (i + 2)))]) (st := []) (c := 0) (j := 0) hF (m_X6_may e1) w_X6_may k_8_87 (by decide +kernel) rfl rfl rfl rfl rfl rfl rfl ?_
  refine zrun hF [(.aload_n 2, 1, pI 0), (.aload_n 0, 1, pI 0), (.iload_n 3, 1, pI 0), (.iconst 1, 1, pI 1), (.iadd, 1, pI 0), (.iaload, 1, pI 0), (.aload_n 0, 1, pI 0), (.iload_n 3, 1, pI 0), (.iconst 2, 1, pI 2), (.iadd, 1, pI 0), (.iaload, 1, pI 0)] 857 _ (by decide +kernel) ?_
  refine (And.intro rfl (And.intro rfl (And.intro i1 (And.intro rfl (And.intro rfl (And.intro i2 ?_))))))
  show zG w (lwF p l e s m below meth c9 b L cells slots xs) 4 868 ([some (pR 63 0), some (pR 0 0), some (pR 64 0), some (pI i)], [pI (xs (ix (i + 2))), pI (xs (ix (i + 1))), pR 64 0, pI a], (c', r))
  refine zcallVI (pc := 868) (As := [pI (xs (ix (i + 1))), pI (xs (ix (i + 2)))]) (st := [pI a]) (c := 64) (j := 0) hF (m_X7_may e2) w_X7_may k_8_90 (by decide +kernel) rfl rfl rfl rfl rfl rfl rfl ?_
  exact zicmp_eq (tgt := 1573) (pc := 871) hF (by decide +kernel) (fun _ => next _ _ _ hn) (fun b => absurd rfl b)
set_option maxHeartbeats 4000000 in
set_option maxRecDepth 100000 in
theorem law_17 {T : zTab} {c r : zMem} (hF : zFOK w (lwF p l e s m below meth c9 b L cells slots xs) 8 code 4 800) (i1 : inb (i + 1) L = true) (i2 : inb (i + 2) L = true) (i3 : inb (i + 3) L = true) (i4 : inb (i + 4) L = true) (i5 : inb (i + 5) L = true) (h : Rel T c r) (next : ∀ T' c' r', Rel T' c' r' → zG w (lwF p l e s m below meth c9 b L cells slots xs) 4 1573 ([some (pR 63 0), some (pR 0 0), some (pR 64 0), some (pI i)], [], (c', r'))) : zG w (lwF p l e s m below meth c9 b L cells slots xs) 4 876 ([some (pR 63 0), some (pR 0 0), some (pR 64 0), some (pI i)], [], (c, r)) := by
  obtain ⟨a, c', r', T', e1, e2, hn⟩ := op_takes h (xs (ix (i + 1))) (xs (ix (i + 2)))
  refine zrun hF [(.aload_n 1, 1, pI 0), (.aload_n 0, 1, pI 0), (.iload_n 3, 1, pI 0), (.iconst 1, 1, pI 1), (.iadd, 1, pI 0), (.iaload, 1, pI 0), (.aload_n 0, 1, pI 0), (.iload_n 3, 1, pI 0), (.iconst 2, 1, pI 2), (.iadd, 1, pI 0), (.iaload, 1, pI 0)] 876 _ (by decide +kernel) ?_
  refine (And.intro rfl (And.intro rfl (And.intro i1 (And.intro rfl (And.intro rfl (And.intro i2 ?_))))))
  show zG w (lwF p l e s m below meth c9 b L cells slots xs) 4 887 ([some (pR 63 0), some (pR 0 0), some (pR 64 0), some (pI i)], [pI (xs (ix (i + 2))), pI (xs (ix (i + 1))), pR 0 0], (c, r))
  refine zcallVI (pc := 887) (As := [pI (xs (ix (i + 1))), pI (xs (ix (i + 2)))]) (st := []) (c := 0) (j := 0) hF (m_X6_takes e1) w_X6_takes k_8_91 (by decide +kernel) rfl rfl rfl rfl rfl rfl rfl ?_
  refine zrun hF [(.aload_n 2, 1, pI 0), (.aload_n 0, 1, pI 0), (.iload_n 3, 1, pI 0), (.iconst 1, 1, pI 1), (.iadd, 1, pI 0), (.iaload, 1, pI 0), (.aload_n 0, 1, pI 0), (.iload_n 3, 1, pI 0), (.iconst 2, 1, pI 2), (.iadd, 1, pI 0), (.iaload, 1, pI 0)] 890 _ (by decide +kernel) ?_
  refine (And.intro rfl (And.intro rfl (And.intro i1 (And.intro rfl (And.intro rfl (And.intro i2 ?_))))))
  show zG w (lwF p l e s m below meth c9 b L cells slots xs) 4 901 ([some (pR 63 0), some (pR 0 0), some (pR 64 0), some (pI i)], [pI (xs (ix (i + 2))), pI (xs (ix (i + 1))), pR 64 0, pI a], (c', r))
  refine zcallVI (pc := 901) (As := [pI (xs (ix (i + 1))), pI (xs (ix (i + 2)))]) (st := [pI a]) (c := 64) (j := 0) hF (m_X7_takes e2) w_X7_takes k_8_94 (by decide +kernel) rfl rfl rfl rfl rfl rfl rfl ?_
  exact zicmp_eq (tgt := 1573) (pc := 904) hF (by decide +kernel) (fun _ => next _ _ _ hn) (fun b => absurd rfl b)
set_option maxHeartbeats 4000000 in
set_option maxRecDepth 100000 in
theorem law_18 {T : zTab} {c r : zMem} (hF : zFOK w (lwF p l e s m below meth c9 b L cells slots xs) 8 code 4 800) (i1 : inb (i + 1) L = true) (i2 : inb (i + 2) L = true) (i3 : inb (i + 3) L = true) (i4 : inb (i + 4) L = true) (i5 : inb (i + 5) L = true) (h : Rel T c r) (next : ∀ T' c' r', Rel T' c' r' → zG w (lwF p l e s m below meth c9 b L cells slots xs) 4 1573 ([some (pR 63 0), some (pR 0 0), some (pR 64 0), some (pI i)], [], (c', r'))) : zG w (lwF p l e s m below meth c9 b L cells slots xs) 4 909 ([some (pR 63 0), some (pR 0 0), some (pR 64 0), some (pI i)], [], (c, r)) := by
  obtain ⟨a, c', r', T', e1, e2, hn⟩ := op_cross h (xs (ix (i + 1))) (xs (ix (i + 2))) (xs (ix (i + 3))) (xs (ix (i + 4)))
  refine zrun hF [(.aload_n 1, 1, pI 0), (.aload_n 0, 1, pI 0), (.iload_n 3, 1, pI 0), (.iconst 1, 1, pI 1), (.iadd, 1, pI 0), (.iaload, 1, pI 0), (.aload_n 0, 1, pI 0), (.iload_n 3, 1, pI 0), (.iconst 2, 1, pI 2), (.iadd, 1, pI 0), (.iaload, 1, pI 0), (.aload_n 0, 1, pI 0), (.iload_n 3, 1, pI 0), (.iconst 3, 1, pI 3), (.iadd, 1, pI 0), (.iaload, 1, pI 0), (.aload_n 0, 1, pI 0), (.iload_n 3, 1, pI 0), (.iconst 4, 1, pI 4), (.iadd, 1, pI 0), (.iaload, 1, pI 0)] 909 _ (by decide +kernel) ?_
  refine (And.intro rfl (And.intro rfl (And.intro i1 (And.intro rfl (And.intro rfl (And.intro i2 (And.intro rfl (And.intro rfl (And.intro i3 (And.intro rfl (And.intro rfl (And.intro i4 ?_))))))))))))
  show zG w (lwF p l e s m below meth c9 b L cells slots xs) 4 930 ([some (pR 63 0), some (pR 0 0), some (pR 64 0), some (pI i)], [pI (xs (ix (i + 4))), pI (xs (ix (i + 3))), pI (xs (ix (i + 2))), pI (xs (ix (i + 1))), pR 0 0], (c, r))
  refine zcallVI (pc := 930) (As := [pI (xs (ix (i + 1))), pI (xs (ix (i + 2))), pI (xs (ix (i + 3))), pI (xs (ix (i + 4)))]) (st := []) (c := 0) (j := 0) hF (m_X6_cross e1) w_X6_cross k_8_95 (by decide +kernel) rfl rfl rfl rfl rfl rfl rfl ?_
  refine zrun hF [(.aload_n 2, 1, pI 0), (.aload_n 0, 1, pI 0), (.iload_n 3, 1, pI 0), (.iconst 1, 1, pI 1), (.iadd, 1, pI 0), (.iaload, 1, pI 0), (.aload_n 0, 1, pI 0), (.iload_n 3, 1, pI 0), (.iconst 2, 1, pI 2), (.iadd, 1, pI 0), (.iaload, 1, pI 0), (.aload_n 0, 1, pI 0), (.iload_n 3, 1, pI 0), (.iconst 3, 1, pI 3), (.iadd, 1, pI 0), (.iaload, 1, pI 0), (.aload_n 0, 1, pI 0), (.iload_n 3, 1, pI 0), (.iconst 4, 1, pI 4), (.iadd, 1, pI 0), (.iaload, 1, pI 0)] 933 _ (by decide +kernel) ?_
  refine (And.intro rfl (And.intro rfl (And.intro i1 (And.intro rfl (And.intro rfl (And.intro i2 (And.intro rfl (And.intro rfl (And.intro i3 (And.intro rfl (And.intro rfl (And.intro i4 ?_))))))))))))
  show zG w (lwF p l e s m below meth c9 b L cells slots xs) 4 954 ([some (pR 63 0), some (pR 0 0), some (pR 64 0), some (pI i)], [pI (xs (ix (i + 4))), pI (xs (ix (i + 3))), pI (xs (ix (i + 2))), pI (xs (ix (i + 1))), pR 64 0, pI a], (c', r))
  refine zcallVI (pc := 954) (As := [pI (xs (ix (i + 1))), pI (xs (ix (i + 2))), pI (xs (ix (i + 3))), pI (xs (ix (i + 4)))]) (st := [pI a]) (c := 64) (j := 0) hF (m_X7_cross e2) w_X7_cross k_8_99 (by decide +kernel) rfl rfl rfl rfl rfl rfl rfl ?_
  exact zicmp_eq (tgt := 1573) (pc := 957) hF (by decide +kernel) (fun _ => next _ _ _ hn) (fun b => absurd rfl b)
set_option maxHeartbeats 4000000 in
set_option maxRecDepth 100000 in
theorem law_19 {T : zTab} {c r : zMem} (hF : zFOK w (lwF p l e s m below meth c9 b L cells slots xs) 8 code 4 800) (i1 : inb (i + 1) L = true) (i2 : inb (i + 2) L = true) (i3 : inb (i + 3) L = true) (i4 : inb (i + 4) L = true) (i5 : inb (i + 5) L = true) (h : Rel T c r) (next : ∀ T' c' r', Rel T' c' r' → zG w (lwF p l e s m below meth c9 b L cells slots xs) 4 1573 ([some (pR 63 0), some (pR 0 0), some (pR 64 0), some (pI i)], [], (c', r'))) : zG w (lwF p l e s m below meth c9 b L cells slots xs) 4 962 ([some (pR 63 0), some (pR 0 0), some (pR 64 0), some (pI i)], [], (c, r)) := by
  obtain ⟨a, c', r', T', e1, e2, hn⟩ := op_wanted h (xs (ix (i + 1)))
  refine zrun hF [(.aload_n 1, 1, pI 0), (.aload_n 0, 1, pI 0), (.iload_n 3, 1, pI 0), (.iconst 1, 1, pI 1), (.iadd, 1, pI 0), (.iaload, 1, pI 0)] 962 _ (by decide +kernel) ?_
  refine (And.intro rfl (And.intro rfl (And.intro i1 ?_)))
  show zG w (lwF p l e s m below meth c9 b L cells slots xs) 4 968 ([some (pR 63 0), some (pR 0 0), some (pR 64 0), some (pI i)], [pI (xs (ix (i + 1))), pR 0 0], (c, r))
  refine zcallVI (pc := 968) (As := [pI (xs (ix (i + 1)))]) (st := []) (c := 0) (j := 0) hF (m_X6_wanted e1) w_X6_wanted k_8_100 (by decide +kernel) rfl rfl rfl rfl rfl rfl rfl ?_
  refine zrun hF [(.aload_n 2, 1, pI 0), (.aload_n 0, 1, pI 0), (.iload_n 3, 1, pI 0), (.iconst 1, 1, pI 1), (.iadd, 1, pI 0), (.iaload, 1, pI 0)] 971 _ (by decide +kernel) ?_
  refine (And.intro rfl (And.intro rfl (And.intro i1 ?_)))
  show zG w (lwF p l e s m below meth c9 b L cells slots xs) 4 977 ([some (pR 63 0), some (pR 0 0), some (pR 64 0), some (pI i)], [pI (xs (ix (i + 1))), pR 64 0, pI a], (c', r))
  refine zcallVI (pc := 977) (As := [pI (xs (ix (i + 1)))]) (st := [pI a]) (c := 64) (j := 0) hF (m_X7_wanted e2) w_X7_wanted k_8_103 (by decide +kernel) rfl rfl rfl rfl rfl rfl rfl ?_
  exact zicmp_eq (tgt := 1573) (pc := 980) hF (by decide +kernel) (fun _ => next _ _ _ hn) (fun b => absurd rfl b)
set_option maxHeartbeats 4000000 in
set_option maxRecDepth 100000 in
theorem law_20 {T : zTab} {c r : zMem} (hF : zFOK w (lwF p l e s m below meth c9 b L cells slots xs) 8 code 4 800) (i1 : inb (i + 1) L = true) (i2 : inb (i + 2) L = true) (i3 : inb (i + 3) L = true) (i4 : inb (i + 4) L = true) (i5 : inb (i + 5) L = true) (h : Rel T c r) (next : ∀ T' c' r', Rel T' c' r' → zG w (lwF p l e s m below meth c9 b L cells slots xs) 4 1573 ([some (pR 63 0), some (pR 0 0), some (pR 64 0), some (pI i)], [], (c', r'))) : zG w (lwF p l e s m below meth c9 b L cells slots xs) 4 985 ([some (pR 63 0), some (pR 0 0), some (pR 64 0), some (pI i)], [], (c, r)) := by
  obtain ⟨a, c', r', T', e1, e2, hn⟩ := op_most h (xs (ix (i + 1)))
  refine zrun hF [(.aload_n 1, 1, pI 0), (.aload_n 0, 1, pI 0), (.iload_n 3, 1, pI 0), (.iconst 1, 1, pI 1), (.iadd, 1, pI 0), (.iaload, 1, pI 0)] 985 _ (by decide +kernel) ?_
  refine (And.intro rfl (And.intro rfl (And.intro i1 ?_)))
  show zG w (lwF p l e s m below meth c9 b L cells slots xs) 4 991 ([some (pR 63 0), some (pR 0 0), some (pR 64 0), some (pI i)], [pI (xs (ix (i + 1))), pR 0 0], (c, r))
  refine zcallVI (pc := 991) (As := [pI (xs (ix (i + 1)))]) (st := []) (c := 0) (j := 0) hF (m_X6_most e1) w_X6_most k_8_104 (by decide +kernel) rfl rfl rfl rfl rfl rfl rfl ?_
  refine zrun hF [(.aload_n 2, 1, pI 0), (.aload_n 0, 1, pI 0), (.iload_n 3, 1, pI 0), (.iconst 1, 1, pI 1), (.iadd, 1, pI 0), (.iaload, 1, pI 0)] 994 _ (by decide +kernel) ?_
  refine (And.intro rfl (And.intro rfl (And.intro i1 ?_)))
  show zG w (lwF p l e s m below meth c9 b L cells slots xs) 4 1000 ([some (pR 63 0), some (pR 0 0), some (pR 64 0), some (pI i)], [pI (xs (ix (i + 1))), pR 64 0, pI a], (c', r))
  refine zcallVI (pc := 1000) (As := [pI (xs (ix (i + 1)))]) (st := [pI a]) (c := 64) (j := 0) hF (m_X7_most e2) w_X7_most k_8_107 (by decide +kernel) rfl rfl rfl rfl rfl rfl rfl ?_
  exact zicmp_eq (tgt := 1573) (pc := 1003) hF (by decide +kernel) (fun _ => next _ _ _ hn) (fun b => absurd rfl b)
set_option maxHeartbeats 4000000 in
set_option maxRecDepth 100000 in
theorem law_21 {T : zTab} {c r : zMem} (hF : zFOK w (lwF p l e s m below meth c9 b L cells slots xs) 8 code 4 800) (i1 : inb (i + 1) L = true) (i2 : inb (i + 2) L = true) (i3 : inb (i + 3) L = true) (i4 : inb (i + 4) L = true) (i5 : inb (i + 5) L = true) (h : Rel T c r) (next : ∀ T' c' r', Rel T' c' r' → zG w (lwF p l e s m below meth c9 b L cells slots xs) 4 1573 ([some (pR 63 0), some (pR 0 0), some (pR 64 0), some (pI i)], [], (c', r'))) : zG w (lwF p l e s m below meth c9 b L cells slots xs) 4 1008 ([some (pR 63 0), some (pR 0 0), some (pR 64 0), some (pI i)], [], (c, r)) := by
  obtain ⟨a, c', r', T', e1, e2, hn⟩ := op_ways h 
  refine zrun hF [(.aload_n 1, 1, pI 0)] 1008 _ (by decide +kernel) ?_
  show zG w (lwF p l e s m below meth c9 b L cells slots xs) 4 1009 ([some (pR 63 0), some (pR 0 0), some (pR 64 0), some (pI i)], [pR 0 0], (c, r))
  refine zcallVI (pc := 1009) (As := []) (st := []) (c := 0) (j := 0) hF (m_X6_ways e1) w_X6_ways k_8_108 (by decide +kernel) rfl rfl rfl rfl rfl rfl rfl ?_
  refine zrun hF [(.aload_n 2, 1, pI 0)] 1012 _ (by decide +kernel) ?_
  show zG w (lwF p l e s m below meth c9 b L cells slots xs) 4 1013 ([some (pR 63 0), some (pR 0 0), some (pR 64 0), some (pI i)], [pR 64 0, pI a], (c', r))
  refine zcallVI (pc := 1013) (As := []) (st := [pI a]) (c := 64) (j := 0) hF (m_X7_ways e2) w_X7_ways k_8_111 (by decide +kernel) rfl rfl rfl rfl rfl rfl rfl ?_
  exact zicmp_eq (tgt := 1573) (pc := 1016) hF (by decide +kernel) (fun _ => next _ _ _ hn) (fun b => absurd rfl b)
set_option maxHeartbeats 4000000 in
set_option maxRecDepth 100000 in
theorem law_22 {T : zTab} {c r : zMem} (hF : zFOK w (lwF p l e s m below meth c9 b L cells slots xs) 8 code 4 800) (i1 : inb (i + 1) L = true) (i2 : inb (i + 2) L = true) (i3 : inb (i + 3) L = true) (i4 : inb (i + 4) L = true) (i5 : inb (i + 5) L = true) (h : Rel T c r) (next : ∀ T' c' r', Rel T' c' r' → zG w (lwF p l e s m below meth c9 b L cells slots xs) 4 1573 ([some (pR 63 0), some (pR 0 0), some (pR 64 0), some (pI i)], [], (c', r'))) : zG w (lwF p l e s m below meth c9 b L cells slots xs) 4 1021 ([some (pR 63 0), some (pR 0 0), some (pR 64 0), some (pI i)], [], (c, r)) := by
  obtain ⟨a, c', r', T', e1, e2, hn⟩ := op_rounds h 
  refine zrun hF [(.aload_n 1, 1, pI 0)] 1021 _ (by decide +kernel) ?_
  show zG w (lwF p l e s m below meth c9 b L cells slots xs) 4 1022 ([some (pR 63 0), some (pR 0 0), some (pR 64 0), some (pI i)], [pR 0 0], (c, r))
  refine zcallVI (pc := 1022) (As := []) (st := []) (c := 0) (j := 0) hF (m_X6_rounds e1) w_X6_rounds k_8_112 (by decide +kernel) rfl rfl rfl rfl rfl rfl rfl ?_
  refine zrun hF [(.aload_n 2, 1, pI 0)] 1025 _ (by decide +kernel) ?_
  show zG w (lwF p l e s m below meth c9 b L cells slots xs) 4 1026 ([some (pR 63 0), some (pR 0 0), some (pR 64 0), some (pI i)], [pR 64 0, pI a], (c', r))
  refine zcallVI (pc := 1026) (As := []) (st := [pI a]) (c := 64) (j := 0) hF (m_X7_rounds e2) w_X7_rounds k_8_115 (by decide +kernel) rfl rfl rfl rfl rfl rfl rfl ?_
  exact zicmp_eq (tgt := 1573) (pc := 1029) hF (by decide +kernel) (fun _ => next _ _ _ hn) (fun b => absurd rfl b)
set_option maxHeartbeats 4000000 in
set_option maxRecDepth 100000 in
theorem law_23 {T : zTab} {c r : zMem} (hF : zFOK w (lwF p l e s m below meth c9 b L cells slots xs) 8 code 4 800) (i1 : inb (i + 1) L = true) (i2 : inb (i + 2) L = true) (i3 : inb (i + 3) L = true) (i4 : inb (i + 4) L = true) (i5 : inb (i + 5) L = true) (h : Rel T c r) (next : ∀ T' c' r', Rel T' c' r' → zG w (lwF p l e s m below meth c9 b L cells slots xs) 4 1573 ([some (pR 63 0), some (pR 0 0), some (pR 64 0), some (pI i)], [], (c', r'))) : zG w (lwF p l e s m below meth c9 b L cells slots xs) 4 1034 ([some (pR 63 0), some (pR 0 0), some (pR 64 0), some (pI i)], [], (c, r)) := by
  obtain ⟨a, c', r', T', e1, e2, hn⟩ := op_roundOf h (xs (ix (i + 1))) (xs (ix (i + 2)))
  refine zrun hF [(.aload_n 1, 1, pI 0), (.aload_n 0, 1, pI 0), (.iload_n 3, 1, pI 0), (.iconst 1, 1, pI 1), (.iadd, 1, pI 0), (.iaload, 1, pI 0), (.aload_n 0, 1, pI 0), (.iload_n 3, 1, pI 0), (.iconst 2, 1, pI 2), (.iadd, 1, pI 0), (.iaload, 1, pI 0)] 1034 _ (by decide +kernel) ?_
  refine (And.intro rfl (And.intro rfl (And.intro i1 (And.intro rfl (And.intro rfl (And.intro i2 ?_))))))
  show zG w (lwF p l e s m below meth c9 b L cells slots xs) 4 1045 ([some (pR 63 0), some (pR 0 0), some (pR 64 0), some (pI i)], [pI (xs (ix (i + 2))), pI (xs (ix (i + 1))), pR 0 0], (c, r))
  refine zcallVI (pc := 1045) (As := [pI (xs (ix (i + 1))), pI (xs (ix (i + 2)))]) (st := []) (c := 0) (j := 0) hF (m_X6_roundOf e1) w_X6_roundOf k_8_116 (by decide +kernel) rfl rfl rfl rfl rfl rfl rfl ?_
  refine zrun hF [(.aload_n 2, 1, pI 0), (.aload_n 0, 1, pI 0), (.iload_n 3, 1, pI 0), (.iconst 1, 1, pI 1), (.iadd, 1, pI 0), (.iaload, 1, pI 0), (.aload_n 0, 1, pI 0), (.iload_n 3, 1, pI 0), (.iconst 2, 1, pI 2), (.iadd, 1, pI 0), (.iaload, 1, pI 0)] 1048 _ (by decide +kernel) ?_
  refine (And.intro rfl (And.intro rfl (And.intro i1 (And.intro rfl (And.intro rfl (And.intro i2 ?_))))))
  show zG w (lwF p l e s m below meth c9 b L cells slots xs) 4 1059 ([some (pR 63 0), some (pR 0 0), some (pR 64 0), some (pI i)], [pI (xs (ix (i + 2))), pI (xs (ix (i + 1))), pR 64 0, pI a], (c', r))
  refine zcallVI (pc := 1059) (As := [pI (xs (ix (i + 1))), pI (xs (ix (i + 2)))]) (st := [pI a]) (c := 64) (j := 0) hF (m_X7_roundOf e2) w_X7_roundOf k_8_119 (by decide +kernel) rfl rfl rfl rfl rfl rfl rfl ?_
  exact zicmp_eq (tgt := 1573) (pc := 1062) hF (by decide +kernel) (fun _ => next _ _ _ hn) (fun b => absurd rfl b)
end LAW1
