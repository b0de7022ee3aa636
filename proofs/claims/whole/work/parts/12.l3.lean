/-! the law: its calls, by program -/
section LAW2
variable {w : zWd} {p : Program} {l : Launch} {e : Env} {s : State} {m : MethodId} {below : List Frame} {meth : Method} {c9 : Code} {b L cells slots : Nat} {xs : Nat → Int32} {i : Int32}
set_option maxHeartbeats 4000000 in
set_option maxRecDepth 100000 in
theorem law_24 {T : zTab} {c r : zMem} (hF : zFOK w (lwF p l e s m below meth c9 b L cells slots xs) 8 code 4 800) (i1 : inb (i + 1) L = true) (i2 : inb (i + 2) L = true) (i3 : inb (i + 3) L = true) (i4 : inb (i + 4) L = true) (i5 : inb (i + 5) L = true) (h : Rel T c r) (next : ∀ T' c' r', Rel T' c' r' → zG w (lwF p l e s m below meth c9 b L cells slots xs) 4 1573 ([some (pR 63 0), some (pR 0 0), some (pR 64 0), some (pI i)], [], (c', r'))) : zG w (lwF p l e s m below meth c9 b L cells slots xs) 4 1067 ([some (pR 63 0), some (pR 0 0), some (pR 64 0), some (pI i)], [], (c, r)) := by
  obtain ⟨a, c', r', T', e1, e2, hn⟩ := op_fewest h 
  refine zrun hF [(.aload_n 1, 1, pI 0)] 1067 _ (by decide +kernel) ?_
  show zG w (lwF p l e s m below meth c9 b L cells slots xs) 4 1068 ([some (pR 63 0), some (pR 0 0), some (pR 64 0), some (pI i)], [pR 0 0], (c, r))
  refine zcallVI (pc := 1068) (As := []) (st := []) (c := 0) (j := 0) hF (m_X6_fewest e1) w_X6_fewest k_8_120 (by decide +kernel) rfl rfl rfl rfl rfl rfl rfl ?_
  refine zrun hF [(.aload_n 2, 1, pI 0)] 1071 _ (by decide +kernel) ?_
  show zG w (lwF p l e s m below meth c9 b L cells slots xs) 4 1072 ([some (pR 63 0), some (pR 0 0), some (pR 64 0), some (pI i)], [pR 64 0, pI a], (c', r))
  refine zcallVI (pc := 1072) (As := []) (st := [pI a]) (c := 64) (j := 0) hF (m_X7_fewest e2) w_X7_fewest k_8_123 (by decide +kernel) rfl rfl rfl rfl rfl rfl rfl ?_
  exact zicmp_eq (tgt := 1573) (pc := 1075) hF (by decide +kernel) (fun _ => next _ _ _ hn) (fun b => absurd rfl b)
set_option maxHeartbeats 4000000 in
set_option maxRecDepth 100000 in
theorem law_25 {T : zTab} {c r : zMem} (hF : zFOK w (lwF p l e s m below meth c9 b L cells slots xs) 8 code 4 800) (i1 : inb (i + 1) L = true) (i2 : inb (i + 2) L = true) (i3 : inb (i + 3) L = true) (i4 : inb (i + 4) L = true) (i5 : inb (i + 5) L = true) (h : Rel T c r) (next : ∀ T' c' r', Rel T' c' r' → zG w (lwF p l e s m below meth c9 b L cells slots xs) 4 1573 ([some (pR 63 0), some (pR 0 0), some (pR 64 0), some (pI i)], [], (c', r'))) : zG w (lwF p l e s m below meth c9 b L cells slots xs) 4 1080 ([some (pR 63 0), some (pR 0 0), some (pR 64 0), some (pI i)], [], (c, r)) := by
  obtain ⟨a, e1, e2⟩ := op_bound h 
  refine zrun hF [(.aload_n 1, 1, pI 0)] 1080 _ (by decide +kernel) ?_
  show zG w (lwF p l e s m below meth c9 b L cells slots xs) 4 1081 ([some (pR 63 0), some (pR 0 0), some (pR 64 0), some (pI i)], [pR 0 0], (c, r))
  refine zcallVI (pc := 1081) (As := []) (st := []) (c := 0) (j := 0) hF (m_X6_bound e1) w_X6_bound k_8_124 (by decide +kernel) rfl rfl rfl rfl rfl rfl rfl ?_
  refine zrun hF [(.aload_n 2, 1, pI 0)] 1084 _ (by decide +kernel) ?_
  show zG w (lwF p l e s m below meth c9 b L cells slots xs) 4 1085 ([some (pR 63 0), some (pR 0 0), some (pR 64 0), some (pI i)], [pR 64 0, pI a], (c, r))
  refine zcallVI (pc := 1085) (As := []) (st := [pI a]) (c := 64) (j := 0) hF (m_X7_bound e2) w_X7_bound k_8_127 (by decide +kernel) rfl rfl rfl rfl rfl rfl rfl ?_
  exact zicmp_eq (tgt := 1573) (pc := 1088) hF (by decide +kernel) (fun _ => next _ _ _ h) (fun b => absurd rfl b)
set_option maxHeartbeats 4000000 in
set_option maxRecDepth 100000 in
theorem law_26 {T : zTab} {c r : zMem} (hF : zFOK w (lwF p l e s m below meth c9 b L cells slots xs) 8 code 4 800) (i1 : inb (i + 1) L = true) (i2 : inb (i + 2) L = true) (i3 : inb (i + 3) L = true) (i4 : inb (i + 4) L = true) (i5 : inb (i + 5) L = true) (h : Rel T c r) (next : ∀ T' c' r', Rel T' c' r' → zG w (lwF p l e s m below meth c9 b L cells slots xs) 4 1573 ([some (pR 63 0), some (pR 0 0), some (pR 64 0), some (pI i)], [], (c', r'))) : zG w (lwF p l e s m below meth c9 b L cells slots xs) 4 1093 ([some (pR 63 0), some (pR 0 0), some (pR 64 0), some (pI i)], [], (c, r)) := by
  obtain ⟨a, c', r', T', e1, e2, hn⟩ := op_lasts h (xs (ix (i + 1)))
  refine zrun hF [(.aload_n 1, 1, pI 0), (.aload_n 0, 1, pI 0), (.iload_n 3, 1, pI 0), (.iconst 1, 1, pI 1), (.iadd, 1, pI 0), (.iaload, 1, pI 0)] 1093 _ (by decide +kernel) ?_
  refine (And.intro rfl (And.intro rfl (And.intro i1 ?_)))
  show zG w (lwF p l e s m below meth c9 b L cells slots xs) 4 1099 ([some (pR 63 0), some (pR 0 0), some (pR 64 0), some (pI i)], [pI (xs (ix (i + 1))), pR 0 0], (c, r))
  refine zcallVI (pc := 1099) (As := [pI (xs (ix (i + 1)))]) (st := []) (c := 0) (j := 0) hF (m_X6_lasts e1) w_X6_lasts k_8_128 (by decide +kernel) rfl rfl rfl rfl rfl rfl rfl ?_
  refine zrun hF [(.aload_n 2, 1, pI 0), (.aload_n 0, 1, pI 0), (.iload_n 3, 1, pI 0), (.iconst 1, 1, pI 1), (.iadd, 1, pI 0), (.iaload, 1, pI 0)] 1102 _ (by decide +kernel) ?_
  refine (And.intro rfl (And.intro rfl (And.intro i1 ?_)))
  show zG w (lwF p l e s m below meth c9 b L cells slots xs) 4 1108 ([some (pR 63 0), some (pR 0 0), some (pR 64 0), some (pI i)], [pI (xs (ix (i + 1))), pR 64 0, pI a], (c', r))
  refine zcallVI (pc := 1108) (As := [pI (xs (ix (i + 1)))]) (st := [pI a]) (c := 64) (j := 0) hF (m_X7_lasts e2) w_X7_lasts k_8_131 (by decide +kernel) rfl rfl rfl rfl rfl rfl rfl ?_
  exact zicmp_eq (tgt := 1573) (pc := 1111) hF (by decide +kernel) (fun _ => next _ _ _ hn) (fun b => absurd rfl b)
set_option maxHeartbeats 4000000 in
set_option maxRecDepth 100000 in
theorem law_27 {T : zTab} {c r : zMem} (hF : zFOK w (lwF p l e s m below meth c9 b L cells slots xs) 8 code 4 800) (i1 : inb (i + 1) L = true) (i2 : inb (i + 2) L = true) (i3 : inb (i + 3) L = true) (i4 : inb (i + 4) L = true) (i5 : inb (i + 5) L = true) (h : Rel T c r) (next : ∀ T' c' r', Rel T' c' r' → zG w (lwF p l e s m below meth c9 b L cells slots xs) 4 1573 ([some (pR 63 0), some (pR 0 0), some (pR 64 0), some (pI i)], [], (c', r'))) : zG w (lwF p l e s m below meth c9 b L cells slots xs) 4 1116 ([some (pR 63 0), some (pR 0 0), some (pR 64 0), some (pI i)], [], (c, r)) := by
  obtain ⟨a, c', r', T', e1, e2, hn⟩ := op_leftOut h 
  refine zrun hF [(.aload_n 1, 1, pI 0)] 1116 _ (by decide +kernel) ?_
  show zG w (lwF p l e s m below meth c9 b L cells slots xs) 4 1117 ([some (pR 63 0), some (pR 0 0), some (pR 64 0), some (pI i)], [pR 0 0], (c, r))
  refine zcallVI (pc := 1117) (As := []) (st := []) (c := 0) (j := 0) hF (m_X6_leftOut e1) w_X6_leftOut k_8_132 (by decide +kernel) rfl rfl rfl rfl rfl rfl rfl ?_
  refine zrun hF [(.aload_n 2, 1, pI 0)] 1120 _ (by decide +kernel) ?_
  show zG w (lwF p l e s m below meth c9 b L cells slots xs) 4 1121 ([some (pR 63 0), some (pR 0 0), some (pR 64 0), some (pI i)], [pR 64 0, pI a], (c', r))
  refine zcallVI (pc := 1121) (As := []) (st := [pI a]) (c := 64) (j := 0) hF (m_X7_leftOut e2) w_X7_leftOut k_8_135 (by decide +kernel) rfl rfl rfl rfl rfl rfl rfl ?_
  exact zicmp_eq (tgt := 1573) (pc := 1124) hF (by decide +kernel) (fun _ => next _ _ _ hn) (fun b => absurd rfl b)
set_option maxHeartbeats 4000000 in
set_option maxRecDepth 100000 in
theorem law_28 {T : zTab} {c r : zMem} (hF : zFOK w (lwF p l e s m below meth c9 b L cells slots xs) 8 code 4 800) (i1 : inb (i + 1) L = true) (i2 : inb (i + 2) L = true) (i3 : inb (i + 3) L = true) (i4 : inb (i + 4) L = true) (i5 : inb (i + 5) L = true) (h : Rel T c r) (next : ∀ T' c' r', Rel T' c' r' → zG w (lwF p l e s m below meth c9 b L cells slots xs) 4 1573 ([some (pR 63 0), some (pR 0 0), some (pR 64 0), some (pI i)], [], (c', r'))) : zG w (lwF p l e s m below meth c9 b L cells slots xs) 4 1129 ([some (pR 63 0), some (pR 0 0), some (pR 64 0), some (pI i)], [], (c, r)) := by
  obtain ⟨a, e1, e2⟩ := op_never h 
  refine zrun hF [(.aload_n 1, 1, pI 0)] 1129 _ (by decide +kernel) ?_
  show zG w (lwF p l e s m below meth c9 b L cells slots xs) 4 1130 ([some (pR 63 0), some (pR 0 0), some (pR 64 0), some (pI i)], [pR 0 0], (c, r))
  refine zcallVI (pc := 1130) (As := []) (st := []) (c := 0) (j := 0) hF (m_X6_never e1) w_X6_never k_8_136 (by decide +kernel) rfl rfl rfl rfl rfl rfl rfl ?_
  refine zrun hF [(.aload_n 2, 1, pI 0)] 1133 _ (by decide +kernel) ?_
  show zG w (lwF p l e s m below meth c9 b L cells slots xs) 4 1134 ([some (pR 63 0), some (pR 0 0), some (pR 64 0), some (pI i)], [pR 64 0, pI a], (c, r))
  refine zcallVI (pc := 1134) (As := []) (st := [pI a]) (c := 64) (j := 0) hF (m_X7_never e2) w_X7_never k_8_139 (by decide +kernel) rfl rfl rfl rfl rfl rfl rfl ?_
  exact zicmp_eq (tgt := 1573) (pc := 1137) hF (by decide +kernel) (fun _ => next _ _ _ h) (fun b => absurd rfl b)
set_option maxHeartbeats 4000000 in
set_option maxRecDepth 100000 in
theorem law_29 {T : zTab} {c r : zMem} (hF : zFOK w (lwF p l e s m below meth c9 b L cells slots xs) 8 code 4 800) (i1 : inb (i + 1) L = true) (i2 : inb (i + 2) L = true) (i3 : inb (i + 3) L = true) (i4 : inb (i + 4) L = true) (i5 : inb (i + 5) L = true) (h : Rel T c r) (next : ∀ T' c' r', Rel T' c' r' → zG w (lwF p l e s m below meth c9 b L cells slots xs) 4 1573 ([some (pR 63 0), some (pR 0 0), some (pR 64 0), some (pI i)], [], (c', r'))) : zG w (lwF p l e s m below meth c9 b L cells slots xs) 4 1142 ([some (pR 63 0), some (pR 0 0), some (pR 64 0), some (pI i)], [], (c, r)) := by
  obtain ⟨a, c', r', T', e1, e2, hn⟩ := op_bestChange h 
  refine zrun hF [(.aload_n 1, 1, pI 0)] 1142 _ (by decide +kernel) ?_
  show zG w (lwF p l e s m below meth c9 b L cells slots xs) 4 1143 ([some (pR 63 0), some (pR 0 0), some (pR 64 0), some (pI i)], [pR 0 0], (c, r))
  refine zcallVI (pc := 1143) (As := []) (st := []) (c := 0) (j := 0) hF (m_X6_bestChange e1) w_X6_bestChange k_8_140 (by decide +kernel) rfl rfl rfl rfl rfl rfl rfl ?_
  refine zrun hF [(.aload_n 2, 1, pI 0)] 1146 _ (by decide +kernel) ?_
  show zG w (lwF p l e s m below meth c9 b L cells slots xs) 4 1147 ([some (pR 63 0), some (pR 0 0), some (pR 64 0), some (pI i)], [pR 64 0, pI a], (c', r))
  refine zcallVI (pc := 1147) (As := []) (st := [pI a]) (c := 64) (j := 0) hF (m_X7_bestChange e2) w_X7_bestChange k_8_143 (by decide +kernel) rfl rfl rfl rfl rfl rfl rfl ?_
  exact zicmp_eq (tgt := 1573) (pc := 1150) hF (by decide +kernel) (fun _ => next _ _ _ hn) (fun b => absurd rfl b)
set_option maxHeartbeats 4000000 in
set_option maxRecDepth 100000 in
theorem law_30 {T : zTab} {c r : zMem} (hF : zFOK w (lwF p l e s m below meth c9 b L cells slots xs) 8 code 4 800) (i1 : inb (i + 1) L = true) (i2 : inb (i + 2) L = true) (i3 : inb (i + 3) L = true) (i4 : inb (i + 4) L = true) (i5 : inb (i + 5) L = true) (h : Rel T c r) (next : ∀ T' c' r', Rel T' c' r' → zG w (lwF p l e s m below meth c9 b L cells slots xs) 4 1573 ([some (pR 63 0), some (pR 0 0), some (pR 64 0), some (pI i)], [], (c', r'))) : zG w (lwF p l e s m below meth c9 b L cells slots xs) 4 1155 ([some (pR 63 0), some (pR 0 0), some (pR 64 0), some (pI i)], [], (c, r)) := by
  obtain ⟨a, c', r', T', e1, e2, hn⟩ := op_freeSeat h (xs (ix (i + 1))) (xs (ix (i + 2)))
  refine zrun hF [(.aload_n 1, 1, pI 0), (.aload_n 0, 1, pI 0), (.iload_n 3, 1, pI 0), (.iconst 1, 1, pI 1), (.iadd, 1, pI 0), (.iaload, 1, pI 0), (.aload_n 0, 1, pI 0), (.iload_n 3, 1, pI 0), (.iconst 2, 1, pI 2), (.iadd, 1, pI 0), (.iaload, 1, pI 0)] 1155 _ (by decide +kernel) ?_
  refine (And.intro rfl (And.intro rfl (And.intro i1 (And.intro rfl (And.intro rfl (And.intro i2 ?_))))))
  show zG w (lwF p l e s m below meth c9 b L cells slots xs) 4 1166 ([some (pR 63 0), some (pR 0 0), some (pR 64 0), some (pI i)], [pI (xs (ix (i + 2))), pI (xs (ix (i + 1))), pR 0 0], (c, r))
  refine zcallVI (pc := 1166) (As := [pI (xs (ix (i + 1))), pI (xs (ix (i + 2)))]) (st := []) (c := 0) (j := 0) hF (m_X6_freeSeat e1) w_X6_freeSeat k_8_144 (by decide +kernel) rfl rfl rfl rfl rfl rfl rfl ?_
  refine zrun hF [(.aload_n 2, 1, pI 0), (.aload_n 0, 1, pI 0), (.iload_n 3, 1, pI 0), (.iconst 1, 1, pI 1), (.iadd, 1, pI 0), (.iaload, 1, pI 0), (.aload_n 0, 1, pI 0), (.iload_n 3, 1, pI 0), (.iconst 2, 1, pI 2), (.iadd, 1, pI 0), (.iaload, 1, pI 0)] 1169 _ (by decide +kernel) ?_
  refine (And.intro rfl (And.intro rfl (And.intro i1 (And.intro rfl (And.intro rfl (And.intro i2 ?_))))))
  show zG w (lwF p l e s m below meth c9 b L cells slots xs) 4 1180 ([some (pR 63 0), some (pR 0 0), some (pR 64 0), some (pI i)], [pI (xs (ix (i + 2))), pI (xs (ix (i + 1))), pR 64 0, pI a], (c', r))
  refine zcallVI (pc := 1180) (As := [pI (xs (ix (i + 1))), pI (xs (ix (i + 2)))]) (st := [pI a]) (c := 64) (j := 0) hF (m_X7_freeSeat e2) w_X7_freeSeat k_8_147 (by decide +kernel) rfl rfl rfl rfl rfl rfl rfl ?_
  exact zicmp_eq (tgt := 1573) (pc := 1183) hF (by decide +kernel) (fun _ => next _ _ _ hn) (fun b => absurd rfl b)
set_option maxHeartbeats 4000000 in
set_option maxRecDepth 100000 in
theorem law_31 {T : zTab} {c r : zMem} (hF : zFOK w (lwF p l e s m below meth c9 b L cells slots xs) 8 code 4 800) (i1 : inb (i + 1) L = true) (i2 : inb (i + 2) L = true) (i3 : inb (i + 3) L = true) (i4 : inb (i + 4) L = true) (i5 : inb (i + 5) L = true) (h : Rel T c r) (next : ∀ T' c' r', Rel T' c' r' → zG w (lwF p l e s m below meth c9 b L cells slots xs) 4 1573 ([some (pR 63 0), some (pR 0 0), some (pR 64 0), some (pI i)], [], (c', r'))) : zG w (lwF p l e s m below meth c9 b L cells slots xs) 4 1188 ([some (pR 63 0), some (pR 0 0), some (pR 64 0), some (pI i)], [], (c, r)) := by
  obtain ⟨a, c', r', T', e1, e2, hn⟩ := op_judge h (xs (ix (i + 1))) (xs (ix (i + 2)))
  refine zrun hF [(.aload_n 1, 1, pI 0), (.aload_n 0, 1, pI 0), (.iload_n 3, 1, pI 0), (.iconst 1, 1, pI 1), (.iadd, 1, pI 0), (.iaload, 1, pI 0), (.aload_n 0, 1, pI 0), (.iload_n 3, 1, pI 0), (.iconst 2, 1, pI 2), (.iadd, 1, pI 0), (.iaload, 1, pI 0)] 1188 _ (by decide +kernel) ?_
  refine (And.intro rfl (And.intro rfl (And.intro i1 (And.intro rfl (And.intro rfl (And.intro i2 ?_))))))
  show zG w (lwF p l e s m below meth c9 b L cells slots xs) 4 1199 ([some (pR 63 0), some (pR 0 0), some (pR 64 0), some (pI i)], [pI (xs (ix (i + 2))), pI (xs (ix (i + 1))), pR 0 0], (c, r))
  refine zcallVI (pc := 1199) (As := [pI (xs (ix (i + 1))), pI (xs (ix (i + 2)))]) (st := []) (c := 0) (j := 0) hF (m_X6_judge e1) w_X6_judge k_8_148 (by decide +kernel) rfl rfl rfl rfl rfl rfl rfl ?_
  refine zrun hF [(.aload_n 2, 1, pI 0), (.aload_n 0, 1, pI 0), (.iload_n 3, 1, pI 0), (.iconst 1, 1, pI 1), (.iadd, 1, pI 0), (.iaload, 1, pI 0), (.aload_n 0, 1, pI 0), (.iload_n 3, 1, pI 0), (.iconst 2, 1, pI 2), (.iadd, 1, pI 0), (.iaload, 1, pI 0)] 1202 _ (by decide +kernel) ?_
  refine (And.intro rfl (And.intro rfl (And.intro i1 (And.intro rfl (And.intro rfl (And.intro i2 ?_))))))
  show zG w (lwF p l e s m below meth c9 b L cells slots xs) 4 1213 ([some (pR 63 0), some (pR 0 0), some (pR 64 0), some (pI i)], [pI (xs (ix (i + 2))), pI (xs (ix (i + 1))), pR 64 0, pI a], (c', r))
  refine zcallVI (pc := 1213) (As := [pI (xs (ix (i + 1))), pI (xs (ix (i + 2)))]) (st := [pI a]) (c := 64) (j := 0) hF (m_X7_judge e2) w_X7_judge k_8_151 (by decide +kernel) rfl rfl rfl rfl rfl rfl rfl ?_
  exact zicmp_eq (tgt := 1573) (pc := 1216) hF (by decide +kernel) (fun _ => next _ _ _ hn) (fun b => absurd rfl b)
set_option maxHeartbeats 4000000 in
set_option maxRecDepth 100000 in
theorem law_32 {T : zTab} {c r : zMem} (hF : zFOK w (lwF p l e s m below meth c9 b L cells slots xs) 8 code 4 800) (i1 : inb (i + 1) L = true) (i2 : inb (i + 2) L = true) (i3 : inb (i + 3) L = true) (i4 : inb (i + 4) L = true) (i5 : inb (i + 5) L = true) (h : Rel T c r) (next : ∀ T' c' r', Rel T' c' r' → zG w (lwF p l e s m below meth c9 b L cells slots xs) 4 1573 ([some (pR 63 0), some (pR 0 0), some (pR 64 0), some (pI i)], [], (c', r'))) : zG w (lwF p l e s m below meth c9 b L cells slots xs) 4 1221 ([some (pR 63 0), some (pR 0 0), some (pR 64 0), some (pI i)], [], (c, r)) := by
  obtain ⟨a, c', r', T', e1, e2, hn⟩ := op_behind h (xs (ix (i + 1))) (xs (ix (i + 2))) (xs (ix (i + 3)))
  refine zrun hF [(.aload_n 1, 1, pI 0), (.aload_n 0, 1, pI 0), (.iload_n 3, 1, pI 0), (.iconst 1, 1, pI 1), (.iadd, 1, pI 0), (.iaload, 1, pI 0), (.aload_n 0, 1, pI 0), (.iload_n 3, 1, pI 0), (.iconst 2, 1, pI 2), (.iadd, 1, pI 0), (.iaload, 1, pI 0), (.aload_n 0, 1, pI 0), (.iload_n 3, 1, pI 0), (.iconst 3, 1, pI 3), (.iadd, 1, pI 0), (.iaload, 1, pI 0)] 1221 _ (by decide +kernel) ?_
  refine (And.intro rfl (And.intro rfl (And.intro i1 (And.intro rfl (And.intro rfl (And.intro i2 (And.intro rfl (And.intro rfl (And.intro i3 ?_)))))))))
  show zG w (lwF p l e s m below meth c9 b L cells slots xs) 4 1237 ([some (pR 63 0), some (pR 0 0), some (pR 64 0), some (pI i)], [pI (xs (ix (i + 3))), pI (xs (ix (i + 2))), pI (xs (ix (i + 1))), pR 0 0], (c, r))
  refine zcallVI (pc := 1237) (As := [pI (xs (ix (i + 1))), pI (xs (ix (i + 2))), pI (xs (ix (i + 3)))]) (st := []) (c := 0) (j := 0) hF (m_X6_behind e1) w_X6_behind k_8_152 (by decide +kernel) rfl rfl rfl rfl rfl rfl rfl ?_
  refine zrun hF [(.aload_n 2, 1, pI 0), (.aload_n 0, 1, pI 0), (.iload_n 3, 1, pI 0), (.iconst 1, 1, pI 1), (.iadd, 1, pI 0), (.iaload, 1, pI 0), (.aload_n 0, 1, pI 0), (.iload_n 3, 1, pI 0), (.iconst 2, 1, pI 2), (.iadd, 1, pI 0), (.iaload, 1, pI 0), (.aload_n 0, 1, pI 0), (.iload_n 3, 1, pI 0), (.iconst 3, 1, pI 3), (.iadd, 1, pI 0), (.iaload, 1, pI 0)] 1240 _ (by decide +kernel) ?_
  refine (And.intro rfl (And.intro rfl (And.intro i1 (And.intro rfl (And.intro rfl (And.intro i2 (And.intro rfl (And.intro rfl (And.intro i3 ?_)))))))))
  show zG w (lwF p l e s m below meth c9 b L cells slots xs) 4 1256 ([some (pR 63 0), some (pR 0 0), some (pR 64 0), some (pI i)], [pI (xs (ix (i + 3))), pI (xs (ix (i + 2))), pI (xs (ix (i + 1))), pR 64 0, pI a], (c', r))
  refine zcallVI (pc := 1256) (As := [pI (xs (ix (i + 1))), pI (xs (ix (i + 2))), pI (xs (ix (i + 3)))]) (st := [pI a]) (c := 64) (j := 0) hF (m_X7_behind e2) w_X7_behind k_8_155 (by decide +kernel) rfl rfl rfl rfl rfl rfl rfl ?_
  exact zicmp_eq (tgt := 1573) (pc := 1259) hF (by decide +kernel) (fun _ => next _ _ _ hn) (fun b => absurd rfl b)
set_option maxHeartbeats 4000000 in
set_option maxRecDepth 100000 in
theorem law_33 {T : zTab} {c r : zMem} (hF : zFOK w (lwF p l e s m below meth c9 b L cells slots xs) 8 code 4 800) (i1 : inb (i + 1) L = true) (i2 : inb (i + 2) L = true) (i3 : inb (i + 3) L = true) (i4 : inb (i + 4) L = true) (i5 : inb (i + 5) L = true) (h : Rel T c r) (next : ∀ T' c' r', Rel T' c' r' → zG w (lwF p l e s m below meth c9 b L cells slots xs) 4 1573 ([some (pR 63 0), some (pR 0 0), some (pR 64 0), some (pI i)], [], (c', r'))) : zG w (lwF p l e s m below meth c9 b L cells slots xs) 4 1264 ([some (pR 63 0), some (pR 0 0), some (pR 64 0), some (pI i)], [], (c, r)) := by
  obtain ⟨a, c', r', T', e1, e2, hn⟩ := op_told h (xs (ix (i + 1))) (xs (ix (i + 2)))
  refine zrun hF [(.aload_n 1, 1, pI 0), (.aload_n 0, 1, pI 0), (.iload_n 3, 1, pI 0), (.iconst 1, 1, pI 1), (.iadd, 1, pI 0), (.iaload, 1, pI 0), (.aload_n 0, 1, pI 0), (.iload_n 3, 1, pI 0), (.iconst 2, 1, pI 2), (.iadd, 1, pI 0), (.iaload, 1, pI 0)] 1264 _ (by decide +kernel) ?_
  refine (And.intro rfl (And.intro rfl (And.intro i1 (And.intro rfl (And.intro rfl (And.intro i2 ?_))))))
  show zG w (lwF p l e s m below meth c9 b L cells slots xs) 4 1275 ([some (pR 63 0), some (pR 0 0), some (pR 64 0), some (pI i)], [pI (xs (ix (i + 2))), pI (xs (ix (i + 1))), pR 0 0], (c, r))
  refine zcallVI (pc := 1275) (As := [pI (xs (ix (i + 1))), pI (xs (ix (i + 2)))]) (st := []) (c := 0) (j := 0) hF (m_X6_told e1) w_X6_told k_8_156 (by decide +kernel) rfl rfl rfl rfl rfl rfl rfl ?_
  refine zrun hF [(.aload_n 2, 1, pI 0), (.aload_n 0, 1, pI 0), (.iload_n 3, 1, pI 0), (.iconst 1, 1, pI 1), (.iadd, 1, pI 0), (.iaload, 1, pI 0), (.aload_n 0, 1, pI 0), (.iload_n 3, 1, pI 0), (.iconst 2, 1, pI 2), (.iadd, 1, pI 0), (.iaload, 1, pI 0)] 1278 _ (by decide +kernel) ?_
  refine (And.intro rfl (And.intro rfl (And.intro i1 (And.intro rfl (And.intro rfl (And.intro i2 ?_))))))
  show zG w (lwF p l e s m below meth c9 b L cells slots xs) 4 1289 ([some (pR 63 0), some (pR 0 0), some (pR 64 0), some (pI i)], [pI (xs (ix (i + 2))), pI (xs (ix (i + 1))), pR 64 0, pI a], (c', r))
  refine zcallVI (pc := 1289) (As := [pI (xs (ix (i + 1))), pI (xs (ix (i + 2)))]) (st := [pI a]) (c := 64) (j := 0) hF (m_X7_told e2) w_X7_told k_8_159 (by decide +kernel) rfl rfl rfl rfl rfl rfl rfl ?_
  exact zicmp_eq (tgt := 1573) (pc := 1292) hF (by decide +kernel) (fun _ => next _ _ _ hn) (fun b => absurd rfl b)
set_option maxHeartbeats 4000000 in
set_option maxRecDepth 100000 in
theorem law_34 {T : zTab} {c r : zMem} (hF : zFOK w (lwF p l e s m below meth c9 b L cells slots xs) 8 code 4 800) (i1 : inb (i + 1) L = true) (i2 : inb (i + 2) L = true) (i3 : inb (i + 3) L = true) (i4 : inb (i + 4) L = true) (i5 : inb (i + 5) L = true) (h : Rel T c r) (next : ∀ T' c' r', Rel T' c' r' → zG w (lwF p l e s m below meth c9 b L cells slots xs) 4 1573 ([some (pR 63 0), some (pR 0 0), some (pR 64 0), some (pI i)], [], (c', r'))) : zG w (lwF p l e s m below meth c9 b L cells slots xs) 4 1297 ([some (pR 63 0), some (pR 0 0), some (pR 64 0), some (pI i)], [], (c, r)) := by
  obtain ⟨a, c', r', T', e1, e2, hn⟩ := op_layers h 
  refine zrun hF [(.aload_n 1, 1, pI 0)] 1297 _ (by decide +kernel) ?_
  show zG w (lwF p l e s m below meth c9 b L cells slots xs) 4 1298 ([some (pR 63 0), some (pR 0 0), some (pR 64 0), some (pI i)], [pR 0 0], (c, r))
  refine zcallVI (pc := 1298) (As := []) (st := []) (c := 0) (j := 0) hF (m_X6_layers e1) w_X6_layers k_8_160 (by decide +kernel) rfl rfl rfl rfl rfl rfl rfl ?_
  refine zrun hF [(.aload_n 2, 1, pI 0)] 1301 _ (by decide +kernel) ?_
  show zG w (lwF p l e s m below meth c9 b L cells slots xs) 4 1302 ([some (pR 63 0), some (pR 0 0), some (pR 64 0), some (pI i)], [pR 64 0, pI a], (c', r))
  refine zcallVI (pc := 1302) (As := []) (st := [pI a]) (c := 64) (j := 0) hF (m_X7_layers e2) w_X7_layers k_8_163 (by decide +kernel) rfl rfl rfl rfl rfl rfl rfl ?_
  exact zicmp_eq (tgt := 1573) (pc := 1305) hF (by decide +kernel) (fun _ => next _ _ _ hn) (fun b => absurd rfl b)
set_option maxHeartbeats 4000000 in
set_option maxRecDepth 100000 in
theorem law_35 {T : zTab} {c r : zMem} (hF : zFOK w (lwF p l e s m below meth c9 b L cells slots xs) 8 code 4 800) (i1 : inb (i + 1) L = true) (i2 : inb (i + 2) L = true) (i3 : inb (i + 3) L = true) (i4 : inb (i + 4) L = true) (i5 : inb (i + 5) L = true) (h : Rel T c r) (next : ∀ T' c' r', Rel T' c' r' → zG w (lwF p l e s m below meth c9 b L cells slots xs) 4 1573 ([some (pR 63 0), some (pR 0 0), some (pR 64 0), some (pI i)], [], (c', r'))) : zG w (lwF p l e s m below meth c9 b L cells slots xs) 4 1310 ([some (pR 63 0), some (pR 0 0), some (pR 64 0), some (pI i)], [], (c, r)) := by
  obtain ⟨a, c', r', T', e1, e2, hn⟩ := op_clink h (xs (ix (i + 1))) (xs (ix (i + 2)))
  refine zrun hF [(.aload_n 1, 1, pI 0), (.aload_n 0, 1, pI 0), (.iload_n 3, 1, pI 0), (.iconst 1, 1, pI 1), (.iadd, 1, pI 0), (.iaload, 1, pI 0), (.aload_n 0, 1, pI 0), (.iload_n 3, 1, pI 0), (.iconst 2, 1, pI 2), (.iadd, 1, pI 0), (.iaload, 1, pI 0)] 1310 _ (by decide +kernel) ?_
  refine (And.intro rfl (And.intro rfl (And.intro i1 (And.intro rfl (And.intro rfl (And.intro i2 ?_))))))
  show zG w (lwF p l e s m below meth c9 b L cells slots xs) 4 1321 ([some (pR 63 0), some (pR 0 0), some (pR 64 0), some (pI i)], [pI (xs (ix (i + 2))), pI (xs (ix (i + 1))), pR 0 0], (c, r))
  refine zcallVI (pc := 1321) (As := [pI (xs (ix (i + 1))), pI (xs (ix (i + 2)))]) (st := []) (c := 0) (j := 0) hF (m_X6_clink e1) w_X6_clink k_8_164 (by decide +kernel) rfl rfl rfl rfl rfl rfl rfl ?_
  refine zrun hF [(.aload_n 2, 1, pI 0), (.aload_n 0, 1, pI 0), (.iload_n 3, 1, pI 0), (.iconst 1, 1, pI 1), (.iadd, 1, pI 0), (.iaload, 1, pI 0), (.aload_n 0, 1, pI 0), (.iload_n 3, 1, pI 0), (.iconst 2, 1, pI 2), (.iadd, 1, pI 0), (.iaload, 1, pI 0)] 1324 _ (by decide +kernel) ?_
  refine (And.intro rfl (And.intro rfl (And.intro i1 (And.intro rfl (And.intro rfl (And.intro i2 ?_))))))
  show zG w (lwF p l e s m below meth c9 b L cells slots xs) 4 1335 ([some (pR 63 0), some (pR 0 0), some (pR 64 0), some (pI i)], [pI (xs (ix (i + 2))), pI (xs (ix (i + 1))), pR 64 0, pI a], (c', r))
  refine zcallVI (pc := 1335) (As := [pI (xs (ix (i + 1))), pI (xs (ix (i + 2)))]) (st := [pI a]) (c := 64) (j := 0) hF (m_X7_clink e2) w_X7_clink k_8_167 (by decide +kernel) rfl rfl rfl rfl rfl rfl rfl ?_
  exact zicmp_eq (tgt := 1573) (pc := 1338) hF (by decide +kernel) (fun _ => next _ _ _ hn) (fun b => absurd rfl b)
end LAW2
