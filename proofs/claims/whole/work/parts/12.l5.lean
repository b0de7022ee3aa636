/-! the law's loop -/
section LAWL
variable {w : zWd} {p : Program} {l : Launch} {e : Env} {s : State} {m : MethodId} {below : List Frame} {meth : Method} {c9 : Code} {b L cells slots : Nat} {xs : Nat → Int32}
theorem zsw_all {f : zFr} {nL : Nat} {X : zSt} {x : Int32} {dflt : Nat} : ∀ (tbl : List (Int32 × Nat)), (∀ q ∈ tbl, zG w f nL q.2 X) → zG w f nL dflt X → zsw w f nL X x dflt tbl
  | [], _, h => h
  | q :: r, h, h0 => ⟨fun _ => h q List.mem_cons_self, fun _ => zsw_all r (fun y hy => h y (List.mem_cons_of_mem _ hy)) h0⟩
theorem law_end {LL : List (Option zPV)} {M : zWM} (hF : zFOK w (lwF p l e s m below meth c9 b L cells slots xs) 8 code 4 800) (hret : meth.sig.returnType = ret) (hA : w.2.2.2 = fun q : Nat => s.heap.size ≤ q) (h1 : cells ≤ 600000) (h2 : slots ≤ 7302250) : zG w (lwF p l e s m below meth c9 b L cells slots xs) 4 1580 (LL, [pI 1], M) := by
  obtain ⟨hx, hb, hml, hown, hts, hlk, hrm, hsp, hD, hz⟩ := hF
  intro hn H locs ls hP hS hL
  refine va_forget (fun q hq => ?_) ?_
  · have := hS.2.2 q hq
    rw [hA] at this
    exact this
  · refine W.widen (k := 600000) (n := 7302250) h1 h2 ?_
    exact lw_ret hx hb hret hlk (by decide +kernel)
set_option maxHeartbeats 4000000 in
set_option maxRecDepth 100000 in
theorem law_cases {T : zTab} {c r : zMem} {i x : Int32} (hF : zFOK w (lwF p l e s m below meth c9 b L cells slots xs) 8 code 4 800) (i1 : inb (i + 1) L = true) (i2 : inb (i + 2) L = true) (i3 : inb (i + 3) L = true) (i4 : inb (i + 4) L = true) (i5 : inb (i + 5) L = true) (h : Rel T c r) (next : ∀ T' c' r', Rel T' c' r' → zG w (lwF p l e s m below meth c9 b L cells slots xs) 4 1573 ([some (pR 63 0), some (pR 0 0), some (pR 64 0), some (pI i)], [], (c', r'))) : zsw w (lwF p l e s m below meth c9 b L cells slots xs) 4 ([some (pR 63 0), some (pR 0 0), some (pR 64 0), some (pI i)], [], (c, r)) x 1573 [(0, 232), (1, 275), (2, 348), (3, 411), (4, 445), (5, 478), (6, 501), (7, 534), (8, 557), (9, 600), (10, 633), (11, 692), (12, 751), (13, 774), (14, 797), (15, 810), (16, 843), (17, 876), (18, 909), (19, 962), (20, 985), (21, 1008), (22, 1021), (23, 1034), (24, 1067), (25, 1080), (26, 1093), (27, 1116), (28, 1129), (29, 1142), (30, 1155), (31, 1188), (32, 1221), (33, 1264), (34, 1297), (35, 1310), (36, 1343), (37, 1366), (38, 1399), (39, 1412), (40, 1435), (41, 1458), (42, 1501), (43, 1524), (44, 1537), (45, 1550)] :=
  zsw_all _ (List.forall_mem_cons.mpr ⟨law_0 hF i1 i2 i3 i4 i5 h next, List.forall_mem_cons.mpr ⟨law_1 hF i1 i2 i3 i4 i5 h next, List.forall_mem_cons.mpr ⟨law_2 hF i1 i2 i3 i4 i5 h next, List.forall_mem_cons.mpr ⟨law_3 hF i1 i2 i3 i4 i5 h next, List.forall_mem_cons.mpr ⟨law_4 hF i1 i2 i3 i4 i5 h next, List.forall_mem_cons.mpr ⟨law_5 hF i1 i2 i3 i4 i5 h next, List.forall_mem_cons.mpr ⟨law_6 hF i1 i2 i3 i4 i5 h next, List.forall_mem_cons.mpr ⟨law_7 hF i1 i2 i3 i4 i5 h next, List.forall_mem_cons.mpr ⟨law_8 hF i1 i2 i3 i4 i5 h next, List.forall_mem_cons.mpr ⟨law_9 hF i1 i2 i3 i4 i5 h next, List.forall_mem_cons.mpr ⟨law_10 hF i1 i2 i3 i4 i5 h next, List.forall_mem_cons.mpr ⟨law_11 hF i1 i2 i3 i4 i5 h next, List.forall_mem_cons.mpr ⟨law_12 hF i1 i2 i3 i4 i5 h next, List.forall_mem_cons.mpr ⟨law_13 hF i1 i2 i3 i4 i5 h next, List.forall_mem_cons.mpr ⟨law_14 hF i1 i2 i3 i4 i5 h next, List.forall_mem_cons.mpr ⟨law_15 hF i1 i2 i3 i4 i5 h next, List.forall_mem_cons.mpr ⟨law_16 hF i1 i2 i3 i4 i5 h next, List.forall_mem_cons.mpr ⟨law_17 hF i1 i2 i3 i4 i5 h next, List.forall_mem_cons.mpr ⟨law_18 hF i1 i2 i3 i4 i5 h next, List.forall_mem_cons.mpr ⟨law_19 hF i1 i2 i3 i4 i5 h next, List.forall_mem_cons.mpr ⟨law_20 hF i1 i2 i3 i4 i5 h next, List.forall_mem_cons.mpr ⟨law_21 hF i1 i2 i3 i4 i5 h next, List.forall_mem_cons.mpr ⟨law_22 hF i1 i2 i3 i4 i5 h next, List.forall_mem_cons.mpr ⟨law_23 hF i1 i2 i3 i4 i5 h next, List.forall_mem_cons.mpr ⟨law_24 hF i1 i2 i3 i4 i5 h next, List.forall_mem_cons.mpr ⟨law_25 hF i1 i2 i3 i4 i5 h next, List.forall_mem_cons.mpr ⟨law_26 hF i1 i2 i3 i4 i5 h next, List.forall_mem_cons.mpr ⟨law_27 hF i1 i2 i3 i4 i5 h next, List.forall_mem_cons.mpr ⟨law_28 hF i1 i2 i3 i4 i5 h next, List.forall_mem_cons.mpr ⟨law_29 hF i1 i2 i3 i4 i5 h next, List.forall_mem_cons.mpr ⟨law_30 hF i1 i2 i3 i4 i5 h next, List.forall_mem_cons.mpr ⟨law_31 hF i1 i2 i3 i4 i5 h next, List.forall_mem_cons.mpr ⟨law_32 hF i1 i2 i3 i4 i5 h next, List.forall_mem_cons.mpr ⟨law_33 hF i1 i2 i3 i4 i5 h next, List.forall_mem_cons.mpr ⟨law_34 hF i1 i2 i3 i4 i5 h next, List.forall_mem_cons.mpr ⟨law_35 hF i1 i2 i3 i4 i5 h next, List.forall_mem_cons.mpr ⟨law_36 hF i1 i2 i3 i4 i5 h next, List.forall_mem_cons.mpr ⟨law_37 hF i1 i2 i3 i4 i5 h next, List.forall_mem_cons.mpr ⟨law_38 hF i1 i2 i3 i4 i5 h next, List.forall_mem_cons.mpr ⟨law_39 hF i1 i2 i3 i4 i5 h next, List.forall_mem_cons.mpr ⟨law_40 hF i1 i2 i3 i4 i5 h next, List.forall_mem_cons.mpr ⟨law_41 hF i1 i2 i3 i4 i5 h next, List.forall_mem_cons.mpr ⟨law_42 hF i1 i2 i3 i4 i5 h next, List.forall_mem_cons.mpr ⟨law_43 hF i1 i2 i3 i4 i5 h next, List.forall_mem_cons.mpr ⟨law_44 hF i1 i2 i3 i4 i5 h next, List.forall_mem_cons.mpr ⟨law_45 hF i1 i2 i3 i4 i5 h next, List.forall_mem_nil _⟩⟩⟩⟩⟩⟩⟩⟩⟩⟩⟩⟩⟩⟩⟩⟩⟩⟩⟩⟩⟩⟩⟩⟩⟩⟩⟩⟩⟩⟩⟩⟩⟩⟩⟩⟩⟩⟩⟩⟩⟩⟩⟩⟩⟩⟩) (next _ _ _ h)
set_option maxHeartbeats 4000000 in
set_option maxRecDepth 100000 in
theorem law_loop (hF : zFOK w (lwF p l e s m below meth c9 b L cells slots xs) 8 code 4 800) (hret : meth.sig.returnType = ret) (hA : w.2.2.2 = fun q : Nat => s.heap.size ≤ q) (h1 : cells ≤ 600000) (h2 : slots ≤ 7302250) (hL : L ≤ 3072) : ∀ (d i : Nat) (T : zTab) (c r : zMem), L ≤ i + d → i ≤ 4000 → Rel T c r → zG w (lwF p l e s m below meth c9 b L cells slots xs) 4 18 ([some (pR 63 0), some (pR 0 0), some (pR 64 0), some (pI (zi (i : Nat)))], [], (c, r)) := by
  intro d
  induction d with
  | zero =>
    intro i T c r hi hi2 h
    refine zrun hF [(.iload_n 3, 1, pI 0), (.aload_n 0, 1, pI 0), (.arraylength, 1, pI 0), (.bipush 6, 2, pI 6), (.isub, 1, pI 0)] 18 _ (by decide +kernel) ?_
    refine (And.intro rfl (And.intro rfl ?_))
    show zG w (lwF p l e s m below meth c9 b L cells slots xs) 4 24 ([some (pR 63 0), some (pR 0 0), some (pR 64 0), some (pI (zi (i : Nat)))], [pI (zi (L : Nat) - 6), pI (zi (i : Nat))], (c, r))
    refine zicmp_gt (tgt := 1579) (pc := 24) hF (by decide +kernel) (fun _ => ?_) (fun q => absurd ?_ q)
    · refine zrun hF [(.iconst 1, 1, pI 1)] 1579 _ (by decide +kernel) ?_
      show zG w (lwF p l e s m below meth c9 b L cells slots xs) 4 1580 ([some (pR 63 0), some (pR 0 0), some (pR 64 0), some (pI (zi (i : Nat)))], [pI 1], (c, r))
      exact law_end hF hret hA h1 h2
    · rw [show (6 : Int32) = zi 6 from rfl, zi_sub, zi_lt (by omega) (by omega) (by omega) (by omega)]; omega
  | succ d ih =>
    intro i T c r hi hi2 h
    refine zrun hF [(.iload_n 3, 1, pI 0), (.aload_n 0, 1, pI 0), (.arraylength, 1, pI 0), (.bipush 6, 2, pI 6), (.isub, 1, pI 0)] 18 _ (by decide +kernel) ?_
    refine (And.intro rfl (And.intro rfl ?_))
    show zG w (lwF p l e s m below meth c9 b L cells slots xs) 4 24 ([some (pR 63 0), some (pR 0 0), some (pR 64 0), some (pI (zi (i : Nat)))], [pI (zi (L : Nat) - 6), pI (zi (i : Nat))], (c, r))
    refine zicmp_gt (tgt := 1579) (pc := 24) hF (by decide +kernel) (fun _ => ?_) (fun q => ?_)
    · refine zrun hF [(.iconst 1, 1, pI 1)] 1579 _ (by decide +kernel) ?_
      show zG w (lwF p l e s m below meth c9 b L cells slots xs) 4 1580 ([some (pR 63 0), some (pR 0 0), some (pR 64 0), some (pI (zi (i : Nat)))], [pI 1], (c, r))
      exact law_end hF hret hA h1 h2
    · have hle : i + 6 ≤ L := by
        rw [show (6 : Int32) = zi 6 from rfl, zi_sub, zi_lt (by omega) (by omega) (by omega) (by omega)] at q
        omega
      have hin : ∀ k : Nat, k ≤ 5 → inb (zi (i + k : Nat)) L = true := fun k hk => inb_zi (by omega) (by omega) (by omega)
      refine zrun hF [(.aload_n 0, 1, pI 0), (.iload_n 3, 1, pI 0), (.iaload, 1, pI 0), (.bipush 63, 2, pI 63), (.iand, 1, pI 0)] 27 _ (by decide +kernel) ?_
      refine (And.intro rfl (And.intro rfl (And.intro (hin 0 (by decide)) ?_)))
      show zG w (lwF p l e s m below meth c9 b L cells slots xs) 4 33 ([some (pR 63 0), some (pR 0 0), some (pR 64 0), some (pI (zi (i : Nat)))], [pI (xs (ix (zi (i : Nat))) &&& 63)], (c, r))
      refine zswitch (pc := 33) [(0, 232), (1, 275), (2, 348), (3, 411), (4, 445), (5, 478), (6, 501), (7, 534), (8, 557), (9, 600), (10, 633), (11, 692), (12, 751), (13, 774), (14, 797), (15, 810), (16, 843), (17, 876), (18, 909), (19, 962), (20, 985), (21, 1008), (22, 1021), (23, 1034), (24, 1067), (25, 1080), (26, 1093), (27, 1116), (28, 1129), (29, 1142), (30, 1155), (31, 1188), (32, 1221), (33, 1264), (34, 1297), (35, 1310), (36, 1343), (37, 1366), (38, 1399), (39, 1412), (40, 1435), (41, 1458), (42, 1501), (43, 1524), (44, 1537), (45, 1550)] 1573 hF (by decide +kernel) ?_
      refine law_cases hF ?_ ?_ ?_ ?_ ?_ h (fun T' c' r' h' => ?_)
      · rw [show zi (i : Nat) + 1 = zi (i + 1 : Nat) from zi_addn i 1]; exact hin 1 (by decide)
      · rw [show zi (i : Nat) + 2 = zi (i + 2 : Nat) from zi_addn i 2]; exact hin 2 (by decide)
      · rw [show zi (i : Nat) + 3 = zi (i + 3 : Nat) from zi_addn i 3]; exact hin 3 (by decide)
      · rw [show zi (i : Nat) + 4 = zi (i + 4 : Nat) from zi_addn i 4]; exact hin 4 (by decide)
      · rw [show zi (i : Nat) + 5 = zi (i + 5 : Nat) from zi_addn i 5]; exact hin 5 (by decide)
      · refine zrun hF [(.iinc 3 6, 3, pI 6)] 1573 _ (by decide +kernel) ?_
        refine (And.intro rfl ?_)
        rw [show zi (i : Nat) + 6 = zi (i + 6 : Nat) from zi_addn i 6]
        show zG w (lwF p l e s m below meth c9 b L cells slots xs) 4 1576 ([some (pR 63 0), some (pR 0 0), some (pR 64 0), some (pI (zi (i + 6 : Nat)))], [], (c', r'))
        refine zgoto (tgt := 18) (pc := 1576) hF (by decide +kernel) ?_
        exact ih (i + 6) T' c' r' (by omega) (by omega) h'
end LAWL
