/-! what stands still at the law's entry -/
def iGv : List Cond := flatC (Jvm.Cond.and given_1 narrow_1)
abbrev iTm (i : Nat) : Term := .string RX3 (zsi i)
abbrev iLn : Term := .static RX6 "LINES" "[I"
theorem iv1 : Cond.arrayOf iLn .int ∈ iGv := by decide +kernel
theorem iv2 : Cond.eq (.length iLn) (.int 7) ∈ iGv := by decide +kernel
theorem iv3 : ∀ j, j < 7 → Cond.eq (.elem iLn (.int (Int32.ofNat j))) (.int (zLN.getD j 0)) ∈ iGv := by decide +kernel
theorem iv4 : Cond.eq (.static RJ0 "COMPACT_STRINGS" "Z") (.int 1) ∈ iGv := by decide +kernel
theorem iv5 : Cond.isRef (.static RJ3 "SIOOBE_FORMATTER" "Ljava/util/function/BiFunction;") ∈ iGv := by decide +kernel
theorem iv6 : ∀ i, i < 6 → Cond.exactly (iTm i) "java/lang/String" ∈ iGv := by decide +kernel
theorem iv7 : ∀ i, i < 6 → Cond.eq (.field (iTm i) "java/lang/String" "coder" "B") (.int 0) ∈ iGv := by decide +kernel
theorem iv8 : ∀ i, i < 6 → Cond.arrayOf (.field (iTm i) "java/lang/String" "value" "[B") .byte ∈ iGv := by decide +kernel
theorem iv9 : ∀ i, i < 6 → Cond.eq (.length (.field (iTm i) "java/lang/String" "value" "[B")) (.int (Int32.ofNat (zSL.getD i 0))) ∈ iGv := by decide +kernel
theorem iva : ∀ i, i < 6 → ∀ j, j < zSL.getD i 0 → Cond.eq (.elem (.field (iTm i) "java/lang/String" "value" "[B") (.int (Int32.ofNat j))) (.int ((zSB.getD i []).getD j 0)) ∈ iGv := by decide +kernel
theorem ivb : ∀ i, i < 6 → ∀ j, j < 6 → i ≠ j → Cond.not (Cond.eq (iTm i) (iTm j)) ∈ iGv ∨ Cond.not (Cond.eq (iTm j) (iTm i)) ∈ iGv := by decide +kernel
theorem ivc : ∀ i, i < 6 → lw_tbl[[533, 602, 609, 624, 625, 630].getD i 0]? = some (Cond.stringRef RX3 (zsi i) (zst i)) := by decide +kernel
theorem ivd : [450, 697, 707, 964, 415, 965].map (fun i => lw_tbl[i]?) = znest.map some := by decide +kernel
theorem ive : [118, 179, 223, 238, 249, 271].map (fun i => lw_tbl[i]?) = cNest.map some := by decide +kernel
theorem ivf : znest.all (fun x => x.onTables) = true := by decide +kernel
theorem ivg : cNest.all (fun x => x.onTables) = true := by decide +kernel
theorem i_mem {is : List Nat} {l big : List Cond} (h : is.map (fun i => big[i]?) = l.map some) : ∀ x ∈ l, x ∈ big := by
  intro x hx
  have h1 : some x ∈ l.map some := List.mem_map.mpr ⟨x, hx, rfl⟩
  rw [← h] at h1
  obtain ⟨i, -, hi⟩ := List.mem_map.mp h1
  exact List.mem_of_getElem? hi
theorem iw1 : Cond.laysStatic RX6 "LINES" "[I" ∈ lw_tbl := List.mem_of_getElem? (i := 416) (by decide +kernel)
theorem iw2 : Cond.initialized RX6 ∈ lw_tbl := List.mem_of_getElem? (i := 92) (by decide +kernel)
theorem iw3 : Cond.laysStatic RJ0 "COMPACT_STRINGS" "Z" ∈ lw_tbl := List.mem_of_getElem? (i := 551) (by decide +kernel)
theorem iw4 : Cond.initialized RJ0 ∈ lw_tbl := List.mem_of_getElem? (i := 103) (by decide +kernel)
theorem iw5 : Cond.laysStatic RJ3 "SIOOBE_FORMATTER" "Ljava/util/function/BiFunction;" ∈ lw_tbl := List.mem_of_getElem? (i := 567) (by decide +kernel)
theorem iw6 : Cond.initialized RJ3 ∈ lw_tbl := List.mem_of_getElem? (i := 105) (by decide +kernel)
theorem iw7 : Cond.arrayOver (.object RX4) ∈ lw_tbl := List.mem_of_getElem? (i := 176) (by decide +kernel)
theorem i_in {x : Cond} (h : x ∈ zGW) : x ∈ lw_tbl := (List.mem_filter.mp h).1
set_option maxHeartbeats 4000000 in
set_option maxRecDepth 100000 in
theorem st_facts {s : State} {b : Nat} (hts : ∀ x ∈ lw_tbl, x.before #[Value.ref b] s = true) (hgv : (Jvm.Cond.and given_1 narrow_1).before #[Value.ref b] s = true) :
    ∃ (D : va_G) (t : cT3) (tL : Nat) (aK aV : Nat → Nat), cSt s ∧ va_K D vwCl (cTy t) s ∧ ∀ ad : Nat → Nat → Nat, ad 60 0 = tL → ad 61 = aK → ad 62 = aV → zSP (D, t, ad, fun q => s.heap.size ≤ q) s s.heap := by
  have hs : ∀ x ∈ iGv, x.before #[Value.ref b] s = true := flat_of_before _ hgv
  have hA : ∀ a : Nat, a < s.heap.size → ¬ (fun q : Nat => s.heap.size ≤ q) a := fun a h => Nat.not_le.mpr h
  obtain ⟨c0, i0, k0⟩ := u_known (C := RX0) (T := TX0) (N := 5) (n := 5) hts inX0 (hts _ (i_in kS0))
  obtain ⟨c1, i1, k1⟩ := u_known (C := RX1) (T := TX1) (N := 2) (n := 2) hts inX1 (hts _ (i_in kS1))
  obtain ⟨c2, i2, k2⟩ := u_known (C := RX2) (T := TX2) (N := 10) (n := 10) hts inX2 (hts _ (i_in kS2))
  obtain ⟨c3, i3, k3⟩ := u_known (C := RX3) (T := TX3) (N := 1) (n := 1) hts inX3 (hts _ (i_in kS3))
  obtain ⟨c4, i4, k4⟩ := u_known (C := RX4) (T := TX4) (N := 3) (n := 3) hts inX4 (hts _ (i_in kS4))
  obtain ⟨c5, i5, k5⟩ := u_known (C := RX5) (T := TX5) (N := 11) (n := 11) hts inX5 (hts _ (i_in kS5))
  obtain ⟨c6, i6, k6⟩ := u_known (C := RX6) (T := TX6) (N := 11) (n := 11) hts inX6 (hts _ (i_in kS6))
  obtain ⟨c7, i7, k7⟩ := u_known (C := RX7) (T := TX7) (N := 42) (n := 42) hts inX7 (hts _ (i_in kS7))
  obtain ⟨D, hKc⟩ : ∃ D : va_G, ∀ (k : Nat) (q : vw_C), vwCl[k]? = some q → u_Kn s q.1 q.2.1 q.2.2 (D.1 k) (D.2 k) := by
    refine ⟨(fun k => match k with | 0 => c0 | 1 => c1 | 2 => c2 | 3 => c3 | 4 => c4 | 5 => c5 | 6 => c6 | _ => c7, fun k => match k with | 0 => i0 | 1 => i1 | 2 => i2 | 3 => i3 | 4 => i4 | 5 => i5 | 6 => i6 | _ => i7), ?_⟩
    intro k q hq
    match k, hq with
    | 0, hq => cases hq; exact k0
    | 1, hq => cases hq; exact k1
    | 2, hq => cases hq; exact k2
    | 3, hq => cases hq; exact k3
    | 4, hq => cases hq; exact k4
    | 5, hq => cases hq; exact k5
    | 6, hq => cases hq; exact k6
    | 7, hq => cases hq; exact k7
    | k + 8, hq => simp [vwCl] at hq
  obtain ⟨cI, kI, pI', n1, n2, n3⟩ := Cond.arrayClass_spec (hts _ (i_in kAI))
  obtain ⟨cL, kL, pL', m1, m2, m3⟩ := Cond.arrayClass_spec (hts _ (i_in kAL))
  obtain ⟨pQ, cQ, kQ, o1, -, o2, o3, o4⟩ := Cond.arrayOver_spec (hts _ iw7)
  have hK : va_K D vwCl (cTy (cI, cL, cQ)) s := by
    refine ⟨hKc, fun k q hq => ?_⟩
    match k, hq with
    | 0, hq => cases hq; exact ⟨fun n z => ⟨(fun k h => by cases h), kI, n2, pI', n3⟩, n1⟩
    | 1, hq => cases hq; exact ⟨fun n z => ⟨(fun k h => by cases h), kL, m2, pL', m3⟩, m1⟩
    | 2, hq => cases hq; exact ⟨fun n z => ⟨(fun k h => by cases h), kQ, o2, pQ, o3⟩, kQ, pQ, o2, o3, o1, o4⟩
    | k + 3, hq => simp [cTy] at hq
  obtain ⟨tL, e1, hT⟩ := va_Tof (f := fun j => .int (zLN.getD j 0)) (N := 7) (A := (fun q : Nat => s.heap.size ≤ q)) (by decide) (hs _ iv1) (va_eqt (hs _ iv2)) (fun j hj => va_eqt (hs _ (iv3 j hj))) hA
  have hZ := va_Zref (A := (fun q : Nat => s.heap.size ≤ q)) (hts _ iw1) (hts _ iw2) e1 hA
  have hZ1 := va_Zof (A := (fun q : Nat => s.heap.size ≤ q)) (hts _ iw3) (hts _ iw4) (va_eqt (hs _ iv4)) hA
  have hZ2 := va_Zqof (A := (fun q : Nat => s.heap.size ≤ q)) (hts _ iw5) (hts _ iw6) (hs _ iv5) hA
  obtain ⟨aK, aV, hS, hE⟩ := vk_Sof (A := (fun q : Nat => s.heap.size ≤ q)) (tm := iTm) (len := zSL) (byt := zSB) (N := 6) (by decide) (fun i hi => hs _ (iv6 i hi)) (fun i hi => hs _ (iv7 i hi)) (fun i hi => hs _ (iv8 i hi)) (fun i hi => hs _ (iv9 i hi)) (fun i hi j hj => hs _ (iva i hi j hj)) (fun i j hi hj hn => (ivb i hi j hj hn).imp (hs _) (hs _)) hA
  refine ⟨D, (cI, cL, cQ), tL, aK, aV, ⟨va_AO.of (hts _ iw7), fun x hx => va_Nw.of (List.all_eq_true.mp ivg x hx) (hts x (i_mem ive x hx))⟩, hK, fun ad h1 h2 h3 => ?_⟩
  refine ⟨hK, ?_, ?_, fun x hx => va_Nw.of (List.all_eq_true.mp ivf x hx) (hts x (i_mem ivd x hx)), ?_, fun i hi => vk_R.of (hts _ (List.mem_of_getElem? (ivc i hi))) ?_, hZ1, hZ2⟩
  · show va_Z RX6 "LINES" "[I" (.ref (ad 60 0)) _ s s.heap
    rw [h1]; exact hZ
  · show va_T .int (ad 60 0) 7 _ _ s s.heap
    rw [h1]; exact hT
  · show vk_S 6 zSL zSB (ad 61) (ad 62) _ s s.heap
    rw [h2, h3]; exact hS
  · show (iTm i).eval _ s none [] s = some (.ref (ad 61 i))
    rw [h2]; exact hE i hi
