/-! the class's constructor, by program -/
section CEX
variable {D : va_G} {t : cT3} {A : Nat → Prop} {p : Program} {l : Launch} {e : Env} {R : Room} {s : State} {m : MethodId} {args : Array Value} {below : List Frame} {meth : Method} {c9 : Code} {o nL : Nat} {cc : ByteArray} {H : Heap} {locs : List Loc} {ls : Array Slot} {rest : List Value} {Q : State → Prop} {ws : va_W}
theorem c_get {c k idx a : Nat} {fs : List Value} {pc : Nat} (pc' : Nat) {cells slots : Nat} {v : Value} (hF : cOK D t A p s m args c9 o nL cc) (h0 : (Nat.beq (zkd c) 0) = true) (hkl : Nat.blt k (zlen c) = true) (hfl : zFL.any (fun q => Nat.beq q.1 o && (Nat.beq q.2.1 idx && (Nat.beq q.2.2.1 c && Nat.beq q.2.2.2.1 k))) = true)
    (hP : va_P D vwCl ((a, .inr (zci c, fs)) :: ws) H) (hv : fs[k]? = some v) (h3 : pc + 3 = pc') (hdg : decode cc pc = .ok (.getfield idx, 3))
    (kk : W p l e R s m args below meth c9 H locs cells slots Q (F0 m pc' ls (v :: rest))) : W p l e R s m args below meth c9 H locs cells slots Q (F0 m pc ls (.ref a :: rest)) := by
  subst h3
  obtain ⟨hx, hc, hml, hown, hts, hK, hA, hAO⟩ := hF
  have hk0 := zbeq h0
  have hk := Nat.blt_eq.mp hkl
  obtain ⟨g1, g2, g3, ty0, g4⟩ := zobj hk0
  have hw := zown hk0 hk
  exact va_get (C := zR c) (T := zT c) (N := zlen c) (ref := zR c) hx hc hts g2 hown hK hP 0 rfl g1 k hk (hts _ (zFL_in hfl)) (fun x hx => by rw [hw] at hx; exact hx) hv hdg kk
theorem c_ast2 {x : Nat × va_E} {wb : va_W} {a n v : Nat} {vs : List Value} {f : Nat → Option Nat} {i : Int32} {pc cells slots : Nat} (pc' : Nat) (hF : cOK D t A p s m args c9 o nL cc) (hP : va_P D vwCl (x :: (a, .inl (t.2.2, n, .inr (.inr (.inr (.inr f))))) :: (ws ++ wb)) H) (hD : va_D A (x :: (a, .inl (t.2.2, n, .inr (.inr (.inr (.inr f))))) :: (ws ++ wb))) (hS : va_S A s.heap H locs) (hv : wb[0]? = some (v, .inr (4, vs))) (hin : inb i n = true) (h3 : pc + 1 = pc') (hdg : decode cc pc = .ok (.aastore, 1))
    (kk : ∀ (H1 : Heap) (locs1 : List Loc), va_P D vwCl (x :: (a, .inl (t.2.2, n, .inr (.inr (.inr (.inr (va_up f i.toNatClampNeg (some v))))))) :: (ws ++ wb)) H1 → va_D A (x :: (a, .inl (t.2.2, n, .inr (.inr (.inr (.inr (va_up f i.toNatClampNeg (some v))))))) :: (ws ++ wb)) → va_S A s.heap H1 locs1 → W p l e R s m args below meth c9 H1 locs1 cells slots Q (F0 m pc' ls rest)) : W p l e R s m args below meth c9 H locs cells slots Q (F0 m pc ls (.ref v :: .int i :: .ref a :: rest)) := by
  subst h3
  obtain ⟨hx, hc, hml, hown, hts, hK, hA, hAO⟩ := hF
  have hv' : (x :: (a, .inl (t.2.2, n, .inr (.inr (.inr (.inr f))))) :: (ws ++ wb))[ws.length + 2]? = some (v, .inr (4, vs)) := by
    rw [← hv]
    show (ws ++ wb)[ws.length]? = wb[0]?
    rw [List.getElem?_append_right (Nat.le_refl _), Nat.sub_self]
  exact va_astq (r := (RX4, TX4, 3)) hx hc hK hP hD hS 1 2 (ws.length + 2) 4 rfl rfl hv' rfl (zinb hin) hdg kk
end CEX
def iW6 (t : cT3) (q : Nat) (u : Nat → Nat) : va_W := [(q, .inr (6, [.ref (u 1), .ref (u 7), .ref (u 13), .int (0), .ref (u 0), .ref (u 19), .ref (u 27), .ref (u 28), .ref (u 29), .ref (u 31), .int (-1)])), (u 0, .inl (t.2.2, 8, .inr (.inr (.inr (.inr (va_up (va_up (va_up (va_up (va_up (va_up (va_up (va_up (fun _ => none) (0 : Int32).toNatClampNeg (some (u 32))) (1 : Int32).toNatClampNeg (some (u 34))) (2 : Int32).toNatClampNeg (some (u 36))) (3 : Int32).toNatClampNeg (some (u 38))) (4 : Int32).toNatClampNeg (some (u 40))) (5 : Int32).toNatClampNeg (some (u 42))) (6 : Int32).toNatClampNeg (some (u 44))) (7 : Int32).toNatClampNeg (some (u 46)))))))), (u 1, .inr (5, [.ref (u 2), .ref (u 3), .ref (u 4), .ref (u 5), .ref (u 6), .int (8), .int (0), .int (0), .int (0), .int (0), .int (1)])), cZI t (u 2) 10, cZI t (u 3) 10, cZI t (u 4) 10, cZI t (u 5) 10, cZI t (u 6) 10, (u 7, .inr (5, [.ref (u 8), .ref (u 9), .ref (u 10), .ref (u 11), .ref (u 12), .int (8), .int (0), .int (0), .int (0), .int (0), .int (1)])), cZI t (u 8) 10, cZI t (u 9) 10, cZI t (u 10) 10, cZI t (u 11) 10, cZI t (u 12) 10, (u 13, .inr (5, [.ref (u 14), .ref (u 15), .ref (u 16), .ref (u 17), .ref (u 18), .int (8), .int (0), .int (0), .int (0), .int (0), .int (1)])), cZI t (u 14) 10, cZI t (u 15) 10, cZI t (u 16) 10, cZI t (u 17) 10, cZI t (u 18) 10, (u 19, .inr (2, [.ref (u 20), .ref (u 21), .ref (u 22), .ref (u 23), .ref (u 24), .ref (u 25), .ref (u 26), .int (0), .int (0), .long (0)])), cZI t (u 20) 45, cZI t (u 21) 45, cZI t (u 22) 45, cZL t (u 23) 45, cZL t (u 24) 45, cZL t (u 25) 45, cZI t (u 26) 1024, (u 27, .inr (1, [.long (0), .int (0)])), (u 28, .inr (3, [.int (0)])), (u 29, .inr (0, [.ref (u 30), .int (0), .int (0), .int (0), .int (0)])), cZI t (u 30) 20, cZI t (u 31) 8, (u 32, .inr (4, [.ref (u 33), .int (-1), .int (0)])), cZL t (u 33) 160, (u 34, .inr (4, [.ref (u 35), .int (-1), .int (0)])), cZL t (u 35) 160, (u 36, .inr (4, [.ref (u 37), .int (-1), .int (0)])), cZL t (u 37) 160, (u 38, .inr (4, [.ref (u 39), .int (-1), .int (0)])), cZL t (u 39) 160, (u 40, .inr (4, [.ref (u 41), .int (-1), .int (0)])), cZL t (u 41) 160, (u 42, .inr (4, [.ref (u 43), .int (-1), .int (0)])), cZL t (u 43) 160, (u 44, .inr (4, [.ref (u 45), .int (-1), .int (0)])), cZL t (u 45) 160, (u 46, .inr (4, [.ref (u 47), .int (-1), .int (0)])), cZL t (u 47) 160]
set_option maxHeartbeats 4000000 in
set_option maxRecDepth 100000 in
theorem c_X6 (l : Launch) (D : va_G) (t : cT3) : cMet l D t 0 tyX6 yX6_init cX6_init 2 2 48 2835 (iW6 t) := by
  refine c_met (o := 6) (by decide) rfl rfl rfl (fun p e s m args below meth c9 A Q ls q hF hi hl hP hD fin => ?_)
  have hS : va_S A s.heap s.heap [] := va_S.rf
  have hl : lv_has ls 2 [(0, .ref q)] := hl
  have hn := c_len 0 tyX6
  replace hP : va_P D vwCl [(q, .inr (6, [.null, .null, .null, .int 0, .null, .null, .null, .null, .null, .null, .int 0]))] s.heap := hP
  replace hD : va_D A [(q, .inr (6, [.null, .null, .null, .int 0, .null, .null, .null, .null, .null, .null, .int 0]))] := hD
  replace hn : List.length (α := Value) [.null, .null, .null, .int 0, .null, .null, .null, .null, .null, .null, .int 0] = zlen 0 := hn
  refine lv_aload_n hF.1 hF.2.1 (k := 0) (i := 0) (x := q) (by decide +kernel) rfl (lv_at hl 0 rfl) ?_
  refine c_obj 4 hF kL6_1 kOI kOC hl.1 ⟨rfl, rfl⟩ rfl (by decide +kernel) ?_
  refine lv_aload_n hF.1 hF.2.1 (k := 0) (i := 0) (x := q) (by decide +kernel) rfl (lv_at hl 0 rfl) ?_
  refine c_new1 (c := 1) 8 1 11 tyX5 hF rfl (fun k hk => tyX5_ok k hk) kK6_7 kS5 kT5 hP hD hS rfl rfl rfl rfl rfl (by decide +kernel) (fun q1 H hP hD hS => ?_)
  refine lv_dup hF.1 hF.2.1 (by decide +kernel) rfl ?_
  refine c_callN1 (idx := 9) 12 6 61 hF (c_X5 l D t) kC5 kT5 (List.mem_of_getElem? (i := 0) rfl) kM5 rfl (by decide +kernel) hP hD hS hl.1 ⟨rfl, rfl⟩ (Nat.le_of_ble_eq_true rfl) rfl rfl rfl rfl rfl (by decide +kernel) (fun u6 H locs hP hD hS => ?_)
  refine c_put (c := 0) (k := 0) (idx := 10) [.ref q1, .null, .null, .int 0, .null, .null, .null, .null, .null, .null, .int 0] 15 hF hi rfl rfl rfl (by decide +kernel) (tyX6_ok 0 (by decide)) rfl rfl hn rfl hP hD hS rfl (by decide +kernel) (fun H locs hn hP hD hS => ?_)
  refine lv_aload_n hF.1 hF.2.1 (k := 0) (i := 0) (x := q) (by decide +kernel) rfl (lv_at hl 0 rfl) ?_
  refine c_new1 (c := 1) 19 7 72 tyX5 hF rfl (fun k hk => tyX5_ok k hk) kK6_7 kS5 kT5 hP hD hS rfl rfl rfl rfl rfl (by decide +kernel) (fun q2 H hP hD hS => ?_)
  refine lv_dup hF.1 hF.2.1 (by decide +kernel) rfl ?_
  refine c_callN1 (idx := 9) 23 12 122 hF (c_X5 l D t) kC5 kT5 (List.mem_of_getElem? (i := 0) rfl) kM5 rfl (by decide +kernel) hP hD hS hl.1 ⟨rfl, rfl⟩ (Nat.le_of_ble_eq_true rfl) rfl rfl rfl rfl rfl (by decide +kernel) (fun u11 H locs hP hD hS => ?_)
  refine c_put (c := 0) (k := 1) (idx := 16) [.ref q1, .ref q2, .null, .int 0, .null, .null, .null, .null, .null, .null, .int 0] 26 hF hi rfl rfl rfl (by decide +kernel) (tyX6_ok 1 (by decide)) rfl rfl hn rfl hP hD hS rfl (by decide +kernel) (fun H locs hn hP hD hS => ?_)
  refine lv_aload_n hF.1 hF.2.1 (k := 0) (i := 0) (x := q) (by decide +kernel) rfl (lv_at hl 0 rfl) ?_
  refine c_new1 (c := 1) 30 13 133 tyX5 hF rfl (fun k hk => tyX5_ok k hk) kK6_7 kS5 kT5 hP hD hS rfl rfl rfl rfl rfl (by decide +kernel) (fun q3 H hP hD hS => ?_)
  refine lv_dup hF.1 hF.2.1 (by decide +kernel) rfl ?_
  refine c_callN1 (idx := 9) 34 18 183 hF (c_X5 l D t) kC5 kT5 (List.mem_of_getElem? (i := 0) rfl) kM5 rfl (by decide +kernel) hP hD hS hl.1 ⟨rfl, rfl⟩ (Nat.le_of_ble_eq_true rfl) rfl rfl rfl rfl rfl (by decide +kernel) (fun u16 H locs hP hD hS => ?_)
  refine c_put (c := 0) (k := 2) (idx := 19) [.ref q1, .ref q2, .ref q3, .int 0, .null, .null, .null, .null, .null, .null, .int 0] 37 hF hi rfl rfl rfl (by decide +kernel) (tyX6_ok 2 (by decide)) rfl rfl hn rfl hP hD hS rfl (by decide +kernel) (fun H locs hn hP hD hS => ?_)
  refine lv_aload_n hF.1 hF.2.1 (k := 0) (i := 0) (x := q) (by decide +kernel) rfl (lv_at hl 0 rfl) ?_
  refine lv_iconst (v := 0) hF.1 hF.2.1 (n := 0) (by decide +kernel) (by decide) ?_
  refine c_put (c := 0) (k := 3) (idx := 22) [.ref q1, .ref q2, .ref q3, .int (0), .null, .null, .null, .null, .null, .null, .int 0] 42 hF hi rfl rfl rfl (by decide +kernel) (tyX6_ok 3 (by decide)) rfl rfl hn rfl hP hD hS rfl (by decide +kernel) (fun H locs hn hP hD hS => ?_)
  refine lv_aload_n hF.1 hF.2.1 (k := 0) (i := 0) (x := q) (by decide +kernel) rfl (lv_at hl 0 rfl) ?_
  refine lv_bipush (v := 8) hF.1 hF.2.1 (n := 8) (by decide +kernel) (by decide) ?_
  refine c_shelves1 8 48 19 191 hF kK6_26 hP hD hS (by decide) (by decide +kernel) rfl rfl rfl rfl rfl rfl (by decide +kernel) (fun q4 H hP hD hS => ?_)
  replace hP := c_swapP hP
  replace hD := c_swapD hD
  refine c_put (c := 0) (k := 4) (idx := 28) [.ref q1, .ref q2, .ref q3, .int (0), .ref q4, .null, .null, .null, .null, .null, .int 0] 51 hF hi rfl rfl rfl (by decide +kernel) (tyX6_ok 4 (by decide)) rfl rfl hn rfl hP hD hS rfl (by decide +kernel) (fun H locs hn hP hD hS => ?_)
  refine lv_aload_n hF.1 hF.2.1 (k := 0) (i := 0) (x := q) (by decide +kernel) rfl (lv_at hl 0 rfl) ?_
  refine c_new2 (c := 10) 55 20 201 tyX2 hF rfl (fun k hk => tyX2_ok k hk) kK6_32 kS2 kT2 hP hD hS rfl rfl rfl rfl rfl (by decide +kernel) (fun q5 H hP hD hS => ?_)
  refine lv_dup hF.1 hF.2.1 (by decide +kernel) rfl ?_
  refine c_callN2 (idx := 34) 59 27 1495 hF (c_X2 l D t) kC2 kT2 (List.mem_of_getElem? (i := 1) rfl) kM2 rfl (by decide +kernel) hP hD hS hl.1 ⟨rfl, rfl⟩ (Nat.le_of_ble_eq_true rfl) rfl rfl rfl rfl rfl (by decide +kernel) (fun u28 H locs hP hD hS => ?_)
  refine c_put (c := 0) (k := 5) (idx := 35) [.ref q1, .ref q2, .ref q3, .int (0), .ref q4, .ref q5, .null, .null, .null, .null, .int 0] 62 hF hi rfl rfl rfl (by decide +kernel) (tyX6_ok 5 (by decide)) rfl rfl hn rfl hP hD hS rfl (by decide +kernel) (fun H locs hn hP hD hS => ?_)
  refine lv_aload_n hF.1 hF.2.1 (k := 0) (i := 0) (x := q) (by decide +kernel) rfl (lv_at hl 0 rfl) ?_
  refine c_new2 (c := 18) 66 28 1497 tyX1 hF rfl (fun k hk => tyX1_ok k hk) kK6_39 kS1 kT1 hP hD hS rfl rfl rfl rfl rfl (by decide +kernel) (fun q6 H hP hD hS => ?_)
  refine lv_dup hF.1 hF.2.1 (by decide +kernel) rfl ?_
  refine c_callN2 (idx := 41) 70 28 1497 hF (c_X1 l D t) kC1 kT1 (List.mem_of_getElem? (i := 2) rfl) kM1 rfl (by decide +kernel) hP hD hS hl.1 ⟨rfl, rfl⟩ (Nat.le_of_ble_eq_true rfl) rfl rfl rfl rfl rfl (by decide +kernel) (fun u33 H locs hP hD hS => ?_)
  refine c_put (c := 0) (k := 6) (idx := 42) [.ref q1, .ref q2, .ref q3, .int (0), .ref q4, .ref q5, .ref q6, .null, .null, .null, .int 0] 73 hF hi rfl rfl rfl (by decide +kernel) (tyX6_ok 6 (by decide)) rfl rfl hn rfl hP hD hS rfl (by decide +kernel) (fun H locs hn hP hD hS => ?_)
  refine lv_aload_n hF.1 hF.2.1 (k := 0) (i := 0) (x := q) (by decide +kernel) rfl (lv_at hl 0 rfl) ?_
  refine c_new2 (c := 19) 77 29 1498 tyX3 hF rfl (fun k hk => tyX3_ok k hk) kK6_46 kS3 kT3 hP hD hS rfl rfl rfl rfl rfl (by decide +kernel) (fun q7 H hP hD hS => ?_)
  refine lv_dup hF.1 hF.2.1 (by decide +kernel) rfl ?_
  refine c_callN2 (idx := 48) 81 29 1498 hF (c_X3 l D t) kC3 kT3 (List.mem_of_getElem? (i := 3) rfl) kM3 rfl (by decide +kernel) hP hD hS hl.1 ⟨rfl, rfl⟩ (Nat.le_of_ble_eq_true rfl) rfl rfl rfl rfl rfl (by decide +kernel) (fun u38 H locs hP hD hS => ?_)
  refine c_put (c := 0) (k := 7) (idx := 49) [.ref q1, .ref q2, .ref q3, .int (0), .ref q4, .ref q5, .ref q6, .ref q7, .null, .null, .int 0] 84 hF hi rfl rfl rfl (by decide +kernel) (tyX6_ok 7 (by decide)) rfl rfl hn rfl hP hD hS rfl (by decide +kernel) (fun H locs hn hP hD hS => ?_)
  refine lv_aload_n hF.1 hF.2.1 (k := 0) (i := 0) (x := q) (by decide +kernel) rfl (lv_at hl 0 rfl) ?_
  refine c_new2 (c := 20) 88 30 1503 tyX0 hF rfl (fun k hk => tyX0_ok k hk) kK6_53 kS0 kT0 hP hD hS rfl rfl rfl rfl rfl (by decide +kernel) (fun q8 H hP hD hS => ?_)
  refine lv_dup hF.1 hF.2.1 (by decide +kernel) rfl ?_
  refine c_callN2 (idx := 55) 92 31 1523 hF (c_X0 l D t) kC0 kT0 (List.mem_of_getElem? (i := 4) rfl) kM0 rfl (by decide +kernel) hP hD hS hl.1 ⟨rfl, rfl⟩ (Nat.le_of_ble_eq_true rfl) rfl rfl rfl rfl rfl (by decide +kernel) (fun u43 H locs hP hD hS => ?_)
  refine c_put (c := 0) (k := 8) (idx := 56) [.ref q1, .ref q2, .ref q3, .int (0), .ref q4, .ref q5, .ref q6, .ref q7, .ref q8, .null, .int 0] 95 hF hi rfl rfl rfl (by decide +kernel) (tyX6_ok 8 (by decide)) rfl rfl hn rfl hP hD hS rfl (by decide +kernel) (fun H locs hn hP hD hS => ?_)
  refine lv_aload_n hF.1 hF.2.1 (k := 0) (i := 0) (x := q) (by decide +kernel) rfl (lv_at hl 0 rfl) ?_
  refine lv_bipush (v := 8) hF.1 hF.2.1 (n := 8) (by decide +kernel) (by decide) ?_
  refine c_ints2 8 100 32 1531 hF kAI hP hD hS (by decide) (by decide +kernel) rfl rfl rfl rfl rfl rfl (by decide +kernel) (fun q9 H hP hD hS => ?_)
  refine c_put (c := 0) (k := 9) (idx := 60) [.ref q1, .ref q2, .ref q3, .int (0), .ref q4, .ref q5, .ref q6, .ref q7, .ref q8, .ref q9, .int 0] 103 hF hi rfl rfl rfl (by decide +kernel) (tyX6_ok 9 (by decide)) rfl rfl hn rfl hP hD hS rfl (by decide +kernel) (fun H locs hn hP hD hS => ?_)
  refine lv_aload_n hF.1 hF.2.1 (k := 0) (i := 0) (x := q) (by decide +kernel) rfl (lv_at hl 0 rfl) ?_
  refine lv_iconst (v := -1) hF.1 hF.2.1 (n := -1) (by decide +kernel) (by decide) ?_
  refine c_put (c := 0) (k := 10) (idx := 64) [.ref q1, .ref q2, .ref q3, .int (0), .ref q4, .ref q5, .ref q6, .ref q7, .ref q8, .ref q9, .int (-1)] 108 hF hi rfl rfl rfl (by decide +kernel) (tyX6_ok 10 (by decide)) rfl rfl hn rfl hP hD hS rfl (by decide +kernel) (fun H locs hn hP hD hS => ?_)
  refine lv_iconst (v := 0) hF.1 hF.2.1 (n := 0) (by decide +kernel) (by decide) ?_
  refine lv_istore_n (k := 1) (i := 1) (lv' := [(1, .int 0), (0, .ref q)]) hF.1 hF.2.1 (by decide +kernel) rfl hl (by decide) rfl (fun ls hl => ?_)
  refine lv_iload_n hF.1 hF.2.1 (k := 1) (i := 1) (x := 0) (by decide +kernel) rfl (lv_at hl 0 rfl) ?_
  refine lv_bipush (v := 8) hF.1 hF.2.1 (n := 8) (by decide +kernel) (by decide) ?_
  refine lv_icmp_ge (off := 22) (tgt := 135) hF.1 hF.2.1 (by decide +kernel) (by decide) (fun z => absurd z (by decide)) (fun _ => ?_)
  refine lv_aload_n hF.1 hF.2.1 (k := 0) (i := 0) (x := q) (by decide +kernel) rfl (lv_at hl 1 rfl) ?_
  refine c_get (c := 0) (k := 4) (idx := 28) (v := .ref q4) 120 hF rfl rfl (by decide +kernel) hP (by rfl) rfl (by decide +kernel) ?_
  refine lv_iload_n hF.1 hF.2.1 (k := 1) (i := 1) (x := 0) (by decide +kernel) rfl (lv_at hl 0 rfl) ?_
  refine c_new2 (c := 8) 124 33 1534 tyX4 hF rfl (fun k hk => tyX4_ok k hk) kK6_26 kS4 kT4 hP hD hS rfl rfl rfl rfl rfl (by decide +kernel) (fun q10 H hP hD hS => ?_)
  refine lv_dup hF.1 hF.2.1 (by decide +kernel) rfl ?_
  refine c_callN2 (idx := 68) 128 34 1694 hF (c_X4 l D t) kC4 kT4 (List.mem_of_getElem? (i := 5) rfl) kM4 rfl (by decide +kernel) hP hD hS hl.1 ⟨rfl, rfl⟩ (Nat.le_of_ble_eq_true rfl) rfl rfl rfl rfl rfl (by decide +kernel) (fun u62 H locs hP hD hS => ?_)
  refine c_ast2 (i := 0) 129 hF hP hD hS rfl (by decide) rfl (by decide +kernel) (fun H locs hP hD hS => ?_)
  refine lv_iinc (i := 1) (x := 0) (v := 1) (lv' := [(1, .int 1), (0, .ref q)]) hF.1 hF.2.1 (n := 1) (by decide +kernel) hl (k := 0) rfl (by decide) (by decide) rfl (fun ls hl => ?_)
  refine lv_goto (off := -22) (tgt := 110) hF.1 hF.2.1 (by decide +kernel) (by decide) ?_
  refine lv_iload_n hF.1 hF.2.1 (k := 1) (i := 1) (x := 1) (by decide +kernel) rfl (lv_at hl 0 rfl) ?_
  refine lv_bipush (v := 8) hF.1 hF.2.1 (n := 8) (by decide +kernel) (by decide) ?_
  refine lv_icmp_ge (off := 22) (tgt := 135) hF.1 hF.2.1 (by decide +kernel) (by decide) (fun z => absurd z (by decide)) (fun _ => ?_)
  refine lv_aload_n hF.1 hF.2.1 (k := 0) (i := 0) (x := q) (by decide +kernel) rfl (lv_at hl 1 rfl) ?_
  refine c_get (c := 0) (k := 4) (idx := 28) (v := .ref q4) 120 hF rfl rfl (by decide +kernel) hP (by rfl) rfl (by decide +kernel) ?_
  refine lv_iload_n hF.1 hF.2.1 (k := 1) (i := 1) (x := 1) (by decide +kernel) rfl (lv_at hl 0 rfl) ?_
  refine c_new2 (c := 8) 124 35 1697 tyX4 hF rfl (fun k hk => tyX4_ok k hk) kK6_26 kS4 kT4 hP hD hS rfl rfl rfl rfl rfl (by decide +kernel) (fun q11 H hP hD hS => ?_)
  refine lv_dup hF.1 hF.2.1 (by decide +kernel) rfl ?_
  refine c_callN2 (idx := 68) 128 36 1857 hF (c_X4 l D t) kC4 kT4 (List.mem_of_getElem? (i := 5) rfl) kM4 rfl (by decide +kernel) hP hD hS hl.1 ⟨rfl, rfl⟩ (Nat.le_of_ble_eq_true rfl) rfl rfl rfl rfl rfl (by decide +kernel) (fun u74 H locs hP hD hS => ?_)
  refine c_ast2 (i := 1) 129 hF hP hD hS rfl (by decide) rfl (by decide +kernel) (fun H locs hP hD hS => ?_)
  refine lv_iinc (i := 1) (x := 1) (v := 2) (lv' := [(1, .int 2), (0, .ref q)]) hF.1 hF.2.1 (n := 1) (by decide +kernel) hl (k := 0) rfl (by decide) (by decide) rfl (fun ls hl => ?_)
  refine lv_goto (off := -22) (tgt := 110) hF.1 hF.2.1 (by decide +kernel) (by decide) ?_
  refine lv_iload_n hF.1 hF.2.1 (k := 1) (i := 1) (x := 2) (by decide +kernel) rfl (lv_at hl 0 rfl) ?_
  refine lv_bipush (v := 8) hF.1 hF.2.1 (n := 8) (by decide +kernel) (by decide) ?_
  refine lv_icmp_ge (off := 22) (tgt := 135) hF.1 hF.2.1 (by decide +kernel) (by decide) (fun z => absurd z (by decide)) (fun _ => ?_)
  refine lv_aload_n hF.1 hF.2.1 (k := 0) (i := 0) (x := q) (by decide +kernel) rfl (lv_at hl 1 rfl) ?_
  refine c_get (c := 0) (k := 4) (idx := 28) (v := .ref q4) 120 hF rfl rfl (by decide +kernel) hP (by rfl) rfl (by decide +kernel) ?_
  refine lv_iload_n hF.1 hF.2.1 (k := 1) (i := 1) (x := 2) (by decide +kernel) rfl (lv_at hl 0 rfl) ?_
  refine c_new2 (c := 8) 124 37 1860 tyX4 hF rfl (fun k hk => tyX4_ok k hk) kK6_26 kS4 kT4 hP hD hS rfl rfl rfl rfl rfl (by decide +kernel) (fun q12 H hP hD hS => ?_)
  refine lv_dup hF.1 hF.2.1 (by decide +kernel) rfl ?_
  refine c_callN2 (idx := 68) 128 38 2020 hF (c_X4 l D t) kC4 kT4 (List.mem_of_getElem? (i := 5) rfl) kM4 rfl (by decide +kernel) hP hD hS hl.1 ⟨rfl, rfl⟩ (Nat.le_of_ble_eq_true rfl) rfl rfl rfl rfl rfl (by decide +kernel) (fun u86 H locs hP hD hS => ?_)
  refine c_ast2 (i := 2) 129 hF hP hD hS rfl (by decide) rfl (by decide +kernel) (fun H locs hP hD hS => ?_)
  refine lv_iinc (i := 1) (x := 2) (v := 3) (lv' := [(1, .int 3), (0, .ref q)]) hF.1 hF.2.1 (n := 1) (by decide +kernel) hl (k := 0) rfl (by decide) (by decide) rfl (fun ls hl => ?_)
  refine lv_goto (off := -22) (tgt := 110) hF.1 hF.2.1 (by decide +kernel) (by decide) ?_
  refine lv_iload_n hF.1 hF.2.1 (k := 1) (i := 1) (x := 3) (by decide +kernel) rfl (lv_at hl 0 rfl) ?_
  refine lv_bipush (v := 8) hF.1 hF.2.1 (n := 8) (by decide +kernel) (by decide) ?_
  refine lv_icmp_ge (off := 22) (tgt := 135) hF.1 hF.2.1 (by decide +kernel) (by decide) (fun z => absurd z (by decide)) (fun _ => ?_)
  refine lv_aload_n hF.1 hF.2.1 (k := 0) (i := 0) (x := q) (by decide +kernel) rfl (lv_at hl 1 rfl) ?_
  refine c_get (c := 0) (k := 4) (idx := 28) (v := .ref q4) 120 hF rfl rfl (by decide +kernel) hP (by rfl) rfl (by decide +kernel) ?_
  refine lv_iload_n hF.1 hF.2.1 (k := 1) (i := 1) (x := 3) (by decide +kernel) rfl (lv_at hl 0 rfl) ?_
  refine c_new2 (c := 8) 124 39 2023 tyX4 hF rfl (fun k hk => tyX4_ok k hk) kK6_26 kS4 kT4 hP hD hS rfl rfl rfl rfl rfl (by decide +kernel) (fun q13 H hP hD hS => ?_)
  refine lv_dup hF.1 hF.2.1 (by decide +kernel) rfl ?_
  refine c_callN2 (idx := 68) 128 40 2183 hF (c_X4 l D t) kC4 kT4 (List.mem_of_getElem? (i := 5) rfl) kM4 rfl (by decide +kernel) hP hD hS hl.1 ⟨rfl, rfl⟩ (Nat.le_of_ble_eq_true rfl) rfl rfl rfl rfl rfl (by decide +kernel) (fun u98 H locs hP hD hS => ?_)
  refine c_ast2 (i := 3) 129 hF hP hD hS rfl (by decide) rfl (by decide +kernel) (fun H locs hP hD hS => ?_)
  refine lv_iinc (i := 1) (x := 3) (v := 4) (lv' := [(1, .int 4), (0, .ref q)]) hF.1 hF.2.1 (n := 1) (by decide +kernel) hl (k := 0) rfl (by decide) (by decide) rfl (fun ls hl => ?_)
  refine lv_goto (off := -22) (tgt := 110) hF.1 hF.2.1 (by decide +kernel) (by decide) ?_
  refine lv_iload_n hF.1 hF.2.1 (k := 1) (i := 1) (x := 4) (by decide +kernel) rfl (lv_at hl 0 rfl) ?_
  refine lv_bipush (v := 8) hF.1 hF.2.1 (n := 8) (by decide +kernel) (by decide) ?_
  refine lv_icmp_ge (off := 22) (tgt := 135) hF.1 hF.2.1 (by decide +kernel) (by decide) (fun z => absurd z (by decide)) (fun _ => ?_)
  refine lv_aload_n hF.1 hF.2.1 (k := 0) (i := 0) (x := q) (by decide +kernel) rfl (lv_at hl 1 rfl) ?_
  refine c_get (c := 0) (k := 4) (idx := 28) (v := .ref q4) 120 hF rfl rfl (by decide +kernel) hP (by rfl) rfl (by decide +kernel) ?_
  refine lv_iload_n hF.1 hF.2.1 (k := 1) (i := 1) (x := 4) (by decide +kernel) rfl (lv_at hl 0 rfl) ?_
  refine c_new2 (c := 8) 124 41 2186 tyX4 hF rfl (fun k hk => tyX4_ok k hk) kK6_26 kS4 kT4 hP hD hS rfl rfl rfl rfl rfl (by decide +kernel) (fun q14 H hP hD hS => ?_)
  refine lv_dup hF.1 hF.2.1 (by decide +kernel) rfl ?_
  refine c_callN2 (idx := 68) 128 42 2346 hF (c_X4 l D t) kC4 kT4 (List.mem_of_getElem? (i := 5) rfl) kM4 rfl (by decide +kernel) hP hD hS hl.1 ⟨rfl, rfl⟩ (Nat.le_of_ble_eq_true rfl) rfl rfl rfl rfl rfl (by decide +kernel) (fun u110 H locs hP hD hS => ?_)
  refine c_ast2 (i := 4) 129 hF hP hD hS rfl (by decide) rfl (by decide +kernel) (fun H locs hP hD hS => ?_)
  refine lv_iinc (i := 1) (x := 4) (v := 5) (lv' := [(1, .int 5), (0, .ref q)]) hF.1 hF.2.1 (n := 1) (by decide +kernel) hl (k := 0) rfl (by decide) (by decide) rfl (fun ls hl => ?_)
  refine lv_goto (off := -22) (tgt := 110) hF.1 hF.2.1 (by decide +kernel) (by decide) ?_
  refine lv_iload_n hF.1 hF.2.1 (k := 1) (i := 1) (x := 5) (by decide +kernel) rfl (lv_at hl 0 rfl) ?_
  refine lv_bipush (v := 8) hF.1 hF.2.1 (n := 8) (by decide +kernel) (by decide) ?_
  refine lv_icmp_ge (off := 22) (tgt := 135) hF.1 hF.2.1 (by decide +kernel) (by decide) (fun z => absurd z (by decide)) (fun _ => ?_)
  refine lv_aload_n hF.1 hF.2.1 (k := 0) (i := 0) (x := q) (by decide +kernel) rfl (lv_at hl 1 rfl) ?_
  refine c_get (c := 0) (k := 4) (idx := 28) (v := .ref q4) 120 hF rfl rfl (by decide +kernel) hP (by rfl) rfl (by decide +kernel) ?_
  refine lv_iload_n hF.1 hF.2.1 (k := 1) (i := 1) (x := 5) (by decide +kernel) rfl (lv_at hl 0 rfl) ?_
  refine c_new2 (c := 8) 124 43 2349 tyX4 hF rfl (fun k hk => tyX4_ok k hk) kK6_26 kS4 kT4 hP hD hS rfl rfl rfl rfl rfl (by decide +kernel) (fun q15 H hP hD hS => ?_)
  refine lv_dup hF.1 hF.2.1 (by decide +kernel) rfl ?_
  refine c_callN2 (idx := 68) 128 44 2509 hF (c_X4 l D t) kC4 kT4 (List.mem_of_getElem? (i := 5) rfl) kM4 rfl (by decide +kernel) hP hD hS hl.1 ⟨rfl, rfl⟩ (Nat.le_of_ble_eq_true rfl) rfl rfl rfl rfl rfl (by decide +kernel) (fun u122 H locs hP hD hS => ?_)
  refine c_ast2 (i := 5) 129 hF hP hD hS rfl (by decide) rfl (by decide +kernel) (fun H locs hP hD hS => ?_)
  refine lv_iinc (i := 1) (x := 5) (v := 6) (lv' := [(1, .int 6), (0, .ref q)]) hF.1 hF.2.1 (n := 1) (by decide +kernel) hl (k := 0) rfl (by decide) (by decide) rfl (fun ls hl => ?_)
  refine lv_goto (off := -22) (tgt := 110) hF.1 hF.2.1 (by decide +kernel) (by decide) ?_
  refine lv_iload_n hF.1 hF.2.1 (k := 1) (i := 1) (x := 6) (by decide +kernel) rfl (lv_at hl 0 rfl) ?_
  refine lv_bipush (v := 8) hF.1 hF.2.1 (n := 8) (by decide +kernel) (by decide) ?_
  refine lv_icmp_ge (off := 22) (tgt := 135) hF.1 hF.2.1 (by decide +kernel) (by decide) (fun z => absurd z (by decide)) (fun _ => ?_)
  refine lv_aload_n hF.1 hF.2.1 (k := 0) (i := 0) (x := q) (by decide +kernel) rfl (lv_at hl 1 rfl) ?_
  refine c_get (c := 0) (k := 4) (idx := 28) (v := .ref q4) 120 hF rfl rfl (by decide +kernel) hP (by rfl) rfl (by decide +kernel) ?_
  refine lv_iload_n hF.1 hF.2.1 (k := 1) (i := 1) (x := 6) (by decide +kernel) rfl (lv_at hl 0 rfl) ?_
  refine c_new2 (c := 8) 124 45 2512 tyX4 hF rfl (fun k hk => tyX4_ok k hk) kK6_26 kS4 kT4 hP hD hS rfl rfl rfl rfl rfl (by decide +kernel) (fun q16 H hP hD hS => ?_)
  refine lv_dup hF.1 hF.2.1 (by decide +kernel) rfl ?_
  refine c_callN2 (idx := 68) 128 46 2672 hF (c_X4 l D t) kC4 kT4 (List.mem_of_getElem? (i := 5) rfl) kM4 rfl (by decide +kernel) hP hD hS hl.1 ⟨rfl, rfl⟩ (Nat.le_of_ble_eq_true rfl) rfl rfl rfl rfl rfl (by decide +kernel) (fun u134 H locs hP hD hS => ?_)
  refine c_ast2 (i := 6) 129 hF hP hD hS rfl (by decide) rfl (by decide +kernel) (fun H locs hP hD hS => ?_)
  refine lv_iinc (i := 1) (x := 6) (v := 7) (lv' := [(1, .int 7), (0, .ref q)]) hF.1 hF.2.1 (n := 1) (by decide +kernel) hl (k := 0) rfl (by decide) (by decide) rfl (fun ls hl => ?_)
  refine lv_goto (off := -22) (tgt := 110) hF.1 hF.2.1 (by decide +kernel) (by decide) ?_
  refine lv_iload_n hF.1 hF.2.1 (k := 1) (i := 1) (x := 7) (by decide +kernel) rfl (lv_at hl 0 rfl) ?_
  refine lv_bipush (v := 8) hF.1 hF.2.1 (n := 8) (by decide +kernel) (by decide) ?_
  refine lv_icmp_ge (off := 22) (tgt := 135) hF.1 hF.2.1 (by decide +kernel) (by decide) (fun z => absurd z (by decide)) (fun _ => ?_)
  refine lv_aload_n hF.1 hF.2.1 (k := 0) (i := 0) (x := q) (by decide +kernel) rfl (lv_at hl 1 rfl) ?_
  refine c_get (c := 0) (k := 4) (idx := 28) (v := .ref q4) 120 hF rfl rfl (by decide +kernel) hP (by rfl) rfl (by decide +kernel) ?_
  refine lv_iload_n hF.1 hF.2.1 (k := 1) (i := 1) (x := 7) (by decide +kernel) rfl (lv_at hl 0 rfl) ?_
  refine c_new2 (c := 8) 124 47 2675 tyX4 hF rfl (fun k hk => tyX4_ok k hk) kK6_26 kS4 kT4 hP hD hS rfl rfl rfl rfl rfl (by decide +kernel) (fun q17 H hP hD hS => ?_)
  refine lv_dup hF.1 hF.2.1 (by decide +kernel) rfl ?_
  refine c_callN2 (idx := 68) 128 48 2835 hF (c_X4 l D t) kC4 kT4 (List.mem_of_getElem? (i := 5) rfl) kM4 rfl (by decide +kernel) hP hD hS hl.1 ⟨rfl, rfl⟩ (Nat.le_of_ble_eq_true rfl) rfl rfl rfl rfl rfl (by decide +kernel) (fun u146 H locs hP hD hS => ?_)
  refine c_ast2 (i := 7) 129 hF hP hD hS rfl (by decide) rfl (by decide +kernel) (fun H locs hP hD hS => ?_)
  refine lv_iinc (i := 1) (x := 7) (v := 8) (lv' := [(1, .int 8), (0, .ref q)]) hF.1 hF.2.1 (n := 1) (by decide +kernel) hl (k := 0) rfl (by decide) (by decide) rfl (fun ls hl => ?_)
  refine lv_goto (off := -22) (tgt := 110) hF.1 hF.2.1 (by decide +kernel) (by decide) ?_
  refine lv_iload_n hF.1 hF.2.1 (k := 1) (i := 1) (x := 8) (by decide +kernel) rfl (lv_at hl 0 rfl) ?_
  refine lv_bipush (v := 8) hF.1 hF.2.1 (n := 8) (by decide +kernel) (by decide) ?_
  refine lv_icmp_ge (off := 22) (tgt := 135) hF.1 hF.2.1 (by decide +kernel) (by decide) (fun _ => ?_) (fun z => absurd (by decide) z)
  simp only [iW0, iW1, iW2, iW3, iW4, iW5, List.append_assoc, List.cons_append, List.nil_append] at hP hD
  exact fin (fun i => [q4, q1, (u6 0), (u6 1), (u6 2), (u6 3), (u6 4), q2, (u11 0), (u11 1), (u11 2), (u11 3), (u11 4), q3, (u16 0), (u16 1), (u16 2), (u16 3), (u16 4), q5, (u28 0), (u28 1), (u28 2), (u28 3), (u28 4), (u28 5), (u28 6), q6, q7, q8, (u43 0), q9, q10, (u62 0), q11, (u74 0), q12, (u86 0), q13, (u98 0), q14, (u110 0), q15, (u122 0), q16, (u134 0), q17, (u146 0)].getD i 0) _ _ _ _ hP hD hS (by decide +kernel)
