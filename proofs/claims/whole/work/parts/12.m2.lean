/-! the small constructors, by program -/
def iW5 (t : cT3) (q : Nat) (u : Nat → Nat) : va_W := [(q, .inr (5, [.ref (u 0), .ref (u 1), .ref (u 2), .ref (u 3), .ref (u 4), .int (8), .int (0), .int (0), .int (0), .int (0), .int (1)])), cZI t (u 0) 10, cZI t (u 1) 10, cZI t (u 2) 10, cZI t (u 3) 10, cZI t (u 4) 10]
set_option maxHeartbeats 4000000 in
set_option maxRecDepth 100000 in
theorem c_X5 (l : Launch) (D : va_G) (t : cT3) : cMet l D t 1 tyX5 yX5_init cX5_init 1 1 5 50 (iW5 t) := by
  refine c_met (o := 5) (by decide) rfl rfl rfl (fun p e s m args below meth c9 A Q ls q hF hi hl hP hD fin => ?_)
  have hS : va_S A s.heap s.heap [] := va_S.rf
  have hl : lv_has ls 1 [(0, .ref q)] := hl
  have hn := c_len 1 tyX5
  replace hP : va_P D vwCl [(q, .inr (5, [.null, .null, .null, .null, .null, .int 0, .int 0, .int 0, .int 0, .int 0, .int 0]))] s.heap := hP
  replace hD : va_D A [(q, .inr (5, [.null, .null, .null, .null, .null, .int 0, .int 0, .int 0, .int 0, .int 0, .int 0]))] := hD
  replace hn : List.length (α := Value) [.null, .null, .null, .null, .null, .int 0, .int 0, .int 0, .int 0, .int 0, .int 0] = zlen 1 := hn
  refine lv_aload_n hF.1 hF.2.1 (k := 0) (i := 0) (x := q) (by decide +kernel) rfl (lv_at hl 0 rfl) ?_
  refine c_obj 4 hF kL5_3 kOI kOC hl.1 ⟨rfl, rfl⟩ rfl (by decide +kernel) ?_
  refine lv_aload_n hF.1 hF.2.1 (k := 0) (i := 0) (x := q) (by decide +kernel) rfl (lv_at hl 0 rfl) ?_
  refine lv_bipush (v := 10) hF.1 hF.2.1 (n := 10) (by decide +kernel) (by decide) ?_
  refine c_ints1 10 9 1 10 hF kAI hP hD hS (by decide) (by decide +kernel) rfl rfl rfl rfl rfl rfl (by decide +kernel) (fun q1 H hP hD hS => ?_)
  refine c_put (c := 1) (k := 0) (idx := 9) [.ref q1, .null, .null, .null, .null, .int 0, .int 0, .int 0, .int 0, .int 0, .int 0] 12 hF hi rfl rfl rfl (by decide +kernel) (tyX5_ok 0 (by decide)) rfl rfl hn rfl hP hD hS rfl (by decide +kernel) (fun H locs hn hP hD hS => ?_)
  refine lv_aload_n hF.1 hF.2.1 (k := 0) (i := 0) (x := q) (by decide +kernel) rfl (lv_at hl 0 rfl) ?_
  refine lv_bipush (v := 10) hF.1 hF.2.1 (n := 10) (by decide +kernel) (by decide) ?_
  refine c_ints1 10 17 2 20 hF kAI hP hD hS (by decide) (by decide +kernel) rfl rfl rfl rfl rfl rfl (by decide +kernel) (fun q2 H hP hD hS => ?_)
  refine c_put (c := 1) (k := 1) (idx := 15) [.ref q1, .ref q2, .null, .null, .null, .int 0, .int 0, .int 0, .int 0, .int 0, .int 0] 20 hF hi rfl rfl rfl (by decide +kernel) (tyX5_ok 1 (by decide)) rfl rfl hn rfl hP hD hS rfl (by decide +kernel) (fun H locs hn hP hD hS => ?_)
  refine lv_aload_n hF.1 hF.2.1 (k := 0) (i := 0) (x := q) (by decide +kernel) rfl (lv_at hl 0 rfl) ?_
  refine lv_bipush (v := 10) hF.1 hF.2.1 (n := 10) (by decide +kernel) (by decide) ?_
  refine c_ints1 10 25 3 30 hF kAI hP hD hS (by decide) (by decide +kernel) rfl rfl rfl rfl rfl rfl (by decide +kernel) (fun q3 H hP hD hS => ?_)
  refine c_put (c := 1) (k := 2) (idx := 18) [.ref q1, .ref q2, .ref q3, .null, .null, .int 0, .int 0, .int 0, .int 0, .int 0, .int 0] 28 hF hi rfl rfl rfl (by decide +kernel) (tyX5_ok 2 (by decide)) rfl rfl hn rfl hP hD hS rfl (by decide +kernel) (fun H locs hn hP hD hS => ?_)
  refine lv_aload_n hF.1 hF.2.1 (k := 0) (i := 0) (x := q) (by decide +kernel) rfl (lv_at hl 0 rfl) ?_
  refine lv_bipush (v := 10) hF.1 hF.2.1 (n := 10) (by decide +kernel) (by decide) ?_
  refine c_ints1 10 33 4 40 hF kAI hP hD hS (by decide) (by decide +kernel) rfl rfl rfl rfl rfl rfl (by decide +kernel) (fun q4 H hP hD hS => ?_)
  refine c_put (c := 1) (k := 3) (idx := 21) [.ref q1, .ref q2, .ref q3, .ref q4, .null, .int 0, .int 0, .int 0, .int 0, .int 0, .int 0] 36 hF hi rfl rfl rfl (by decide +kernel) (tyX5_ok 3 (by decide)) rfl rfl hn rfl hP hD hS rfl (by decide +kernel) (fun H locs hn hP hD hS => ?_)
  refine lv_aload_n hF.1 hF.2.1 (k := 0) (i := 0) (x := q) (by decide +kernel) rfl (lv_at hl 0 rfl) ?_
  refine lv_bipush (v := 10) hF.1 hF.2.1 (n := 10) (by decide +kernel) (by decide) ?_
  refine c_ints1 10 41 5 50 hF kAI hP hD hS (by decide) (by decide +kernel) rfl rfl rfl rfl rfl rfl (by decide +kernel) (fun q5 H hP hD hS => ?_)
  refine c_put (c := 1) (k := 4) (idx := 24) [.ref q1, .ref q2, .ref q3, .ref q4, .ref q5, .int 0, .int 0, .int 0, .int 0, .int 0, .int 0] 44 hF hi rfl rfl rfl (by decide +kernel) (tyX5_ok 4 (by decide)) rfl rfl hn rfl hP hD hS rfl (by decide +kernel) (fun H locs hn hP hD hS => ?_)
  refine lv_aload_n hF.1 hF.2.1 (k := 0) (i := 0) (x := q) (by decide +kernel) rfl (lv_at hl 0 rfl) ?_
  refine lv_bipush (v := 8) hF.1 hF.2.1 (n := 8) (by decide +kernel) (by decide) ?_
  refine c_put (c := 1) (k := 5) (idx := 27) [.ref q1, .ref q2, .ref q3, .ref q4, .ref q5, .int (8), .int 0, .int 0, .int 0, .int 0, .int 0] 50 hF hi rfl rfl rfl (by decide +kernel) (tyX5_ok 5 (by decide)) rfl rfl hn rfl hP hD hS rfl (by decide +kernel) (fun H locs hn hP hD hS => ?_)
  refine lv_aload_n hF.1 hF.2.1 (k := 0) (i := 0) (x := q) (by decide +kernel) rfl (lv_at hl 0 rfl) ?_
  refine lv_iconst (v := 0) hF.1 hF.2.1 (n := 0) (by decide +kernel) (by decide) ?_
  refine c_put (c := 1) (k := 6) (idx := 31) [.ref q1, .ref q2, .ref q3, .ref q4, .ref q5, .int (8), .int (0), .int 0, .int 0, .int 0, .int 0] 55 hF hi rfl rfl rfl (by decide +kernel) (tyX5_ok 6 (by decide)) rfl rfl hn rfl hP hD hS rfl (by decide +kernel) (fun H locs hn hP hD hS => ?_)
  refine lv_aload_n hF.1 hF.2.1 (k := 0) (i := 0) (x := q) (by decide +kernel) rfl (lv_at hl 0 rfl) ?_
  refine lv_iconst (v := 0) hF.1 hF.2.1 (n := 0) (by decide +kernel) (by decide) ?_
  refine c_put (c := 1) (k := 7) (idx := 34) [.ref q1, .ref q2, .ref q3, .ref q4, .ref q5, .int (8), .int (0), .int (0), .int 0, .int 0, .int 0] 60 hF hi rfl rfl rfl (by decide +kernel) (tyX5_ok 7 (by decide)) rfl rfl hn rfl hP hD hS rfl (by decide +kernel) (fun H locs hn hP hD hS => ?_)
  refine lv_aload_n hF.1 hF.2.1 (k := 0) (i := 0) (x := q) (by decide +kernel) rfl (lv_at hl 0 rfl) ?_
  refine lv_iconst (v := 0) hF.1 hF.2.1 (n := 0) (by decide +kernel) (by decide) ?_
  refine c_put (c := 1) (k := 8) (idx := 37) [.ref q1, .ref q2, .ref q3, .ref q4, .ref q5, .int (8), .int (0), .int (0), .int (0), .int 0, .int 0] 65 hF hi rfl rfl rfl (by decide +kernel) (tyX5_ok 8 (by decide)) rfl rfl hn rfl hP hD hS rfl (by decide +kernel) (fun H locs hn hP hD hS => ?_)
  refine lv_aload_n hF.1 hF.2.1 (k := 0) (i := 0) (x := q) (by decide +kernel) rfl (lv_at hl 0 rfl) ?_
  refine lv_iconst (v := 0) hF.1 hF.2.1 (n := 0) (by decide +kernel) (by decide) ?_
  refine c_put (c := 1) (k := 9) (idx := 40) [.ref q1, .ref q2, .ref q3, .ref q4, .ref q5, .int (8), .int (0), .int (0), .int (0), .int (0), .int 0] 70 hF hi rfl rfl rfl (by decide +kernel) (tyX5_ok 9 (by decide)) rfl rfl hn rfl hP hD hS rfl (by decide +kernel) (fun H locs hn hP hD hS => ?_)
  refine lv_aload_n hF.1 hF.2.1 (k := 0) (i := 0) (x := q) (by decide +kernel) rfl (lv_at hl 0 rfl) ?_
  refine lv_iconst (v := 1) hF.1 hF.2.1 (n := 1) (by decide +kernel) (by decide) ?_
  refine c_put (c := 1) (k := 10) (idx := 43) [.ref q1, .ref q2, .ref q3, .ref q4, .ref q5, .int (8), .int (0), .int (0), .int (0), .int (0), .int (1)] 75 hF hi rfl rfl rfl (by decide +kernel) (tyX5_ok 10 (by decide)) rfl rfl hn rfl hP hD hS rfl (by decide +kernel) (fun H locs hn hP hD hS => ?_)
  simp only [List.append_assoc, List.cons_append, List.nil_append] at hP hD
  exact fin (fun i => [q1, q2, q3, q4, q5].getD i 0) _ _ _ _ hP hD hS (by decide +kernel)
def iW4 (t : cT3) (q : Nat) (u : Nat → Nat) : va_W := [(q, .inr (4, [.ref (u 0), .int (-1), .int (0)])), cZL t (u 0) 160]
set_option maxHeartbeats 4000000 in
set_option maxRecDepth 100000 in
theorem c_X4 (l : Launch) (D : va_G) (t : cT3) : cMet l D t 8 tyX4 yX4_init cX4_init 1 1 1 160 (iW4 t) := by
  refine c_met (o := 4) (by decide) rfl rfl rfl (fun p e s m args below meth c9 A Q ls q hF hi hl hP hD fin => ?_)
  have hS : va_S A s.heap s.heap [] := va_S.rf
  have hl : lv_has ls 1 [(0, .ref q)] := hl
  have hn := c_len 8 tyX4
  replace hP : va_P D vwCl [(q, .inr (4, [.null, .int 0, .int 0]))] s.heap := hP
  replace hD : va_D A [(q, .inr (4, [.null, .int 0, .int 0]))] := hD
  replace hn : List.length (α := Value) [.null, .int 0, .int 0] = zlen 8 := hn
  refine lv_aload_n hF.1 hF.2.1 (k := 0) (i := 0) (x := q) (by decide +kernel) rfl (lv_at hl 0 rfl) ?_
  refine c_obj 4 hF kL4_3 kOI kOC hl.1 ⟨rfl, rfl⟩ rfl (by decide +kernel) ?_
  refine lv_aload_n hF.1 hF.2.1 (k := 0) (i := 0) (x := q) (by decide +kernel) rfl (lv_at hl 0 rfl) ?_
  refine lv_sipush (v := 160) hF.1 hF.2.1 (n := 160) (by decide +kernel) (by decide) ?_
  refine c_longs1 160 10 1 160 hF kAL hP hD hS (by decide) (by decide +kernel) rfl rfl rfl rfl rfl rfl (by decide +kernel) (fun q1 H hP hD hS => ?_)
  refine c_put (c := 8) (k := 0) (idx := 9) [.ref q1, .int 0, .int 0] 13 hF hi rfl rfl rfl (by decide +kernel) (tyX4_ok 0 (by decide)) rfl rfl hn rfl hP hD hS rfl (by decide +kernel) (fun H locs hn hP hD hS => ?_)
  refine lv_aload_n hF.1 hF.2.1 (k := 0) (i := 0) (x := q) (by decide +kernel) rfl (lv_at hl 0 rfl) ?_
  refine lv_iconst (v := -1) hF.1 hF.2.1 (n := -1) (by decide +kernel) (by decide) ?_
  refine c_put (c := 8) (k := 1) (idx := 15) [.ref q1, .int (-1), .int 0] 18 hF hi rfl rfl rfl (by decide +kernel) (tyX4_ok 1 (by decide)) rfl rfl hn rfl hP hD hS rfl (by decide +kernel) (fun H locs hn hP hD hS => ?_)
  refine lv_aload_n hF.1 hF.2.1 (k := 0) (i := 0) (x := q) (by decide +kernel) rfl (lv_at hl 0 rfl) ?_
  refine lv_iconst (v := 0) hF.1 hF.2.1 (n := 0) (by decide +kernel) (by decide) ?_
  refine c_put (c := 8) (k := 2) (idx := 19) [.ref q1, .int (-1), .int (0)] 23 hF hi rfl rfl rfl (by decide +kernel) (tyX4_ok 2 (by decide)) rfl rfl hn rfl hP hD hS rfl (by decide +kernel) (fun H locs hn hP hD hS => ?_)
  simp only [List.append_assoc, List.cons_append, List.nil_append] at hP hD
  exact fin (fun i => [q1].getD i 0) _ _ _ _ hP hD hS (by decide +kernel)
def iW2 (t : cT3) (q : Nat) (u : Nat → Nat) : va_W := [(q, .inr (2, [.ref (u 0), .ref (u 1), .ref (u 2), .ref (u 3), .ref (u 4), .ref (u 5), .ref (u 6), .int (0), .int (0), .long (0)])), cZI t (u 0) 45, cZI t (u 1) 45, cZI t (u 2) 45, cZL t (u 3) 45, cZL t (u 4) 45, cZL t (u 5) 45, cZI t (u 6) 1024]
set_option maxHeartbeats 4000000 in
set_option maxRecDepth 100000 in
theorem c_X2 (l : Launch) (D : va_G) (t : cT3) : cMet l D t 10 tyX2 yX2_init cX2_init 1 1 7 1294 (iW2 t) := by
  refine c_met (o := 2) (by decide) rfl rfl rfl (fun p e s m args below meth c9 A Q ls q hF hi hl hP hD fin => ?_)
  have hS : va_S A s.heap s.heap [] := va_S.rf
  have hl : lv_has ls 1 [(0, .ref q)] := hl
  have hn := c_len 10 tyX2
  replace hP : va_P D vwCl [(q, .inr (2, [.null, .null, .null, .null, .null, .null, .null, .int 0, .int 0, .long 0]))] s.heap := hP
  replace hD : va_D A [(q, .inr (2, [.null, .null, .null, .null, .null, .null, .null, .int 0, .int 0, .long 0]))] := hD
  replace hn : List.length (α := Value) [.null, .null, .null, .null, .null, .null, .null, .int 0, .int 0, .long 0] = zlen 10 := hn
  refine lv_aload_n hF.1 hF.2.1 (k := 0) (i := 0) (x := q) (by decide +kernel) rfl (lv_at hl 0 rfl) ?_
  refine c_obj 4 hF kL2_3 kOI kOC hl.1 ⟨rfl, rfl⟩ rfl (by decide +kernel) ?_
  refine lv_aload_n hF.1 hF.2.1 (k := 0) (i := 0) (x := q) (by decide +kernel) rfl (lv_at hl 0 rfl) ?_
  refine lv_bipush (v := 45) hF.1 hF.2.1 (n := 45) (by decide +kernel) (by decide) ?_
  refine c_ints1 45 9 1 45 hF kAI hP hD hS (by decide) (by decide +kernel) rfl rfl rfl rfl rfl rfl (by decide +kernel) (fun q1 H hP hD hS => ?_)
  refine c_put (c := 10) (k := 0) (idx := 9) [.ref q1, .null, .null, .null, .null, .null, .null, .int 0, .int 0, .long 0] 12 hF hi rfl rfl rfl (by decide +kernel) (tyX2_ok 0 (by decide)) rfl rfl hn rfl hP hD hS rfl (by decide +kernel) (fun H locs hn hP hD hS => ?_)
  refine lv_aload_n hF.1 hF.2.1 (k := 0) (i := 0) (x := q) (by decide +kernel) rfl (lv_at hl 0 rfl) ?_
  refine lv_bipush (v := 45) hF.1 hF.2.1 (n := 45) (by decide +kernel) (by decide) ?_
  refine c_ints1 45 17 2 90 hF kAI hP hD hS (by decide) (by decide +kernel) rfl rfl rfl rfl rfl rfl (by decide +kernel) (fun q2 H hP hD hS => ?_)
  refine c_put (c := 10) (k := 1) (idx := 15) [.ref q1, .ref q2, .null, .null, .null, .null, .null, .int 0, .int 0, .long 0] 20 hF hi rfl rfl rfl (by decide +kernel) (tyX2_ok 1 (by decide)) rfl rfl hn rfl hP hD hS rfl (by decide +kernel) (fun H locs hn hP hD hS => ?_)
  refine lv_aload_n hF.1 hF.2.1 (k := 0) (i := 0) (x := q) (by decide +kernel) rfl (lv_at hl 0 rfl) ?_
  refine lv_bipush (v := 45) hF.1 hF.2.1 (n := 45) (by decide +kernel) (by decide) ?_
  refine c_ints1 45 25 3 135 hF kAI hP hD hS (by decide) (by decide +kernel) rfl rfl rfl rfl rfl rfl (by decide +kernel) (fun q3 H hP hD hS => ?_)
  refine c_put (c := 10) (k := 2) (idx := 18) [.ref q1, .ref q2, .ref q3, .null, .null, .null, .null, .int 0, .int 0, .long 0] 28 hF hi rfl rfl rfl (by decide +kernel) (tyX2_ok 2 (by decide)) rfl rfl hn rfl hP hD hS rfl (by decide +kernel) (fun H locs hn hP hD hS => ?_)
  refine lv_aload_n hF.1 hF.2.1 (k := 0) (i := 0) (x := q) (by decide +kernel) rfl (lv_at hl 0 rfl) ?_
  refine lv_bipush (v := 45) hF.1 hF.2.1 (n := 45) (by decide +kernel) (by decide) ?_
  refine c_longs1 45 33 4 180 hF kAL hP hD hS (by decide) (by decide +kernel) rfl rfl rfl rfl rfl rfl (by decide +kernel) (fun q4 H hP hD hS => ?_)
  refine c_put (c := 10) (k := 3) (idx := 21) [.ref q1, .ref q2, .ref q3, .ref q4, .null, .null, .null, .int 0, .int 0, .long 0] 36 hF hi rfl rfl rfl (by decide +kernel) (tyX2_ok 3 (by decide)) rfl rfl hn rfl hP hD hS rfl (by decide +kernel) (fun H locs hn hP hD hS => ?_)
  refine lv_aload_n hF.1 hF.2.1 (k := 0) (i := 0) (x := q) (by decide +kernel) rfl (lv_at hl 0 rfl) ?_
  refine lv_bipush (v := 45) hF.1 hF.2.1 (n := 45) (by decide +kernel) (by decide) ?_
  refine c_longs1 45 41 5 225 hF kAL hP hD hS (by decide) (by decide +kernel) rfl rfl rfl rfl rfl rfl (by decide +kernel) (fun q5 H hP hD hS => ?_)
  refine c_put (c := 10) (k := 4) (idx := 25) [.ref q1, .ref q2, .ref q3, .ref q4, .ref q5, .null, .null, .int 0, .int 0, .long 0] 44 hF hi rfl rfl rfl (by decide +kernel) (tyX2_ok 4 (by decide)) rfl rfl hn rfl hP hD hS rfl (by decide +kernel) (fun H locs hn hP hD hS => ?_)
  refine lv_aload_n hF.1 hF.2.1 (k := 0) (i := 0) (x := q) (by decide +kernel) rfl (lv_at hl 0 rfl) ?_
  refine lv_bipush (v := 45) hF.1 hF.2.1 (n := 45) (by decide +kernel) (by decide) ?_
  refine c_longs1 45 49 6 270 hF kAL hP hD hS (by decide) (by decide +kernel) rfl rfl rfl rfl rfl rfl (by decide +kernel) (fun q6 H hP hD hS => ?_)
  refine c_put (c := 10) (k := 5) (idx := 28) [.ref q1, .ref q2, .ref q3, .ref q4, .ref q5, .ref q6, .null, .int 0, .int 0, .long 0] 52 hF hi rfl rfl rfl (by decide +kernel) (tyX2_ok 5 (by decide)) rfl rfl hn rfl hP hD hS rfl (by decide +kernel) (fun H locs hn hP hD hS => ?_)
  refine lv_aload_n hF.1 hF.2.1 (k := 0) (i := 0) (x := q) (by decide +kernel) rfl (lv_at hl 0 rfl) ?_
  refine lv_sipush (v := 1024) hF.1 hF.2.1 (n := 1024) (by decide +kernel) (by decide) ?_
  refine c_ints1 1024 58 7 1294 hF kAI hP hD hS (by decide) (by decide +kernel) rfl rfl rfl rfl rfl rfl (by decide +kernel) (fun q7 H hP hD hS => ?_)
  refine c_put (c := 10) (k := 6) (idx := 31) [.ref q1, .ref q2, .ref q3, .ref q4, .ref q5, .ref q6, .ref q7, .int 0, .int 0, .long 0] 61 hF hi rfl rfl rfl (by decide +kernel) (tyX2_ok 6 (by decide)) rfl rfl hn rfl hP hD hS rfl (by decide +kernel) (fun H locs hn hP hD hS => ?_)
  refine lv_aload_n hF.1 hF.2.1 (k := 0) (i := 0) (x := q) (by decide +kernel) rfl (lv_at hl 0 rfl) ?_
  refine lv_iconst (v := 0) hF.1 hF.2.1 (n := 0) (by decide +kernel) (by decide) ?_
  refine c_put (c := 10) (k := 7) (idx := 34) [.ref q1, .ref q2, .ref q3, .ref q4, .ref q5, .ref q6, .ref q7, .int (0), .int 0, .long 0] 66 hF hi rfl rfl rfl (by decide +kernel) (tyX2_ok 7 (by decide)) rfl rfl hn rfl hP hD hS rfl (by decide +kernel) (fun H locs hn hP hD hS => ?_)
  refine lv_aload_n hF.1 hF.2.1 (k := 0) (i := 0) (x := q) (by decide +kernel) rfl (lv_at hl 0 rfl) ?_
  refine lv_iconst (v := 0) hF.1 hF.2.1 (n := 0) (by decide +kernel) (by decide) ?_
  refine c_put (c := 10) (k := 8) (idx := 38) [.ref q1, .ref q2, .ref q3, .ref q4, .ref q5, .ref q6, .ref q7, .int (0), .int (0), .long 0] 71 hF hi rfl rfl rfl (by decide +kernel) (tyX2_ok 8 (by decide)) rfl rfl hn rfl hP hD hS rfl (by decide +kernel) (fun H locs hn hP hD hS => ?_)
  refine lv_aload_n hF.1 hF.2.1 (k := 0) (i := 0) (x := q) (by decide +kernel) rfl (lv_at hl 0 rfl) ?_
  refine lv_lconst (v := 0) hF.1 hF.2.1 (n := 0) (by decide +kernel) (by decide) ?_
  refine c_put (c := 10) (k := 9) (idx := 41) [.ref q1, .ref q2, .ref q3, .ref q4, .ref q5, .ref q6, .ref q7, .int (0), .int (0), .long (0)] 76 hF hi rfl rfl rfl (by decide +kernel) (tyX2_ok 9 (by decide)) rfl rfl hn rfl hP hD hS rfl (by decide +kernel) (fun H locs hn hP hD hS => ?_)
  simp only [List.append_assoc, List.cons_append, List.nil_append] at hP hD
  exact fin (fun i => [q1, q2, q3, q4, q5, q6, q7].getD i 0) _ _ _ _ hP hD hS (by decide +kernel)
def iW1 (t : cT3) (q : Nat) (u : Nat → Nat) : va_W := [(q, .inr (1, [.long (0), .int (0)]))]
set_option maxHeartbeats 4000000 in
set_option maxRecDepth 100000 in
theorem c_X1 (l : Launch) (D : va_G) (t : cT3) : cMet l D t 18 tyX1 yX1_init cX1_init 1 1 0 0 (iW1 t) := by
  refine c_met (o := 1) (by decide) rfl rfl rfl (fun p e s m args below meth c9 A Q ls q hF hi hl hP hD fin => ?_)
  have hS : va_S A s.heap s.heap [] := va_S.rf
  have hl : lv_has ls 1 [(0, .ref q)] := hl
  have hn := c_len 18 tyX1
  replace hP : va_P D vwCl [(q, .inr (1, [.long 0, .int 0]))] s.heap := hP
  replace hD : va_D A [(q, .inr (1, [.long 0, .int 0]))] := hD
  replace hn : List.length (α := Value) [.long 0, .int 0] = zlen 18 := hn
  refine lv_aload_n hF.1 hF.2.1 (k := 0) (i := 0) (x := q) (by decide +kernel) rfl (lv_at hl 0 rfl) ?_
  refine c_obj 4 hF kL1_3 kOI kOC hl.1 ⟨rfl, rfl⟩ rfl (by decide +kernel) ?_
  refine lv_aload_n hF.1 hF.2.1 (k := 0) (i := 0) (x := q) (by decide +kernel) rfl (lv_at hl 0 rfl) ?_
  refine lv_lconst (v := 0) hF.1 hF.2.1 (n := 0) (by decide +kernel) (by decide) ?_
  refine c_put (c := 18) (k := 0) (idx := 9) [.long (0), .int 0] 9 hF hi rfl rfl rfl (by decide +kernel) (tyX1_ok 0 (by decide)) rfl rfl hn rfl hP hD hS rfl (by decide +kernel) (fun H locs hn hP hD hS => ?_)
  refine lv_aload_n hF.1 hF.2.1 (k := 0) (i := 0) (x := q) (by decide +kernel) rfl (lv_at hl 0 rfl) ?_
  refine lv_iconst (v := 0) hF.1 hF.2.1 (n := 0) (by decide +kernel) (by decide) ?_
  refine c_put (c := 18) (k := 1) (idx := 15) [.long (0), .int (0)] 14 hF hi rfl rfl rfl (by decide +kernel) (tyX1_ok 1 (by decide)) rfl rfl hn rfl hP hD hS rfl (by decide +kernel) (fun H locs hn hP hD hS => ?_)
  exact fin (fun i => [].getD i 0) _ _ _ _ hP hD hS (by decide +kernel)
def iW3 (t : cT3) (q : Nat) (u : Nat → Nat) : va_W := [(q, .inr (3, [.int (0)]))]
set_option maxHeartbeats 4000000 in
set_option maxRecDepth 100000 in
theorem c_X3 (l : Launch) (D : va_G) (t : cT3) : cMet l D t 19 tyX3 yX3_init cX3_init 1 1 0 0 (iW3 t) := by
  refine c_met (o := 3) (by decide) rfl rfl rfl (fun p e s m args below meth c9 A Q ls q hF hi hl hP hD fin => ?_)
  have hS : va_S A s.heap s.heap [] := va_S.rf
  have hl : lv_has ls 1 [(0, .ref q)] := hl
  have hn := c_len 19 tyX3
  replace hP : va_P D vwCl [(q, .inr (3, [.int 0]))] s.heap := hP
  replace hD : va_D A [(q, .inr (3, [.int 0]))] := hD
  replace hn : List.length (α := Value) [.int 0] = zlen 19 := hn
  refine lv_aload_n hF.1 hF.2.1 (k := 0) (i := 0) (x := q) (by decide +kernel) rfl (lv_at hl 0 rfl) ?_
  refine c_obj 4 hF kL3_3 kOI kOC hl.1 ⟨rfl, rfl⟩ rfl (by decide +kernel) ?_
  refine lv_aload_n hF.1 hF.2.1 (k := 0) (i := 0) (x := q) (by decide +kernel) rfl (lv_at hl 0 rfl) ?_
  refine lv_iconst (v := 0) hF.1 hF.2.1 (n := 0) (by decide +kernel) (by decide) ?_
  refine c_put (c := 19) (k := 0) (idx := 9) [.int (0)] 9 hF hi rfl rfl rfl (by decide +kernel) (tyX3_ok 0 (by decide)) rfl rfl hn rfl hP hD hS rfl (by decide +kernel) (fun H locs hn hP hD hS => ?_)
  exact fin (fun i => [].getD i 0) _ _ _ _ hP hD hS (by decide +kernel)
def iW0 (t : cT3) (q : Nat) (u : Nat → Nat) : va_W := [(q, .inr (0, [.ref (u 0), .int (0), .int (0), .int (0), .int (0)])), cZI t (u 0) 20]
set_option maxHeartbeats 4000000 in
set_option maxRecDepth 100000 in
theorem c_X0 (l : Launch) (D : va_G) (t : cT3) : cMet l D t 20 tyX0 yX0_init cX0_init 1 1 1 20 (iW0 t) := by
  refine c_met (o := 0) (by decide) rfl rfl rfl (fun p e s m args below meth c9 A Q ls q hF hi hl hP hD fin => ?_)
  have hS : va_S A s.heap s.heap [] := va_S.rf
  have hl : lv_has ls 1 [(0, .ref q)] := hl
  have hn := c_len 20 tyX0
  replace hP : va_P D vwCl [(q, .inr (0, [.null, .int 0, .int 0, .int 0, .int 0]))] s.heap := hP
  replace hD : va_D A [(q, .inr (0, [.null, .int 0, .int 0, .int 0, .int 0]))] := hD
  replace hn : List.length (α := Value) [.null, .int 0, .int 0, .int 0, .int 0] = zlen 20 := hn
  refine lv_aload_n hF.1 hF.2.1 (k := 0) (i := 0) (x := q) (by decide +kernel) rfl (lv_at hl 0 rfl) ?_
  refine c_obj 4 hF kL0_3 kOI kOC hl.1 ⟨rfl, rfl⟩ rfl (by decide +kernel) ?_
  refine lv_aload_n hF.1 hF.2.1 (k := 0) (i := 0) (x := q) (by decide +kernel) rfl (lv_at hl 0 rfl) ?_
  refine lv_bipush (v := 20) hF.1 hF.2.1 (n := 20) (by decide +kernel) (by decide) ?_
  refine c_ints1 20 9 1 20 hF kAI hP hD hS (by decide) (by decide +kernel) rfl rfl rfl rfl rfl rfl (by decide +kernel) (fun q1 H hP hD hS => ?_)
  refine c_put (c := 20) (k := 0) (idx := 9) [.ref q1, .int 0, .int 0, .int 0, .int 0] 12 hF hi rfl rfl rfl (by decide +kernel) (tyX0_ok 0 (by decide)) rfl rfl hn rfl hP hD hS rfl (by decide +kernel) (fun H locs hn hP hD hS => ?_)
  refine lv_aload_n hF.1 hF.2.1 (k := 0) (i := 0) (x := q) (by decide +kernel) rfl (lv_at hl 0 rfl) ?_
  refine lv_iconst (v := 0) hF.1 hF.2.1 (n := 0) (by decide +kernel) (by decide) ?_
  refine c_put (c := 20) (k := 1) (idx := 15) [.ref q1, .int (0), .int 0, .int 0, .int 0] 17 hF hi rfl rfl rfl (by decide +kernel) (tyX0_ok 1 (by decide)) rfl rfl hn rfl hP hD hS rfl (by decide +kernel) (fun H locs hn hP hD hS => ?_)
  refine lv_aload_n hF.1 hF.2.1 (k := 0) (i := 0) (x := q) (by decide +kernel) rfl (lv_at hl 0 rfl) ?_
  refine lv_iconst (v := 0) hF.1 hF.2.1 (n := 0) (by decide +kernel) (by decide) ?_
  refine c_put (c := 20) (k := 2) (idx := 19) [.ref q1, .int (0), .int (0), .int 0, .int 0] 22 hF hi rfl rfl rfl (by decide +kernel) (tyX0_ok 2 (by decide)) rfl rfl hn rfl hP hD hS rfl (by decide +kernel) (fun H locs hn hP hD hS => ?_)
  refine lv_aload_n hF.1 hF.2.1 (k := 0) (i := 0) (x := q) (by decide +kernel) rfl (lv_at hl 0 rfl) ?_
  refine lv_iconst (v := 0) hF.1 hF.2.1 (n := 0) (by decide +kernel) (by decide) ?_
  refine c_put (c := 20) (k := 3) (idx := 22) [.ref q1, .int (0), .int (0), .int (0), .int 0] 27 hF hi rfl rfl rfl (by decide +kernel) (tyX0_ok 3 (by decide)) rfl rfl hn rfl hP hD hS rfl (by decide +kernel) (fun H locs hn hP hD hS => ?_)
  refine lv_aload_n hF.1 hF.2.1 (k := 0) (i := 0) (x := q) (by decide +kernel) rfl (lv_at hl 0 rfl) ?_
  refine lv_iconst (v := 0) hF.1 hF.2.1 (n := 0) (by decide +kernel) (by decide) ?_
  refine c_put (c := 20) (k := 4) (idx := 25) [.ref q1, .int (0), .int (0), .int (0), .int (0)] 32 hF hi rfl rfl rfl (by decide +kernel) (tyX0_ok 4 (by decide)) rfl rfl hn rfl hP hD hS rfl (by decide +kernel) (fun H locs hn hP hD hS => ?_)
  simp only [List.append_assoc, List.cons_append, List.nil_append] at hP hD
  exact fin (fun i => [q1].getD i 0) _ _ _ _ hP hD hS (by decide +kernel)
