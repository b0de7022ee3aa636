/-! the reference's constructor, by program -/
def iWds : Nat → Int32 := upd (upd (upd (upd (upd (upd (upd (upd (upd (upd (upd (upd (upd (upd (upd (upd (upd (upd (upd (upd (upd (upd (upd (upd (upd (upd (upd (upd (upd (upd (upd (upd (upd (upd (upd (upd (fun _ => 0) (0 : Int32).toNatClampNeg (115)) (1 : Int32).toNatClampNeg (101)) (2 : Int32).toNatClampNeg (97)) (3 : Int32).toNatClampNeg (116)) (4 : Int32).toNatClampNeg (115)) (5 : Int32).toNatClampNeg (32)) (6 : Int32).toNatClampNeg (0)) (7 : Int32).toNatClampNeg (103)) (8 : Int32).toNatClampNeg (117)) (9 : Int32).toNatClampNeg (101)) (10 : Int32).toNatClampNeg (115)) (11 : Int32).toNatClampNeg (116)) (12 : Int32).toNatClampNeg (32)) (13 : Int32).toNatClampNeg (0)) (14 : Int32).toNatClampNeg (98)) (15 : Int32).toNatClampNeg (97)) (16 : Int32).toNatClampNeg (114)) (17 : Int32).toNatClampNeg (32)) (18 : Int32).toNatClampNeg (0)) (19 : Int32).toNatClampNeg (104)) (20 : Int32).toNatClampNeg (97)) (21 : Int32).toNatClampNeg (100)) (22 : Int32).toNatClampNeg (32)) (23 : Int32).toNatClampNeg (0)) (24 : Int32).toNatClampNeg (101)) (25 : Int32).toNatClampNeg (121)) (26 : Int32).toNatClampNeg (101)) (27 : Int32).toNatClampNeg (115)) (28 : Int32).toNatClampNeg (32)) (29 : Int32).toNatClampNeg (0)) (30 : Int32).toNatClampNeg (109)) (31 : Int32).toNatClampNeg (111)) (32 : Int32).toNatClampNeg (118)) (33 : Int32).toNatClampNeg (101)) (34 : Int32).toNatClampNeg (32)) (35 : Int32).toNatClampNeg (0)
def iW7 (t : cT3) (q : Nat) (u : Nat → Nat) : va_W := [(q, .inr (7, [.int 0, .int (8), .int 0, .int 0, .int 0, .int (1), .int (-1), .ref (u 0), .ref (u 1), .ref (u 2), .ref (u 3), .ref (u 4), .ref (u 5), .ref (u 6), .ref (u 7), .ref (u 8), .ref (u 9), .ref (u 10), .ref (u 11), .ref (u 12), .ref (u 13), .int 0, .int 0, .int 0, .int 0, .int 0, .ref (u 14), .ref (u 15), .ref (u 16), .ref (u 17), .int 0, .ref (u 18), .ref (u 19), .int 0, .int 0, .ref (u 20), .ref (u 21), .int 0, .ref (u 22), .ref (u 23), .int 0, .int 0])), cZI t (u 0) 8, cZI t (u 1) 10, cZI t (u 2) 10, cZI t (u 3) 10, cZI t (u 4) 10, cZI t (u 5) 10, cZI t (u 6) 8, cZI t (u 7) 8, cZI t (u 8) 8, cZI t (u 9) 8, cZL t (u 10) 1280, cZL t (u 11) 160, (u 12, .inl (t.1, 36, .inl iWds)), cZI t (u 13) 3, cZI t (u 14) 60, cZI t (u 15) 60, cZI t (u 16) 45, cZI t (u 17) 45, cZI t (u 18) 5, cZI t (u 19) 5, cZI t (u 20) 10, cZI t (u 21) 1024, cZI t (u 22) 45, cZI t (u 23) 20]
set_option maxHeartbeats 4000000 in
set_option maxRecDepth 100000 in
theorem c_X7 (l : Launch) (D : va_G) (t : cT3) : cMet l D t 64 tyX7 yX7_init cX7_init 1 1 24 2888 (iW7 t) := by
  refine c_met (o := 7) (by decide) rfl rfl rfl (fun p e s m args below meth c9 A Q ls q hF hi hl hP hD fin => ?_)
  have hS : va_S A s.heap s.heap [] := va_S.rf
  have hl : lv_has ls 1 [(0, .ref q)] := hl
  have hn := c_len 64 tyX7
  replace hP : va_P D vwCl [(q, .inr (7, [.int 0, .int 0, .int 0, .int 0, .int 0, .int 0, .int 0, .null, .null, .null, .null, .null, .null, .null, .null, .null, .null, .null, .null, .null, .null, .int 0, .int 0, .int 0, .int 0, .int 0, .null, .null, .null, .null, .int 0, .null, .null, .int 0, .int 0, .null, .null, .int 0, .null, .null, .int 0, .int 0]))] s.heap := hP
  replace hD : va_D A [(q, .inr (7, [.int 0, .int 0, .int 0, .int 0, .int 0, .int 0, .int 0, .null, .null, .null, .null, .null, .null, .null, .null, .null, .null, .null, .null, .null, .null, .int 0, .int 0, .int 0, .int 0, .int 0, .null, .null, .null, .null, .int 0, .null, .null, .int 0, .int 0, .null, .null, .int 0, .null, .null, .int 0, .int 0]))] := hD
  replace hn : List.length (α := Value) [.int 0, .int 0, .int 0, .int 0, .int 0, .int 0, .int 0, .null, .null, .null, .null, .null, .null, .null, .null, .null, .null, .null, .null, .null, .null, .int 0, .int 0, .int 0, .int 0, .int 0, .null, .null, .null, .null, .int 0, .null, .null, .int 0, .int 0, .null, .null, .int 0, .null, .null, .int 0, .int 0] = zlen 64 := hn
  refine lv_aload_n hF.1 hF.2.1 (k := 0) (i := 0) (x := q) (by decide +kernel) rfl (lv_at hl 0 rfl) ?_
  refine c_obj 4 hF kL7_1 kOI kOC hl.1 ⟨rfl, rfl⟩ rfl (by decide +kernel) ?_
  refine lv_aload_n hF.1 hF.2.1 (k := 0) (i := 0) (x := q) (by decide +kernel) rfl (lv_at hl 0 rfl) ?_
  refine lv_bipush (v := 8) hF.1 hF.2.1 (n := 8) (by decide +kernel) (by decide) ?_
  refine c_put (c := 64) (k := 1) (idx := 7) [.int 0, .int (8), .int 0, .int 0, .int 0, .int 0, .int 0, .null, .null, .null, .null, .null, .null, .null, .null, .null, .null, .null, .null, .null, .null, .int 0, .int 0, .int 0, .int 0, .int 0, .null, .null, .null, .null, .int 0, .null, .null, .int 0, .int 0, .null, .null, .int 0, .null, .null, .int 0, .int 0] 10 hF hi rfl rfl rfl (by decide +kernel) (tyX7_ok 1 (by decide)) rfl rfl hn rfl hP hD hS rfl (by decide +kernel) (fun H locs hn hP hD hS => ?_)
  refine lv_aload_n hF.1 hF.2.1 (k := 0) (i := 0) (x := q) (by decide +kernel) rfl (lv_at hl 0 rfl) ?_
  refine lv_iconst (v := 1) hF.1 hF.2.1 (n := 1) (by decide +kernel) (by decide) ?_
  refine c_put (c := 64) (k := 5) (idx := 13) [.int 0, .int (8), .int 0, .int 0, .int 0, .int (1), .int 0, .null, .null, .null, .null, .null, .null, .null, .null, .null, .null, .null, .null, .null, .null, .int 0, .int 0, .int 0, .int 0, .int 0, .null, .null, .null, .null, .int 0, .null, .null, .int 0, .int 0, .null, .null, .int 0, .null, .null, .int 0, .int 0] 15 hF hi rfl rfl rfl (by decide +kernel) (tyX7_ok 5 (by decide)) rfl rfl hn rfl hP hD hS rfl (by decide +kernel) (fun H locs hn hP hD hS => ?_)
  refine lv_aload_n hF.1 hF.2.1 (k := 0) (i := 0) (x := q) (by decide +kernel) rfl (lv_at hl 0 rfl) ?_
  refine lv_iconst (v := -1) hF.1 hF.2.1 (n := -1) (by decide +kernel) (by decide) ?_
  refine c_put (c := 64) (k := 6) (idx := 16) [.int 0, .int (8), .int 0, .int 0, .int 0, .int (1), .int (-1), .null, .null, .null, .null, .null, .null, .null, .null, .null, .null, .null, .null, .null, .null, .int 0, .int 0, .int 0, .int 0, .int 0, .null, .null, .null, .null, .int 0, .null, .null, .int 0, .int 0, .null, .null, .int 0, .null, .null, .int 0, .int 0] 20 hF hi rfl rfl rfl (by decide +kernel) (tyX7_ok 6 (by decide)) rfl rfl hn rfl hP hD hS rfl (by decide +kernel) (fun H locs hn hP hD hS => ?_)
  refine lv_aload_n hF.1 hF.2.1 (k := 0) (i := 0) (x := q) (by decide +kernel) rfl (lv_at hl 0 rfl) ?_
  refine lv_bipush (v := 8) hF.1 hF.2.1 (n := 8) (by decide +kernel) (by decide) ?_
  refine c_ints1 8 25 1 8 hF kAI hP hD hS (by decide) (by decide +kernel) rfl rfl rfl rfl rfl rfl (by decide +kernel) (fun q1 H hP hD hS => ?_)
  refine c_put (c := 64) (k := 7) (idx := 19) [.int 0, .int (8), .int 0, .int 0, .int 0, .int (1), .int (-1), .ref q1, .null, .null, .null, .null, .null, .null, .null, .null, .null, .null, .null, .null, .null, .int 0, .int 0, .int 0, .int 0, .int 0, .null, .null, .null, .null, .int 0, .null, .null, .int 0, .int 0, .null, .null, .int 0, .null, .null, .int 0, .int 0] 28 hF hi rfl rfl rfl (by decide +kernel) (tyX7_ok 7 (by decide)) rfl rfl hn rfl hP hD hS rfl (by decide +kernel) (fun H locs hn hP hD hS => ?_)
  refine lv_aload_n hF.1 hF.2.1 (k := 0) (i := 0) (x := q) (by decide +kernel) rfl (lv_at hl 0 rfl) ?_
  refine lv_bipush (v := 10) hF.1 hF.2.1 (n := 10) (by decide +kernel) (by decide) ?_
  refine c_ints1 10 33 2 18 hF kAI hP hD hS (by decide) (by decide +kernel) rfl rfl rfl rfl rfl rfl (by decide +kernel) (fun q2 H hP hD hS => ?_)
  refine c_put (c := 64) (k := 8) (idx := 23) [.int 0, .int (8), .int 0, .int 0, .int 0, .int (1), .int (-1), .ref q1, .ref q2, .null, .null, .null, .null, .null, .null, .null, .null, .null, .null, .null, .null, .int 0, .int 0, .int 0, .int 0, .int 0, .null, .null, .null, .null, .int 0, .null, .null, .int 0, .int 0, .null, .null, .int 0, .null, .null, .int 0, .int 0] 36 hF hi rfl rfl rfl (by decide +kernel) (tyX7_ok 8 (by decide)) rfl rfl hn rfl hP hD hS rfl (by decide +kernel) (fun H locs hn hP hD hS => ?_)
  refine lv_aload_n hF.1 hF.2.1 (k := 0) (i := 0) (x := q) (by decide +kernel) rfl (lv_at hl 0 rfl) ?_
  refine lv_bipush (v := 10) hF.1 hF.2.1 (n := 10) (by decide +kernel) (by decide) ?_
  refine c_ints1 10 41 3 28 hF kAI hP hD hS (by decide) (by decide +kernel) rfl rfl rfl rfl rfl rfl (by decide +kernel) (fun q3 H hP hD hS => ?_)
  refine c_put (c := 64) (k := 9) (idx := 26) [.int 0, .int (8), .int 0, .int 0, .int 0, .int (1), .int (-1), .ref q1, .ref q2, .ref q3, .null, .null, .null, .null, .null, .null, .null, .null, .null, .null, .null, .int 0, .int 0, .int 0, .int 0, .int 0, .null, .null, .null, .null, .int 0, .null, .null, .int 0, .int 0, .null, .null, .int 0, .null, .null, .int 0, .int 0] 44 hF hi rfl rfl rfl (by decide +kernel) (tyX7_ok 9 (by decide)) rfl rfl hn rfl hP hD hS rfl (by decide +kernel) (fun H locs hn hP hD hS => ?_)
  refine lv_aload_n hF.1 hF.2.1 (k := 0) (i := 0) (x := q) (by decide +kernel) rfl (lv_at hl 0 rfl) ?_
  refine lv_bipush (v := 10) hF.1 hF.2.1 (n := 10) (by decide +kernel) (by decide) ?_
  refine c_ints1 10 49 4 38 hF kAI hP hD hS (by decide) (by decide +kernel) rfl rfl rfl rfl rfl rfl (by decide +kernel) (fun q4 H hP hD hS => ?_)
  refine c_put (c := 64) (k := 10) (idx := 29) [.int 0, .int (8), .int 0, .int 0, .int 0, .int (1), .int (-1), .ref q1, .ref q2, .ref q3, .ref q4, .null, .null, .null, .null, .null, .null, .null, .null, .null, .null, .int 0, .int 0, .int 0, .int 0, .int 0, .null, .null, .null, .null, .int 0, .null, .null, .int 0, .int 0, .null, .null, .int 0, .null, .null, .int 0, .int 0] 52 hF hi rfl rfl rfl (by decide +kernel) (tyX7_ok 10 (by decide)) rfl rfl hn rfl hP hD hS rfl (by decide +kernel) (fun H locs hn hP hD hS => ?_)
  refine lv_aload_n hF.1 hF.2.1 (k := 0) (i := 0) (x := q) (by decide +kernel) rfl (lv_at hl 0 rfl) ?_
  refine lv_bipush (v := 10) hF.1 hF.2.1 (n := 10) (by decide +kernel) (by decide) ?_
  refine c_ints1 10 57 5 48 hF kAI hP hD hS (by decide) (by decide +kernel) rfl rfl rfl rfl rfl rfl (by decide +kernel) (fun q5 H hP hD hS => ?_)
  refine c_put (c := 64) (k := 11) (idx := 32) [.int 0, .int (8), .int 0, .int 0, .int 0, .int (1), .int (-1), .ref q1, .ref q2, .ref q3, .ref q4, .ref q5, .null, .null, .null, .null, .null, .null, .null, .null, .null, .int 0, .int 0, .int 0, .int 0, .int 0, .null, .null, .null, .null, .int 0, .null, .null, .int 0, .int 0, .null, .null, .int 0, .null, .null, .int 0, .int 0] 60 hF hi rfl rfl rfl (by decide +kernel) (tyX7_ok 11 (by decide)) rfl rfl hn rfl hP hD hS rfl (by decide +kernel) (fun H locs hn hP hD hS => ?_)
  refine lv_aload_n hF.1 hF.2.1 (k := 0) (i := 0) (x := q) (by decide +kernel) rfl (lv_at hl 0 rfl) ?_
  refine lv_bipush (v := 10) hF.1 hF.2.1 (n := 10) (by decide +kernel) (by decide) ?_
  refine c_ints1 10 65 6 58 hF kAI hP hD hS (by decide) (by decide +kernel) rfl rfl rfl rfl rfl rfl (by decide +kernel) (fun q6 H hP hD hS => ?_)
  refine c_put (c := 64) (k := 12) (idx := 35) [.int 0, .int (8), .int 0, .int 0, .int 0, .int (1), .int (-1), .ref q1, .ref q2, .ref q3, .ref q4, .ref q5, .ref q6, .null, .null, .null, .null, .null, .null, .null, .null, .int 0, .int 0, .int 0, .int 0, .int 0, .null, .null, .null, .null, .int 0, .null, .null, .int 0, .int 0, .null, .null, .int 0, .null, .null, .int 0, .int 0] 68 hF hi rfl rfl rfl (by decide +kernel) (tyX7_ok 12 (by decide)) rfl rfl hn rfl hP hD hS rfl (by decide +kernel) (fun H locs hn hP hD hS => ?_)
  refine lv_aload_n hF.1 hF.2.1 (k := 0) (i := 0) (x := q) (by decide +kernel) rfl (lv_at hl 0 rfl) ?_
  refine lv_bipush (v := 8) hF.1 hF.2.1 (n := 8) (by decide +kernel) (by decide) ?_
  refine c_ints1 8 73 7 66 hF kAI hP hD hS (by decide) (by decide +kernel) rfl rfl rfl rfl rfl rfl (by decide +kernel) (fun q7 H hP hD hS => ?_)
  refine c_put (c := 64) (k := 13) (idx := 38) [.int 0, .int (8), .int 0, .int 0, .int 0, .int (1), .int (-1), .ref q1, .ref q2, .ref q3, .ref q4, .ref q5, .ref q6, .ref q7, .null, .null, .null, .null, .null, .null, .null, .int 0, .int 0, .int 0, .int 0, .int 0, .null, .null, .null, .null, .int 0, .null, .null, .int 0, .int 0, .null, .null, .int 0, .null, .null, .int 0, .int 0] 76 hF hi rfl rfl rfl (by decide +kernel) (tyX7_ok 13 (by decide)) rfl rfl hn rfl hP hD hS rfl (by decide +kernel) (fun H locs hn hP hD hS => ?_)
  refine lv_aload_n hF.1 hF.2.1 (k := 0) (i := 0) (x := q) (by decide +kernel) rfl (lv_at hl 0 rfl) ?_
  refine lv_bipush (v := 8) hF.1 hF.2.1 (n := 8) (by decide +kernel) (by decide) ?_
  refine c_ints1 8 81 8 74 hF kAI hP hD hS (by decide) (by decide +kernel) rfl rfl rfl rfl rfl rfl (by decide +kernel) (fun q8 H hP hD hS => ?_)
  refine c_put (c := 64) (k := 14) (idx := 41) [.int 0, .int (8), .int 0, .int 0, .int 0, .int (1), .int (-1), .ref q1, .ref q2, .ref q3, .ref q4, .ref q5, .ref q6, .ref q7, .ref q8, .null, .null, .null, .null, .null, .null, .int 0, .int 0, .int 0, .int 0, .int 0, .null, .null, .null, .null, .int 0, .null, .null, .int 0, .int 0, .null, .null, .int 0, .null, .null, .int 0, .int 0] 84 hF hi rfl rfl rfl (by decide +kernel) (tyX7_ok 14 (by decide)) rfl rfl hn rfl hP hD hS rfl (by decide +kernel) (fun H locs hn hP hD hS => ?_)
  refine lv_aload_n hF.1 hF.2.1 (k := 0) (i := 0) (x := q) (by decide +kernel) rfl (lv_at hl 0 rfl) ?_
  refine lv_bipush (v := 8) hF.1 hF.2.1 (n := 8) (by decide +kernel) (by decide) ?_
  refine c_ints1 8 89 9 82 hF kAI hP hD hS (by decide) (by decide +kernel) rfl rfl rfl rfl rfl rfl (by decide +kernel) (fun q9 H hP hD hS => ?_)
  refine c_put (c := 64) (k := 15) (idx := 44) [.int 0, .int (8), .int 0, .int 0, .int 0, .int (1), .int (-1), .ref q1, .ref q2, .ref q3, .ref q4, .ref q5, .ref q6, .ref q7, .ref q8, .ref q9, .null, .null, .null, .null, .null, .int 0, .int 0, .int 0, .int 0, .int 0, .null, .null, .null, .null, .int 0, .null, .null, .int 0, .int 0, .null, .null, .int 0, .null, .null, .int 0, .int 0] 92 hF hi rfl rfl rfl (by decide +kernel) (tyX7_ok 15 (by decide)) rfl rfl hn rfl hP hD hS rfl (by decide +kernel) (fun H locs hn hP hD hS => ?_)
  refine lv_aload_n hF.1 hF.2.1 (k := 0) (i := 0) (x := q) (by decide +kernel) rfl (lv_at hl 0 rfl) ?_
  refine lv_bipush (v := 8) hF.1 hF.2.1 (n := 8) (by decide +kernel) (by decide) ?_
  refine c_ints1 8 97 10 90 hF kAI hP hD hS (by decide) (by decide +kernel) rfl rfl rfl rfl rfl rfl (by decide +kernel) (fun q10 H hP hD hS => ?_)
  refine c_put (c := 64) (k := 16) (idx := 47) [.int 0, .int (8), .int 0, .int 0, .int 0, .int (1), .int (-1), .ref q1, .ref q2, .ref q3, .ref q4, .ref q5, .ref q6, .ref q7, .ref q8, .ref q9, .ref q10, .null, .null, .null, .null, .int 0, .int 0, .int 0, .int 0, .int 0, .null, .null, .null, .null, .int 0, .null, .null, .int 0, .int 0, .null, .null, .int 0, .null, .null, .int 0, .int 0] 100 hF hi rfl rfl rfl (by decide +kernel) (tyX7_ok 16 (by decide)) rfl rfl hn rfl hP hD hS rfl (by decide +kernel) (fun H locs hn hP hD hS => ?_)
  refine lv_aload_n hF.1 hF.2.1 (k := 0) (i := 0) (x := q) (by decide +kernel) rfl (lv_at hl 0 rfl) ?_
  refine lv_sipush (v := 1280) hF.1 hF.2.1 (n := 1280) (by decide +kernel) (by decide) ?_
  refine c_longs1 1280 106 11 1370 hF kAL hP hD hS (by decide) (by decide +kernel) rfl rfl rfl rfl rfl rfl (by decide +kernel) (fun q11 H hP hD hS => ?_)
  refine c_put (c := 64) (k := 17) (idx := 50) [.int 0, .int (8), .int 0, .int 0, .int 0, .int (1), .int (-1), .ref q1, .ref q2, .ref q3, .ref q4, .ref q5, .ref q6, .ref q7, .ref q8, .ref q9, .ref q10, .ref q11, .null, .null, .null, .int 0, .int 0, .int 0, .int 0, .int 0, .null, .null, .null, .null, .int 0, .null, .null, .int 0, .int 0, .null, .null, .int 0, .null, .null, .int 0, .int 0] 109 hF hi rfl rfl rfl (by decide +kernel) (tyX7_ok 17 (by decide)) rfl rfl hn rfl hP hD hS rfl (by decide +kernel) (fun H locs hn hP hD hS => ?_)
  refine lv_aload_n hF.1 hF.2.1 (k := 0) (i := 0) (x := q) (by decide +kernel) rfl (lv_at hl 0 rfl) ?_
  refine lv_sipush (v := 160) hF.1 hF.2.1 (n := 160) (by decide +kernel) (by decide) ?_
  refine c_longs1 160 115 12 1530 hF kAL hP hD hS (by decide) (by decide +kernel) rfl rfl rfl rfl rfl rfl (by decide +kernel) (fun q12 H hP hD hS => ?_)
  refine c_put (c := 64) (k := 18) (idx := 54) [.int 0, .int (8), .int 0, .int 0, .int 0, .int (1), .int (-1), .ref q1, .ref q2, .ref q3, .ref q4, .ref q5, .ref q6, .ref q7, .ref q8, .ref q9, .ref q10, .ref q11, .ref q12, .null, .null, .int 0, .int 0, .int 0, .int 0, .int 0, .null, .null, .null, .null, .int 0, .null, .null, .int 0, .int 0, .null, .null, .int 0, .null, .null, .int 0, .int 0] 118 hF hi rfl rfl rfl (by decide +kernel) (tyX7_ok 18 (by decide)) rfl rfl hn rfl hP hD hS rfl (by decide +kernel) (fun H locs hn hP hD hS => ?_)
  refine lv_aload_n hF.1 hF.2.1 (k := 0) (i := 0) (x := q) (by decide +kernel) rfl (lv_at hl 0 rfl) ?_
  refine lv_bipush (v := 36) hF.1 hF.2.1 (n := 36) (by decide +kernel) (by decide) ?_
  refine c_ints1 36 123 13 1566 hF kAI hP hD hS (by decide) (by decide +kernel) rfl rfl rfl rfl rfl rfl (by decide +kernel) (fun q13 H hP hD hS => ?_)
  refine lv_dup hF.1 hF.2.1 (by decide +kernel) rfl ?_
  refine lv_iconst (v := 0) hF.1 hF.2.1 (n := 0) (by decide +kernel) (by decide) ?_
  refine lv_bipush (v := 115) hF.1 hF.2.1 (n := 115) (by decide +kernel) (by decide) ?_
  refine c_word1 128 hF hP hD hS (by decide) rfl (by decide +kernel) (fun H locs hP hD hS => ?_)
  refine lv_dup hF.1 hF.2.1 (by decide +kernel) rfl ?_
  refine lv_iconst (v := 1) hF.1 hF.2.1 (n := 1) (by decide +kernel) (by decide) ?_
  refine lv_bipush (v := 101) hF.1 hF.2.1 (n := 101) (by decide +kernel) (by decide) ?_
  refine c_word1 133 hF hP hD hS (by decide) rfl (by decide +kernel) (fun H locs hP hD hS => ?_)
  refine lv_dup hF.1 hF.2.1 (by decide +kernel) rfl ?_
  refine lv_iconst (v := 2) hF.1 hF.2.1 (n := 2) (by decide +kernel) (by decide) ?_
  refine lv_bipush (v := 97) hF.1 hF.2.1 (n := 97) (by decide +kernel) (by decide) ?_
  refine c_word1 138 hF hP hD hS (by decide) rfl (by decide +kernel) (fun H locs hP hD hS => ?_)
  refine lv_dup hF.1 hF.2.1 (by decide +kernel) rfl ?_
  refine lv_iconst (v := 3) hF.1 hF.2.1 (n := 3) (by decide +kernel) (by decide) ?_
  refine lv_bipush (v := 116) hF.1 hF.2.1 (n := 116) (by decide +kernel) (by decide) ?_
  refine c_word1 143 hF hP hD hS (by decide) rfl (by decide +kernel) (fun H locs hP hD hS => ?_)
  refine lv_dup hF.1 hF.2.1 (by decide +kernel) rfl ?_
  refine lv_iconst (v := 4) hF.1 hF.2.1 (n := 4) (by decide +kernel) (by decide) ?_
  refine lv_bipush (v := 115) hF.1 hF.2.1 (n := 115) (by decide +kernel) (by decide) ?_
  refine c_word1 148 hF hP hD hS (by decide) rfl (by decide +kernel) (fun H locs hP hD hS => ?_)
  refine lv_dup hF.1 hF.2.1 (by decide +kernel) rfl ?_
  refine lv_iconst (v := 5) hF.1 hF.2.1 (n := 5) (by decide +kernel) (by decide) ?_
  refine lv_bipush (v := 32) hF.1 hF.2.1 (n := 32) (by decide +kernel) (by decide) ?_
  refine c_word1 153 hF hP hD hS (by decide) rfl (by decide +kernel) (fun H locs hP hD hS => ?_)
  refine lv_dup hF.1 hF.2.1 (by decide +kernel) rfl ?_
  refine lv_bipush (v := 6) hF.1 hF.2.1 (n := 6) (by decide +kernel) (by decide) ?_
  refine lv_iconst (v := 0) hF.1 hF.2.1 (n := 0) (by decide +kernel) (by decide) ?_
  refine c_word1 158 hF hP hD hS (by decide) rfl (by decide +kernel) (fun H locs hP hD hS => ?_)
  refine lv_dup hF.1 hF.2.1 (by decide +kernel) rfl ?_
  refine lv_bipush (v := 7) hF.1 hF.2.1 (n := 7) (by decide +kernel) (by decide) ?_
  refine lv_bipush (v := 103) hF.1 hF.2.1 (n := 103) (by decide +kernel) (by decide) ?_
  refine c_word1 164 hF hP hD hS (by decide) rfl (by decide +kernel) (fun H locs hP hD hS => ?_)
  refine lv_dup hF.1 hF.2.1 (by decide +kernel) rfl ?_
  refine lv_bipush (v := 8) hF.1 hF.2.1 (n := 8) (by decide +kernel) (by decide) ?_
  refine lv_bipush (v := 117) hF.1 hF.2.1 (n := 117) (by decide +kernel) (by decide) ?_
  refine c_word1 170 hF hP hD hS (by decide) rfl (by decide +kernel) (fun H locs hP hD hS => ?_)
  refine lv_dup hF.1 hF.2.1 (by decide +kernel) rfl ?_
  refine lv_bipush (v := 9) hF.1 hF.2.1 (n := 9) (by decide +kernel) (by decide) ?_
  refine lv_bipush (v := 101) hF.1 hF.2.1 (n := 101) (by decide +kernel) (by decide) ?_
  refine c_word1 176 hF hP hD hS (by decide) rfl (by decide +kernel) (fun H locs hP hD hS => ?_)
  refine lv_dup hF.1 hF.2.1 (by decide +kernel) rfl ?_
  refine lv_bipush (v := 10) hF.1 hF.2.1 (n := 10) (by decide +kernel) (by decide) ?_
  refine lv_bipush (v := 115) hF.1 hF.2.1 (n := 115) (by decide +kernel) (by decide) ?_
  refine c_word1 182 hF hP hD hS (by decide) rfl (by decide +kernel) (fun H locs hP hD hS => ?_)
  refine lv_dup hF.1 hF.2.1 (by decide +kernel) rfl ?_
  refine lv_bipush (v := 11) hF.1 hF.2.1 (n := 11) (by decide +kernel) (by decide) ?_
  refine lv_bipush (v := 116) hF.1 hF.2.1 (n := 116) (by decide +kernel) (by decide) ?_
  refine c_word1 188 hF hP hD hS (by decide) rfl (by decide +kernel) (fun H locs hP hD hS => ?_)
  refine lv_dup hF.1 hF.2.1 (by decide +kernel) rfl ?_
  refine lv_bipush (v := 12) hF.1 hF.2.1 (n := 12) (by decide +kernel) (by decide) ?_
  refine lv_bipush (v := 32) hF.1 hF.2.1 (n := 32) (by decide +kernel) (by decide) ?_
  refine c_word1 194 hF hP hD hS (by decide) rfl (by decide +kernel) (fun H locs hP hD hS => ?_)
  refine lv_dup hF.1 hF.2.1 (by decide +kernel) rfl ?_
  refine lv_bipush (v := 13) hF.1 hF.2.1 (n := 13) (by decide +kernel) (by decide) ?_
  refine lv_iconst (v := 0) hF.1 hF.2.1 (n := 0) (by decide +kernel) (by decide) ?_
  refine c_word1 199 hF hP hD hS (by decide) rfl (by decide +kernel) (fun H locs hP hD hS => ?_)
  refine lv_dup hF.1 hF.2.1 (by decide +kernel) rfl ?_
  refine lv_bipush (v := 14) hF.1 hF.2.1 (n := 14) (by decide +kernel) (by decide) ?_
  refine lv_bipush (v := 98) hF.1 hF.2.1 (n := 98) (by decide +kernel) (by decide) ?_
  refine c_word1 205 hF hP hD hS (by decide) rfl (by decide +kernel) (fun H locs hP hD hS => ?_)
  refine lv_dup hF.1 hF.2.1 (by decide +kernel) rfl ?_
  refine lv_bipush (v := 15) hF.1 hF.2.1 (n := 15) (by decide +kernel) (by decide) ?_
  refine lv_bipush (v := 97) hF.1 hF.2.1 (n := 97) (by decide +kernel) (by decide) ?_
  refine c_word1 211 hF hP hD hS (by decide) rfl (by decide +kernel) (fun H locs hP hD hS => ?_)
  refine lv_dup hF.1 hF.2.1 (by decide +kernel) rfl ?_
  refine lv_bipush (v := 16) hF.1 hF.2.1 (n := 16) (by decide +kernel) (by decide) ?_
  refine lv_bipush (v := 114) hF.1 hF.2.1 (n := 114) (by decide +kernel) (by decide) ?_
  refine c_word1 217 hF hP hD hS (by decide) rfl (by decide +kernel) (fun H locs hP hD hS => ?_)
  refine lv_dup hF.1 hF.2.1 (by decide +kernel) rfl ?_
  refine lv_bipush (v := 17) hF.1 hF.2.1 (n := 17) (by decide +kernel) (by decide) ?_
  refine lv_bipush (v := 32) hF.1 hF.2.1 (n := 32) (by decide +kernel) (by decide) ?_
  refine c_word1 223 hF hP hD hS (by decide) rfl (by decide +kernel) (fun H locs hP hD hS => ?_)
  refine lv_dup hF.1 hF.2.1 (by decide +kernel) rfl ?_
  refine lv_bipush (v := 18) hF.1 hF.2.1 (n := 18) (by decide +kernel) (by decide) ?_
  refine lv_iconst (v := 0) hF.1 hF.2.1 (n := 0) (by decide +kernel) (by decide) ?_
  refine c_word1 228 hF hP hD hS (by decide) rfl (by decide +kernel) (fun H locs hP hD hS => ?_)
  refine lv_dup hF.1 hF.2.1 (by decide +kernel) rfl ?_
  refine lv_bipush (v := 19) hF.1 hF.2.1 (n := 19) (by decide +kernel) (by decide) ?_
  refine lv_bipush (v := 104) hF.1 hF.2.1 (n := 104) (by decide +kernel) (by decide) ?_
  refine c_word1 234 hF hP hD hS (by decide) rfl (by decide +kernel) (fun H locs hP hD hS => ?_)
  refine lv_dup hF.1 hF.2.1 (by decide +kernel) rfl ?_
  refine lv_bipush (v := 20) hF.1 hF.2.1 (n := 20) (by decide +kernel) (by decide) ?_
  refine lv_bipush (v := 97) hF.1 hF.2.1 (n := 97) (by decide +kernel) (by decide) ?_
  refine c_word1 240 hF hP hD hS (by decide) rfl (by decide +kernel) (fun H locs hP hD hS => ?_)
  refine lv_dup hF.1 hF.2.1 (by decide +kernel) rfl ?_
  refine lv_bipush (v := 21) hF.1 hF.2.1 (n := 21) (by decide +kernel) (by decide) ?_
  refine lv_bipush (v := 100) hF.1 hF.2.1 (n := 100) (by decide +kernel) (by decide) ?_
  refine c_word1 246 hF hP hD hS (by decide) rfl (by decide +kernel) (fun H locs hP hD hS => ?_)
  refine lv_dup hF.1 hF.2.1 (by decide +kernel) rfl ?_
  refine lv_bipush (v := 22) hF.1 hF.2.1 (n := 22) (by decide +kernel) (by decide) ?_
  refine lv_bipush (v := 32) hF.1 hF.2.1 (n := 32) (by decide +kernel) (by decide) ?_
  refine c_word1 252 hF hP hD hS (by decide) rfl (by decide +kernel) (fun H locs hP hD hS => ?_)
  refine lv_dup hF.1 hF.2.1 (by decide +kernel) rfl ?_
  refine lv_bipush (v := 23) hF.1 hF.2.1 (n := 23) (by decide +kernel) (by decide) ?_
  refine lv_iconst (v := 0) hF.1 hF.2.1 (n := 0) (by decide +kernel) (by decide) ?_
  refine c_word1 257 hF hP hD hS (by decide) rfl (by decide +kernel) (fun H locs hP hD hS => ?_)
  refine lv_dup hF.1 hF.2.1 (by decide +kernel) rfl ?_
  refine lv_bipush (v := 24) hF.1 hF.2.1 (n := 24) (by decide +kernel) (by decide) ?_
  refine lv_bipush (v := 101) hF.1 hF.2.1 (n := 101) (by decide +kernel) (by decide) ?_
  refine c_word1 263 hF hP hD hS (by decide) rfl (by decide +kernel) (fun H locs hP hD hS => ?_)
  refine lv_dup hF.1 hF.2.1 (by decide +kernel) rfl ?_
  refine lv_bipush (v := 25) hF.1 hF.2.1 (n := 25) (by decide +kernel) (by decide) ?_
  refine lv_bipush (v := 121) hF.1 hF.2.1 (n := 121) (by decide +kernel) (by decide) ?_
  refine c_word1 269 hF hP hD hS (by decide) rfl (by decide +kernel) (fun H locs hP hD hS => ?_)
  refine lv_dup hF.1 hF.2.1 (by decide +kernel) rfl ?_
  refine lv_bipush (v := 26) hF.1 hF.2.1 (n := 26) (by decide +kernel) (by decide) ?_
  refine lv_bipush (v := 101) hF.1 hF.2.1 (n := 101) (by decide +kernel) (by decide) ?_
  refine c_word1 275 hF hP hD hS (by decide) rfl (by decide +kernel) (fun H locs hP hD hS => ?_)
  refine lv_dup hF.1 hF.2.1 (by decide +kernel) rfl ?_
  refine lv_bipush (v := 27) hF.1 hF.2.1 (n := 27) (by decide +kernel) (by decide) ?_
  refine lv_bipush (v := 115) hF.1 hF.2.1 (n := 115) (by decide +kernel) (by decide) ?_
  refine c_word1 281 hF hP hD hS (by decide) rfl (by decide +kernel) (fun H locs hP hD hS => ?_)
  refine lv_dup hF.1 hF.2.1 (by decide +kernel) rfl ?_
  refine lv_bipush (v := 28) hF.1 hF.2.1 (n := 28) (by decide +kernel) (by decide) ?_
  refine lv_bipush (v := 32) hF.1 hF.2.1 (n := 32) (by decide +kernel) (by decide) ?_
  refine c_word1 287 hF hP hD hS (by decide) rfl (by decide +kernel) (fun H locs hP hD hS => ?_)
  refine lv_dup hF.1 hF.2.1 (by decide +kernel) rfl ?_
  refine lv_bipush (v := 29) hF.1 hF.2.1 (n := 29) (by decide +kernel) (by decide) ?_
  refine lv_iconst (v := 0) hF.1 hF.2.1 (n := 0) (by decide +kernel) (by decide) ?_
  refine c_word1 292 hF hP hD hS (by decide) rfl (by decide +kernel) (fun H locs hP hD hS => ?_)
  refine lv_dup hF.1 hF.2.1 (by decide +kernel) rfl ?_
  refine lv_bipush (v := 30) hF.1 hF.2.1 (n := 30) (by decide +kernel) (by decide) ?_
  refine lv_bipush (v := 109) hF.1 hF.2.1 (n := 109) (by decide +kernel) (by decide) ?_
  refine c_word1 298 hF hP hD hS (by decide) rfl (by decide +kernel) (fun H locs hP hD hS => ?_)
  refine lv_dup hF.1 hF.2.1 (by decide +kernel) rfl ?_
  refine lv_bipush (v := 31) hF.1 hF.2.1 (n := 31) (by decide +kernel) (by decide) ?_
  refine lv_bipush (v := 111) hF.1 hF.2.1 (n := 111) (by decide +kernel) (by decide) ?_
  refine c_word1 304 hF hP hD hS (by decide) rfl (by decide +kernel) (fun H locs hP hD hS => ?_)
  refine lv_dup hF.1 hF.2.1 (by decide +kernel) rfl ?_
  refine lv_bipush (v := 32) hF.1 hF.2.1 (n := 32) (by decide +kernel) (by decide) ?_
  refine lv_bipush (v := 118) hF.1 hF.2.1 (n := 118) (by decide +kernel) (by decide) ?_
  refine c_word1 310 hF hP hD hS (by decide) rfl (by decide +kernel) (fun H locs hP hD hS => ?_)
  refine lv_dup hF.1 hF.2.1 (by decide +kernel) rfl ?_
  refine lv_bipush (v := 33) hF.1 hF.2.1 (n := 33) (by decide +kernel) (by decide) ?_
  refine lv_bipush (v := 101) hF.1 hF.2.1 (n := 101) (by decide +kernel) (by decide) ?_
  refine c_word1 316 hF hP hD hS (by decide) rfl (by decide +kernel) (fun H locs hP hD hS => ?_)
  refine lv_dup hF.1 hF.2.1 (by decide +kernel) rfl ?_
  refine lv_bipush (v := 34) hF.1 hF.2.1 (n := 34) (by decide +kernel) (by decide) ?_
  refine lv_bipush (v := 32) hF.1 hF.2.1 (n := 32) (by decide +kernel) (by decide) ?_
  refine c_word1 322 hF hP hD hS (by decide) rfl (by decide +kernel) (fun H locs hP hD hS => ?_)
  refine lv_dup hF.1 hF.2.1 (by decide +kernel) rfl ?_
  refine lv_bipush (v := 35) hF.1 hF.2.1 (n := 35) (by decide +kernel) (by decide) ?_
  refine lv_iconst (v := 0) hF.1 hF.2.1 (n := 0) (by decide +kernel) (by decide) ?_
  refine c_word1 327 hF hP hD hS (by decide) rfl (by decide +kernel) (fun H locs hP hD hS => ?_)
  refine c_put (c := 64) (k := 19) (idx := 57) [.int 0, .int (8), .int 0, .int 0, .int 0, .int (1), .int (-1), .ref q1, .ref q2, .ref q3, .ref q4, .ref q5, .ref q6, .ref q7, .ref q8, .ref q9, .ref q10, .ref q11, .ref q12, .ref q13, .null, .int 0, .int 0, .int 0, .int 0, .int 0, .null, .null, .null, .null, .int 0, .null, .null, .int 0, .int 0, .null, .null, .int 0, .null, .null, .int 0, .int 0] 330 hF hi rfl rfl rfl (by decide +kernel) (tyX7_ok 19 (by decide)) rfl rfl hn rfl hP hD hS rfl (by decide +kernel) (fun H locs hn hP hD hS => ?_)
  refine lv_aload_n hF.1 hF.2.1 (k := 0) (i := 0) (x := q) (by decide +kernel) rfl (lv_at hl 0 rfl) ?_
  refine lv_iconst (v := 3) hF.1 hF.2.1 (n := 3) (by decide +kernel) (by decide) ?_
  refine c_ints1 3 334 14 1569 hF kAI hP hD hS (by decide) (by decide +kernel) rfl rfl rfl rfl rfl rfl (by decide +kernel) (fun q14 H hP hD hS => ?_)
  refine c_put (c := 64) (k := 20) (idx := 60) [.int 0, .int (8), .int 0, .int 0, .int 0, .int (1), .int (-1), .ref q1, .ref q2, .ref q3, .ref q4, .ref q5, .ref q6, .ref q7, .ref q8, .ref q9, .ref q10, .ref q11, .ref q12, .ref q13, .ref q14, .int 0, .int 0, .int 0, .int 0, .int 0, .null, .null, .null, .null, .int 0, .null, .null, .int 0, .int 0, .null, .null, .int 0, .null, .null, .int 0, .int 0] 337 hF hi rfl rfl rfl (by decide +kernel) (tyX7_ok 20 (by decide)) rfl rfl hn rfl hP hD hS rfl (by decide +kernel) (fun H locs hn hP hD hS => ?_)
  refine lv_aload_n hF.1 hF.2.1 (k := 0) (i := 0) (x := q) (by decide +kernel) rfl (lv_at hl 0 rfl) ?_
  refine lv_bipush (v := 60) hF.1 hF.2.1 (n := 60) (by decide +kernel) (by decide) ?_
  refine c_ints1 60 342 15 1629 hF kAI hP hD hS (by decide) (by decide +kernel) rfl rfl rfl rfl rfl rfl (by decide +kernel) (fun q15 H hP hD hS => ?_)
  refine c_put (c := 64) (k := 26) (idx := 63) [.int 0, .int (8), .int 0, .int 0, .int 0, .int (1), .int (-1), .ref q1, .ref q2, .ref q3, .ref q4, .ref q5, .ref q6, .ref q7, .ref q8, .ref q9, .ref q10, .ref q11, .ref q12, .ref q13, .ref q14, .int 0, .int 0, .int 0, .int 0, .int 0, .ref q15, .null, .null, .null, .int 0, .null, .null, .int 0, .int 0, .null, .null, .int 0, .null, .null, .int 0, .int 0] 345 hF hi rfl rfl rfl (by decide +kernel) (tyX7_ok 26 (by decide)) rfl rfl hn rfl hP hD hS rfl (by decide +kernel) (fun H locs hn hP hD hS => ?_)
  refine lv_aload_n hF.1 hF.2.1 (k := 0) (i := 0) (x := q) (by decide +kernel) rfl (lv_at hl 0 rfl) ?_
  refine lv_bipush (v := 60) hF.1 hF.2.1 (n := 60) (by decide +kernel) (by decide) ?_
  refine c_ints1 60 350 16 1689 hF kAI hP hD hS (by decide) (by decide +kernel) rfl rfl rfl rfl rfl rfl (by decide +kernel) (fun q16 H hP hD hS => ?_)
  refine c_put (c := 64) (k := 27) (idx := 66) [.int 0, .int (8), .int 0, .int 0, .int 0, .int (1), .int (-1), .ref q1, .ref q2, .ref q3, .ref q4, .ref q5, .ref q6, .ref q7, .ref q8, .ref q9, .ref q10, .ref q11, .ref q12, .ref q13, .ref q14, .int 0, .int 0, .int 0, .int 0, .int 0, .ref q15, .ref q16, .null, .null, .int 0, .null, .null, .int 0, .int 0, .null, .null, .int 0, .null, .null, .int 0, .int 0] 353 hF hi rfl rfl rfl (by decide +kernel) (tyX7_ok 27 (by decide)) rfl rfl hn rfl hP hD hS rfl (by decide +kernel) (fun H locs hn hP hD hS => ?_)
  refine lv_aload_n hF.1 hF.2.1 (k := 0) (i := 0) (x := q) (by decide +kernel) rfl (lv_at hl 0 rfl) ?_
  refine lv_bipush (v := 45) hF.1 hF.2.1 (n := 45) (by decide +kernel) (by decide) ?_
  refine c_ints1 45 358 17 1734 hF kAI hP hD hS (by decide) (by decide +kernel) rfl rfl rfl rfl rfl rfl (by decide +kernel) (fun q17 H hP hD hS => ?_)
  refine c_put (c := 64) (k := 28) (idx := 69) [.int 0, .int (8), .int 0, .int 0, .int 0, .int (1), .int (-1), .ref q1, .ref q2, .ref q3, .ref q4, .ref q5, .ref q6, .ref q7, .ref q8, .ref q9, .ref q10, .ref q11, .ref q12, .ref q13, .ref q14, .int 0, .int 0, .int 0, .int 0, .int 0, .ref q15, .ref q16, .ref q17, .null, .int 0, .null, .null, .int 0, .int 0, .null, .null, .int 0, .null, .null, .int 0, .int 0] 361 hF hi rfl rfl rfl (by decide +kernel) (tyX7_ok 28 (by decide)) rfl rfl hn rfl hP hD hS rfl (by decide +kernel) (fun H locs hn hP hD hS => ?_)
  refine lv_aload_n hF.1 hF.2.1 (k := 0) (i := 0) (x := q) (by decide +kernel) rfl (lv_at hl 0 rfl) ?_
  refine lv_bipush (v := 45) hF.1 hF.2.1 (n := 45) (by decide +kernel) (by decide) ?_
  refine c_ints1 45 366 18 1779 hF kAI hP hD hS (by decide) (by decide +kernel) rfl rfl rfl rfl rfl rfl (by decide +kernel) (fun q18 H hP hD hS => ?_)
  refine c_put (c := 64) (k := 29) (idx := 72) [.int 0, .int (8), .int 0, .int 0, .int 0, .int (1), .int (-1), .ref q1, .ref q2, .ref q3, .ref q4, .ref q5, .ref q6, .ref q7, .ref q8, .ref q9, .ref q10, .ref q11, .ref q12, .ref q13, .ref q14, .int 0, .int 0, .int 0, .int 0, .int 0, .ref q15, .ref q16, .ref q17, .ref q18, .int 0, .null, .null, .int 0, .int 0, .null, .null, .int 0, .null, .null, .int 0, .int 0] 369 hF hi rfl rfl rfl (by decide +kernel) (tyX7_ok 29 (by decide)) rfl rfl hn rfl hP hD hS rfl (by decide +kernel) (fun H locs hn hP hD hS => ?_)
  refine lv_aload_n hF.1 hF.2.1 (k := 0) (i := 0) (x := q) (by decide +kernel) rfl (lv_at hl 0 rfl) ?_
  refine lv_iconst (v := 5) hF.1 hF.2.1 (n := 5) (by decide +kernel) (by decide) ?_
  refine c_ints1 5 373 19 1784 hF kAI hP hD hS (by decide) (by decide +kernel) rfl rfl rfl rfl rfl rfl (by decide +kernel) (fun q19 H hP hD hS => ?_)
  refine c_put (c := 64) (k := 31) (idx := 75) [.int 0, .int (8), .int 0, .int 0, .int 0, .int (1), .int (-1), .ref q1, .ref q2, .ref q3, .ref q4, .ref q5, .ref q6, .ref q7, .ref q8, .ref q9, .ref q10, .ref q11, .ref q12, .ref q13, .ref q14, .int 0, .int 0, .int 0, .int 0, .int 0, .ref q15, .ref q16, .ref q17, .ref q18, .int 0, .ref q19, .null, .int 0, .int 0, .null, .null, .int 0, .null, .null, .int 0, .int 0] 376 hF hi rfl rfl rfl (by decide +kernel) (tyX7_ok 31 (by decide)) rfl rfl hn rfl hP hD hS rfl (by decide +kernel) (fun H locs hn hP hD hS => ?_)
  refine lv_aload_n hF.1 hF.2.1 (k := 0) (i := 0) (x := q) (by decide +kernel) rfl (lv_at hl 0 rfl) ?_
  refine lv_iconst (v := 5) hF.1 hF.2.1 (n := 5) (by decide +kernel) (by decide) ?_
  refine c_ints1 5 380 20 1789 hF kAI hP hD hS (by decide) (by decide +kernel) rfl rfl rfl rfl rfl rfl (by decide +kernel) (fun q20 H hP hD hS => ?_)
  refine c_put (c := 64) (k := 32) (idx := 78) [.int 0, .int (8), .int 0, .int 0, .int 0, .int (1), .int (-1), .ref q1, .ref q2, .ref q3, .ref q4, .ref q5, .ref q6, .ref q7, .ref q8, .ref q9, .ref q10, .ref q11, .ref q12, .ref q13, .ref q14, .int 0, .int 0, .int 0, .int 0, .int 0, .ref q15, .ref q16, .ref q17, .ref q18, .int 0, .ref q19, .ref q20, .int 0, .int 0, .null, .null, .int 0, .null, .null, .int 0, .int 0] 383 hF hi rfl rfl rfl (by decide +kernel) (tyX7_ok 32 (by decide)) rfl rfl hn rfl hP hD hS rfl (by decide +kernel) (fun H locs hn hP hD hS => ?_)
  refine lv_aload_n hF.1 hF.2.1 (k := 0) (i := 0) (x := q) (by decide +kernel) rfl (lv_at hl 0 rfl) ?_
  refine lv_bipush (v := 10) hF.1 hF.2.1 (n := 10) (by decide +kernel) (by decide) ?_
  refine c_ints1 10 388 21 1799 hF kAI hP hD hS (by decide) (by decide +kernel) rfl rfl rfl rfl rfl rfl (by decide +kernel) (fun q21 H hP hD hS => ?_)
  refine c_put (c := 64) (k := 35) (idx := 81) [.int 0, .int (8), .int 0, .int 0, .int 0, .int (1), .int (-1), .ref q1, .ref q2, .ref q3, .ref q4, .ref q5, .ref q6, .ref q7, .ref q8, .ref q9, .ref q10, .ref q11, .ref q12, .ref q13, .ref q14, .int 0, .int 0, .int 0, .int 0, .int 0, .ref q15, .ref q16, .ref q17, .ref q18, .int 0, .ref q19, .ref q20, .int 0, .int 0, .ref q21, .null, .int 0, .null, .null, .int 0, .int 0] 391 hF hi rfl rfl rfl (by decide +kernel) (tyX7_ok 35 (by decide)) rfl rfl hn rfl hP hD hS rfl (by decide +kernel) (fun H locs hn hP hD hS => ?_)
  refine lv_aload_n hF.1 hF.2.1 (k := 0) (i := 0) (x := q) (by decide +kernel) rfl (lv_at hl 0 rfl) ?_
  refine lv_sipush (v := 1024) hF.1 hF.2.1 (n := 1024) (by decide +kernel) (by decide) ?_
  refine c_ints1 1024 397 22 2823 hF kAI hP hD hS (by decide) (by decide +kernel) rfl rfl rfl rfl rfl rfl (by decide +kernel) (fun q22 H hP hD hS => ?_)
  refine c_put (c := 64) (k := 36) (idx := 84) [.int 0, .int (8), .int 0, .int 0, .int 0, .int (1), .int (-1), .ref q1, .ref q2, .ref q3, .ref q4, .ref q5, .ref q6, .ref q7, .ref q8, .ref q9, .ref q10, .ref q11, .ref q12, .ref q13, .ref q14, .int 0, .int 0, .int 0, .int 0, .int 0, .ref q15, .ref q16, .ref q17, .ref q18, .int 0, .ref q19, .ref q20, .int 0, .int 0, .ref q21, .ref q22, .int 0, .null, .null, .int 0, .int 0] 400 hF hi rfl rfl rfl (by decide +kernel) (tyX7_ok 36 (by decide)) rfl rfl hn rfl hP hD hS rfl (by decide +kernel) (fun H locs hn hP hD hS => ?_)
  refine lv_aload_n hF.1 hF.2.1 (k := 0) (i := 0) (x := q) (by decide +kernel) rfl (lv_at hl 0 rfl) ?_
  refine lv_bipush (v := 45) hF.1 hF.2.1 (n := 45) (by decide +kernel) (by decide) ?_
  refine c_ints1 45 405 23 2868 hF kAI hP hD hS (by decide) (by decide +kernel) rfl rfl rfl rfl rfl rfl (by decide +kernel) (fun q23 H hP hD hS => ?_)
  refine c_put (c := 64) (k := 38) (idx := 87) [.int 0, .int (8), .int 0, .int 0, .int 0, .int (1), .int (-1), .ref q1, .ref q2, .ref q3, .ref q4, .ref q5, .ref q6, .ref q7, .ref q8, .ref q9, .ref q10, .ref q11, .ref q12, .ref q13, .ref q14, .int 0, .int 0, .int 0, .int 0, .int 0, .ref q15, .ref q16, .ref q17, .ref q18, .int 0, .ref q19, .ref q20, .int 0, .int 0, .ref q21, .ref q22, .int 0, .ref q23, .null, .int 0, .int 0] 408 hF hi rfl rfl rfl (by decide +kernel) (tyX7_ok 38 (by decide)) rfl rfl hn rfl hP hD hS rfl (by decide +kernel) (fun H locs hn hP hD hS => ?_)
  refine lv_aload_n hF.1 hF.2.1 (k := 0) (i := 0) (x := q) (by decide +kernel) rfl (lv_at hl 0 rfl) ?_
  refine lv_bipush (v := 20) hF.1 hF.2.1 (n := 20) (by decide +kernel) (by decide) ?_
  refine c_ints1 20 413 24 2888 hF kAI hP hD hS (by decide) (by decide +kernel) rfl rfl rfl rfl rfl rfl (by decide +kernel) (fun q24 H hP hD hS => ?_)
  refine c_put (c := 64) (k := 39) (idx := 90) [.int 0, .int (8), .int 0, .int 0, .int 0, .int (1), .int (-1), .ref q1, .ref q2, .ref q3, .ref q4, .ref q5, .ref q6, .ref q7, .ref q8, .ref q9, .ref q10, .ref q11, .ref q12, .ref q13, .ref q14, .int 0, .int 0, .int 0, .int 0, .int 0, .ref q15, .ref q16, .ref q17, .ref q18, .int 0, .ref q19, .ref q20, .int 0, .int 0, .ref q21, .ref q22, .int 0, .ref q23, .ref q24, .int 0, .int 0] 416 hF hi rfl rfl rfl (by decide +kernel) (tyX7_ok 39 (by decide)) rfl rfl hn rfl hP hD hS rfl (by decide +kernel) (fun H locs hn hP hD hS => ?_)
  simp only [List.append_assoc, List.cons_append, List.nil_append] at hP hD
  exact fin (fun i => [q1, q2, q3, q4, q5, q6, q7, q8, q9, q10, q11, q12, q13, q14, q15, q16, q17, q18, q19, q20, q21, q22, q23, q24].getD i 0) _ _ _ _ hP hD hS (by decide +kernel)
