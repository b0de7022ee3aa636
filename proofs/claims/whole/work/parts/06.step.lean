section ZST3
variable {w : zWd} {f : zFr} {o nL d pc : Nat} {cc : ByteArray} {s : zSt} {a : zPV}
theorem zstep_get {i : Nat} (hd : decode cc pc = .ok (.getfield i, 3)) (ha : zaux o (.getfield i) a = true) (hF : zFOK w f o cc nL d) (h : zget a s (zG w f nL (pc + 3))) : zG w f nL pc s := by
  obtain ⟨p, l, e, R, st, m, args, below, meth, c, cells, slots, Q, z⟩ := f
  obtain ⟨hx, hb, hml, hown, hts, hlk, hrm, hsp, hD, hz⟩ := hF
  obtain ⟨L, sk, M⟩ := s
  intro hn H locs ls hP hS hL
  match a, ha, sk, h with
  | .inr (.inr (c1, k)), ha, .inr (.inr (c', j)) :: r, h =>
    obtain ⟨h1, h2, h3⟩ := h
    simp only [Bool.and_eq_true, Nat.beq_eq] at h1
    obtain ⟨rfl, hk0, hkl⟩ := h1
    have hkl := Nat.blt_eq.mp hkl
    obtain ⟨g1, g2, g3, g4⟩ := zobj hk0
    have hat := zcells_at (w := w) (M := M) h2
    rw [zcell_obj hk0] at hat
    refine va_get (C := zR c') (T := zT c') (N := zlen c') (ref := zR c') (index := i) hx hb hts g2 hown hsp.1 hP (zpos c' j) hat g1 k hkl (hts _ (zFL_in ha)) (fun x hx => by rw [zown hk0 hkl] at hx; exact hx) (v := zcv w.2.2.1 (zfv M c' j k)) (by simp [hkl]) hd ?_
    exact h3 hn H locs ls hP hS hL
theorem zstep_put {i : Nat} (hd : decode cc pc = .ok (.putfield i, 3)) (ha : zaux o (.putfield i) a = true) (hF : zFOK w f o cc nL d) (h : zput a s (zG w f nL (pc + 3))) : zG w f nL pc s := by
  obtain ⟨p, l, e, R, st, m, args, below, meth, c, cells, slots, Q, z⟩ := f
  obtain ⟨hx, hb, hml, hown, hts, hlk, hrm, hsp, hD, hz⟩ := hF
  obtain ⟨L, sk, M⟩ := s
  intro hn H locs ls hP hS hL
  match a, ha, sk, h with
  | .inr (.inr (c1, k)), ha, .inl x :: .inr (.inr (c', j)) :: r, h =>
    obtain ⟨h1, h2, h3, h4⟩ := h
    simp only [Bool.and_eq_true, Nat.beq_eq] at h1
    obtain ⟨rfl, hk0, hkl, hfk⟩ := h1
    have hkl := Nat.blt_eq.mp hkl
    obtain ⟨g1, g2, g3, ty, g4⟩ := zobj hk0
    obtain ⟨q1, q2⟩ := zfin hk0 hkl (by omega)
    have hat := zcells_at (w := w) (M := M) h2
    rw [zcell_obj hk0] at hat
    have hty : narrow (zfty c' k) (.int x) = .int x ∧ fits (zfty c' k) (.int x) = true := by
      unfold zfty
      rw [hfk]
      show narrow (bif zbz c' k then FieldType.boolean else .int) (.int x) = .int x ∧ _
      cases hbz : zbz c' k with
      | false => exact ⟨rfl, rfl⟩
      | true =>
        rw [hbz] at h3
        rcases h3 with rfl | rfl <;> exact ⟨by decide +kernel, by decide +kernel⟩
    refine va_put (C := zR c') (T := zT c') (N := zlen c') (ref := zR c') (index := i) hx hb hts g2 ty g4 g3 hown hsp.1 hP (zD_all hD) hS (zpos c' j) hat g1 k hkl (hts _ (zFL_in ha)) (fun x hx => by rw [zown hk0 hkl] at hx; exact hx) q1 q2 (v := .int x) hty.1 hty.2 (by simp [hkl]) hd (fun H1 locs1 hP1 hD1 hS1 => ?_)
    have e1 : zcell w (wrI M c' j (zp (rdI M c' j) k x)) c' j = .inr (zci c', ((List.range (zlen c')).map (fun k => zcv w.2.2.1 (zfv M c' j k))).set k (.int x)) := by
      rw [zcell_obj hk0, zrange_set (g := fun i => zcv w.2.2.1 (zfv (wrI M c' j (zp (rdI M c' j) k x)) c' j i)) (by rw [zfv_wrI hfk]; rfl) (fun i hi => by rw [zfv_wrI_ne hi])]
    rw [← e1, zcells_set h2 (zcell_wrI M c' j _)] at hP1
    exact h4 hn H1 locs1 ls hP1 hS1 hL
  | .inr (.inr (c1, k)), ha, .inr (.inl x) :: .inr (.inr (c', j)) :: r, h =>
    obtain ⟨h1, h2, h4⟩ := h
    simp only [Bool.and_eq_true, Nat.beq_eq] at h1
    obtain ⟨rfl, hk0, hkl, hfk⟩ := h1
    have hkl := Nat.blt_eq.mp hkl
    obtain ⟨g1, g2, g3, ty, g4⟩ := zobj hk0
    obtain ⟨q1, q2⟩ := zfin hk0 hkl (by omega)
    have hat := zcells_at (w := w) (M := M) h2
    rw [zcell_obj hk0] at hat
    have hty : narrow (zfty c' k) (.long x) = .long x ∧ fits (zfty c' k) (.long x) = true := by
      unfold zfty
      rw [hfk]
      exact ⟨rfl, rfl⟩
    refine va_put (C := zR c') (T := zT c') (N := zlen c') (ref := zR c') (index := i) hx hb hts g2 ty g4 g3 hown hsp.1 hP (zD_all hD) hS (zpos c' j) hat g1 k hkl (hts _ (zFL_in ha)) (fun x hx => by rw [zown hk0 hkl] at hx; exact hx) q1 q2 (v := .long x) hty.1 hty.2 (by simp [hkl]) hd (fun H1 locs1 hP1 hD1 hS1 => ?_)
    have e1 : zcell w (wrL M c' j (zp (rdL M c' j) k x)) c' j = .inr (zci c', ((List.range (zlen c')).map (fun k => zcv w.2.2.1 (zfv M c' j k))).set k (.long x)) := by
      rw [zcell_obj hk0, zrange_set (g := fun i => zcv w.2.2.1 (zfv (wrL M c' j (zp (rdL M c' j) k x)) c' j i)) (by rw [zfv_wrL hfk]; rfl) (fun i hi => by rw [zfv_wrL_ne hi])]
    rw [← e1, zcells_set h2 (zcell_wrL M c' j _)] at hP1
    exact h4 hn H1 locs1 ls hP1 hS1 hL
theorem zstep_gets {i : Nat} (hd : decode cc pc = .ok (.getstatic i, 3)) (ha : zaux o (.getstatic i) a = true) (hF : zFOK w f o cc nL d) (h : zpush (.inr (.inr (60, 0))) s (zG w f nL (pc + 3))) : zG w f nL pc s := by
  obtain ⟨p, l, e, R, st, m, args, below, meth, c, cells, slots, Q, z⟩ := f
  obtain ⟨hx, hb, hml, hown, hts, hlk, hrm, hsp, hD, hz⟩ := hF
  intro hn H locs ls hP hS hL
  have ha' : (Nat.beq o 5 && Nat.beq i 52 || Nat.beq o 0 && Nat.beq i 32) = true := ha
  simp only [Bool.or_eq_true, Bool.and_eq_true, Nat.beq_eq] at ha'
  have hl : (Cond.fieldLinkNest (zN o) i RX6 "LINES" "[I" RX6).before args st = true := by
    rcases ha' with ⟨rfl, rfl⟩ | ⟨rfl, rfl⟩
    · exact va_Nw.use rfl (hsp.2.2.2.1 _ (List.mem_of_getElem? (i := 4) rfl))
    · exact va_Nw.use rfl (hsp.2.2.2.1 _ (List.mem_of_getElem? (i := 5) rfl))
  exact va_getsN hx hb hsp.2.1 hS hown hl (fun _ h9 => h9) hd (h hn H locs ls hP hS hL)
theorem zstep_ldcS {i : Nat} (hd : decode cc pc = .ok (.ldc i, 2)) {q : Nat × Nat} (ha : zaux o (.ldc i) (.inr (.inr q)) = true) (hF : zFOK w f o cc nL d) (h : zpush (.inr (.inr (61, q.2))) s (zG w f nL (pc + 2))) : zG w f nL pc s := by
  obtain ⟨p, l, e, R, st, m, args, below, meth, c, cells, slots, Q, z⟩ := f
  obtain ⟨hx, hb, hml, hown, hts, hlk, hrm, hsp, hD, hz⟩ := hF
  intro hn H locs ls hP hS hL
  obtain ⟨q0, k⟩ := q
  have ha' : (Nat.beq o 3 && (Nat.blt k 6 && Nat.beq ([33, 46, 51, 65, 70, 75].getD k 0) i)) = true := ha
  simp only [Bool.and_eq_true, Nat.beq_eq] at ha'
  obtain ⟨rfl, hk, hi⟩ := ha'
  have hr := hsp.2.2.2.2.2.1 k (Nat.blt_eq.mp hk)
  have hi : zsi k = i := hi
  rw [hi] at hr
  exact va_ldcS hx hb (own := RX3) hown hr hd (h hn H locs ls hP hS hL)
theorem zbeq {a b : Nat} (h : Nat.beq a b = true) : a = b := Nat.beq_eq.mp h
theorem zstep_iald (hd : decode cc pc = .ok (.iaload, 1)) (hF : zFOK w f o cc nL d) (h : ziald f.2.2.2.2.2.2.2.2.2.2.2.2.2 s (zG w f nL (pc + 1))) : zG w f nL pc s := by
  obtain ⟨p, l, e, R, st, m, args, below, meth, c, cells, slots, Q, z⟩ := f
  obtain ⟨hx, hb, hml, hown, hts, hlk, hrm, hsp, hD, hz⟩ := hF
  obtain ⟨L, sk, M⟩ := s
  intro hn H locs ls hP hS hL
  match sk, h with
  | .inl i :: .inr (.inr (c1, j)) :: r, h =>
    unfold ziald at h
    dsimp only at h
    cases h60 : Nat.beq c1 60 with
    | true =>
      rw [h60, cond_true] at h
      have e60 := zbeq h60
      subst e60
      obtain ⟨h1, h2, h3⟩ := h
      have e0 := zbeq h1
      subst e0
      exact va_ti hx hb hsp.2.2.1 hS (zinb h2) rfl hd (h3 hn H locs ls hP hS hL)
    | false =>
      rw [h60, cond_false] at h
      cases h63 : Nat.beq c1 63 with
      | true =>
        rw [h63, cond_true] at h
        have e63 := zbeq h63
        subst e63
        obtain ⟨h1, h2, h3, h4⟩ := h
        have e0 := zbeq h1
        subst e0
        obtain ⟨g1, g2, g3⟩ := hz h2
        exact va_sld hx hb g1 g2 g3 hS (zinb h3) hd (h4 hn H locs ls hP hS hL)
      | false =>
        rw [h63, cond_false] at h
        obtain ⟨h1, h2, h3, h4⟩ := h
        have hk := zbeq h1
        have hat := zcells_at (w := w) (M := M) h2
        rw [zcell_int hk] at hat
        exact va_iald hx hb hsp.1 hP (zpos c1 j) 0 hat rfl (zinb h3) hd (h4 hn H locs ls hP hS hL)
theorem zstep_lald (hd : decode cc pc = .ok (.laload, 1)) (hF : zFOK w f o cc nL d) (h : zlald s (zG w f nL (pc + 1))) : zG w f nL pc s := by
  obtain ⟨p, l, e, R, st, m, args, below, meth, c, cells, slots, Q, z⟩ := f
  obtain ⟨hx, hb, hml, hown, hts, hlk, hrm, hsp, hD, hz⟩ := hF
  obtain ⟨L, sk, M⟩ := s
  intro hn H locs ls hP hS hL
  match sk, h with
  | .inl i :: .inr (.inr (c1, j)) :: r, h =>
    obtain ⟨h1, h2, h3, h4⟩ := h
    have hk := zbeq h1
    have hat := zcells_at (w := w) (M := M) h2
    rw [zcell_long hk] at hat
    exact va_lald hx hb hsp.1 hP (zpos c1 j) 1 hat rfl (zinb h3) hd (h4 hn H locs ls hP hS hL)
theorem zstep_aald (hd : decode cc pc = .ok (.aaload, 1)) (hF : zFOK w f o cc nL d) (h : zaald s (zG w f nL (pc + 1))) : zG w f nL pc s := by
  obtain ⟨p, l, e, R, st, m, args, below, meth, c, cells, slots, Q, z⟩ := f
  obtain ⟨hx, hb, hml, hown, hts, hlk, hrm, hsp, hD, hz⟩ := hF
  obtain ⟨L, sk, M⟩ := s
  intro hn H locs ls hP hS hL
  match sk, h with
  | .inl i :: .inr (.inr (c1, j)) :: r, h =>
    obtain ⟨h1, h3, h4⟩ := h
    simp only [Bool.and_eq_true, Nat.beq_eq] at h1
    obtain ⟨rfl, rfl⟩ := h1
    have hat := zcells_at (w := w) (M := M) (c := 7) (j := 0) rfl
    have e7 : zcell w M 7 0 = .inl (w.2.1.2.2, 8, .inr (.inr (.inr (.inr (fun i => some (w.2.2.1 8 i)))))) := rfl
    rw [e7] at hat
    exact va_aldq (C := "NoArmsCrossed$Shelf") hx hb hsp.1 hP (zpos 7 0) 2 hat rfl (zinb h3) hd (h4 hn H locs ls hP hS hL)
theorem zstep_iast (hd : decode cc pc = .ok (.iastore, 1)) (hF : zFOK w f o cc nL d) (h : ziast s (zG w f nL (pc + 1))) : zG w f nL pc s := by
  obtain ⟨p, l, e, R, st, m, args, below, meth, c, cells, slots, Q, z⟩ := f
  obtain ⟨hx, hb, hml, hown, hts, hlk, hrm, hsp, hD, hz⟩ := hF
  obtain ⟨L, sk, M⟩ := s
  intro hn H locs ls hP hS hL
  match sk, h with
  | .inl x :: .inl i :: .inr (.inr (c1, j)) :: r, h =>
    obtain ⟨h1, h2, h3, h4⟩ := h
    have hk := zbeq h1
    have hat := zcells_at (w := w) (M := M) h2
    rw [zcell_int hk] at hat
    refine va_iast hx hb hsp.1 hP (zD_all hD) hS (zpos c1 j) 0 hat rfl (zinb h3) hd (fun H1 locs1 hP1 hD1 hS1 => ?_)
    have e1 : zcell w (wrI M c1 j (zp (rdI M c1 j) (ix i) x)) c1 j = .inl (w.2.1.1, zlen c1, .inl (upd (rdI M c1 j) i.toNatClampNeg x)) := by
      rw [zcell_int hk, rdI_wrI]; rfl
    rw [← e1, zcells_set h2 (zcell_wrI M c1 j _)] at hP1
    exact h4 hn H1 locs1 ls hP1 hS1 hL
theorem zstep_last (hd : decode cc pc = .ok (.lastore, 1)) (hF : zFOK w f o cc nL d) (h : zlast s (zG w f nL (pc + 1))) : zG w f nL pc s := by
  obtain ⟨p, l, e, R, st, m, args, below, meth, c, cells, slots, Q, z⟩ := f
  obtain ⟨hx, hb, hml, hown, hts, hlk, hrm, hsp, hD, hz⟩ := hF
  obtain ⟨L, sk, M⟩ := s
  intro hn H locs ls hP hS hL
  match sk, h with
  | .inr (.inl x) :: .inl i :: .inr (.inr (c1, j)) :: r, h =>
    obtain ⟨h1, h2, h3, h4⟩ := h
    have hk := zbeq h1
    have hat := zcells_at (w := w) (M := M) h2
    rw [zcell_long hk] at hat
    refine va_last hx hb hsp.1 hP (zD_all hD) hS (zpos c1 j) 1 hat rfl (zinb h3) hd (fun H1 locs1 hP1 hD1 hS1 => ?_)
    have e1 : zcell w (wrL M c1 j (zp (rdL M c1 j) (ix i) x)) c1 j = .inl (w.2.1.2.1, zlen c1, .inr (.inl (vp_updL (rdL M c1 j) i.toNatClampNeg x))) := by
      rw [zcell_long hk, rdL_wrL]; rfl
    rw [← e1, zcells_set h2 (zcell_wrL M c1 j _)] at hP1
    exact h4 hn H1 locs1 ls hP1 hS1 hL
theorem zstep_alen (hd : decode cc pc = .ok (.arraylength, 1)) (hF : zFOK w f o cc nL d) (h : zalen f.2.2.2.2.2.2.2.2.2.2.2.2.2 s (zG w f nL (pc + 1))) : zG w f nL pc s := by
  obtain ⟨p, l, e, R, st, m, args, below, meth, c, cells, slots, Q, z⟩ := f
  obtain ⟨hx, hb, hml, hown, hts, hlk, hrm, hsp, hD, hz⟩ := hF
  obtain ⟨L, sk, M⟩ := s
  intro hn H locs ls hP hS hL
  match sk, h with
  | .inr (.inr (c1, j)) :: r, h =>
    obtain ⟨h1, h2, h4⟩ := h
    simp only [Bool.and_eq_true, Nat.beq_eq] at h1
    obtain ⟨rfl, rfl⟩ := h1
    obtain ⟨g1, g2, g3⟩ := hz h2
    exact va_slen hx hb g1 g2 g3 hS hd (h4 hn H locs ls hP hS hL)
theorem zMX_in {o i k : Nat} (h : zMX.any (fun q => Nat.beq q.1 o && (Nat.beq q.2.1 i && Nat.beq q.2.2.1 k)) = true) : Cond.methodLink (zN o) i (bif Nat.beq k 0 then Lib.Math.max.name else Lib.Math.min.name) ∈ zGW := by
  obtain ⟨q, hq, h⟩ := List.any_eq_true.mp h
  simp only [Bool.and_eq_true, Nat.beq_eq] at h
  obtain ⟨h1, h2, h3⟩ := h
  obtain ⟨a, b, c', d⟩ := q
  dsimp only at h1 h2 h3
  subst h1 h2 h3
  exact zgw (List.mem_of_getElem? (zMX_ok _ hq)) rfl
theorem zAC_in {o i : Nat} (h : zAC.any (fun q => Nat.beq q.1 o && Nat.beq q.2.1 i) = true) : Cond.methodLink (zN o) i arraycopyName ∈ zGW := by
  obtain ⟨q, hq, h⟩ := List.any_eq_true.mp h
  simp only [Bool.and_eq_true, Nat.beq_eq] at h
  obtain ⟨h1, h2⟩ := h
  obtain ⟨a, b, c'⟩ := q
  dsimp only at h1 h2
  subst h1 h2
  exact zgw (List.mem_of_getElem? (zAC_ok _ hq)) rfl
theorem zstep_sys {i : Nat} (hd : decode cc pc = .ok (.invokestatic i, 3)) (ha : zaux o (.invokestatic i) a = true) (hF : zFOK w f o cc nL d) (h : zsys a s (zG w f nL (pc + 3))) : zG w f nL pc s := by
  obtain ⟨p, l, e, R, st, m, args, below, meth, c, cells, slots, Q, z⟩ := f
  obtain ⟨hx, hb, hml, hown, hts, hlk, ⟨r1, r2, r3, r4, r5⟩, hsp, hD, hz⟩ := hF
  have r3 : 100 * d ≤ R.locals := r3
  have r2 : d ≤ R.frames := r2
  obtain ⟨L, sk, M⟩ := s
  intro hn H locs ls hP hS hL
  match a, ha, sk, h with
  | .inr (.inr (200, k)), ha, .inl y :: .inl x :: r, h =>
    obtain ⟨h1, h2⟩ := h
    have hln := Nat.le_of_ble_eq_true h1
    have hsum := zcat_sum (ad := w.2.2.1) r
    have hin := zMX_in ha
    cases hk : Nat.beq k 0 with
    | true =>
      rw [hk] at hin h2
      exact va_mmax hx hb (hml.trans hL.1.symm) hown (hts _ hin) (hts _ zmath_in.1) (hts _ zmath_in.2.1) (hts _ zmath_in.2.2.1) (by omega) (by omega) r4 r5 hd (h2 hn H locs ls hP hS hL)
    | false =>
      rw [hk] at hin h2
      exact va_mmin hx hb (hml.trans hL.1.symm) hown (hts _ hin) (hts _ zmath_in.2.2.2.1) (hts _ zmath_in.2.1) (hts _ zmath_in.2.2.2.2) (by omega) (by omega) r4 r5 hd (h2 hn H locs ls hP hS hL)
  | .inr (.inr (201, k)), ha, .inl n :: .inl dp :: .inr (.inr (c1, j1)) :: .inl sp :: .inr (.inr (c0, j0)) :: r, h =>
    obtain ⟨h1, ⟨h2, h3⟩, h4, ⟨h5, h6⟩, h7⟩ := h
    have hln := Nat.le_of_ble_eq_true h1
    have hsum := zcat_sum (ad := w.2.2.1) r
    have hin := zAC_in ha
    simp only [Bool.and_eq_true, decide_eq_true_eq] at h4
    obtain ⟨p1, p2, p3⟩ := h4
    have nf : nativeFrameWords "java/lang/System" "arraycopy" 5 + 11 ≤ 90 := by decide +kernel
    cases hk0 : Nat.beq (zkd c0) 1 with
    | true =>
      rw [hk0, cond_true] at h7
      obtain ⟨hk1, h7⟩ := h7
      have hat0 := zcells_at (w := w) (M := M) h3
      rw [zcell_int (zbeq hk0)] at hat0
      have hat1 := zcells_at (w := w) (M := M) h2
      rw [zcell_int (zbeq hk1)] at hat1
      refine va_copyi (ty := .int) hx hb (hml.trans hL.1.symm) hown (hts _ hin) (hts _ zcopy_in.1) (hts _ zcopy_in.2.1) (hts _ zcopy_in.2.2) hsp.1 hP (zD_all hD) hS (zpos c0 j0) (zpos c1 j1) 0 0 hat0 hat1 rfl rfl rfl p3 p2 p1 (Nat.le_of_ble_eq_true h5) (Nat.le_of_ble_eq_true h6) (fun _ _ => rfl) (by omega) (by omega) hd (fun H1 locs1 hP1 hD1 hS1 => ?_)
      have e1 : zcell w (wrI M c1 j1 (va_cpy (rdI M c0 j0) (rdI M c1 j1) (ix sp) (ix dp) (ix n))) c1 j1 = .inl (w.2.1.1, zlen c1, .inl (va_cpy (rdI M c0 j0) (rdI M c1 j1) (ix sp) (ix dp) (ix n))) := by
        rw [zcell_int (zbeq hk1), rdI_wrI]
      rw [← e1, zcells_set h2 (zcell_wrI M c1 j1 _)] at hP1
      exact h7 hn H1 locs1 ls hP1 hS1 hL
    | false =>
      rw [hk0, cond_false] at h7
      obtain ⟨hk0, hk1, h7⟩ := h7
      have hat0 := zcells_at (w := w) (M := M) h3
      rw [zcell_long (zbeq hk0)] at hat0
      have hat1 := zcells_at (w := w) (M := M) h2
      rw [zcell_long (zbeq hk1)] at hat1
      refine va_copyl (ty := .long) hx hb (hml.trans hL.1.symm) hown (hts _ hin) (hts _ zcopy_in.1) (hts _ zcopy_in.2.1) (hts _ zcopy_in.2.2) hsp.1 hP (zD_all hD) hS (zpos c0 j0) (zpos c1 j1) 1 1 hat0 hat1 rfl rfl rfl p3 p2 p1 (Nat.le_of_ble_eq_true h5) (Nat.le_of_ble_eq_true h6) (fun _ _ => rfl) (by omega) (by omega) hd (fun H1 locs1 hP1 hD1 hS1 => ?_)
      have e1 : zcell w (wrL M c1 j1 (va_cpy (rdL M c0 j0) (rdL M c1 j1) (ix sp) (ix dp) (ix n))) c1 j1 = .inl (w.2.1.2.1, zlen c1, .inr (.inl (va_cpy (rdL M c0 j0) (rdL M c1 j1) (ix sp) (ix dp) (ix n)))) := by
        rw [zcell_long (zbeq hk1), rdL_wrL]
      rw [← e1, zcells_set h2 (zcell_wrL M c1 j1 _)] at hP1
      exact h7 hn H1 locs1 ls hP1 hS1 hL
end ZST3
