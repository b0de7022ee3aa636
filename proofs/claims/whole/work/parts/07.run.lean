section ZMONO
variable {z : zScr} {a : zPV} {s : zSt} {K K' : zSt → Prop}
theorem zldI_mono {k : Nat} (e : ∀ s', K s' → K' s') (h : zldI k s K) : zldI k s K' := by
  unfold zldI at h ⊢
  generalize s.1.getD k none = v at h ⊢
  match v, h with
  | some (.inl x), h => exact e _ h
theorem zldL_mono {k : Nat} (e : ∀ s', K s' → K' s') (h : zldL k s K) : zldL k s K' := by
  unfold zldL at h ⊢
  generalize s.1.getD k none = v at h ⊢
  match v, h with
  | some (.inr (.inl x)), h => exact e _ h
theorem zldR_mono {k : Nat} (e : ∀ s', K s' → K' s') (h : zldR k s K) : zldR k s K' := by
  unfold zldR at h ⊢
  generalize s.1.getD k none = v at h ⊢
  match v, h with
  | some (.inr (.inr x)), h => exact e _ h
theorem zinc_mono {k : Nat} (e : ∀ s', K s' → K' s') (h : zinc k a s K) : zinc k a s K' := by
  unfold zinc at h ⊢
  generalize s.1.getD k none = v at h ⊢
  match a, v, h with
  | .inl y, some (.inl x), h => exact ⟨h.1, e _ h.2⟩
theorem zw1_mono {i : Instr} (e : ∀ s', K s' → K' s') (h : zw1 z i a s K) : zw1 z i a s K' := by
  obtain ⟨L, sk, M⟩ := s
  cases i <;> try exact False.elim h
  case iconst v => exact e _ h
  case bipush v => exact e _ h
  case sipush v => exact e _ h
  case lconst v => exact e _ h
  case ldc v => exact e _ h
  case ldc_w v => exact e _ h
  case ldc2_w v => exact e _ h
  case getstatic i => exact e _ h
  all_goals first
    | (unfold zw1 at h ⊢
       first
       | exact zldI_mono e h
       | exact zldL_mono e h
       | exact zldR_mono e h
       | exact zinc_mono e h
       | (unfold z2I at h ⊢; dsimp only at h ⊢; split at h <;> first | exact e _ h | exact h.elim)
       | (unfold z1I at h ⊢; dsimp only at h ⊢; split at h <;> first | exact e _ h | exact h.elim)
       | (unfold z2L at h ⊢; dsimp only at h ⊢; split at h <;> first | exact e _ h | exact h.elim)
       | (unfold zLI at h ⊢; dsimp only at h ⊢; split at h <;> first | exact e _ h | exact h.elim)
       | (unfold zcmp at h ⊢; dsimp only at h ⊢; split at h <;> first | exact e _ h | exact h.elim)
       | (unfold zi2l at h ⊢; dsimp only at h ⊢; split at h <;> first | exact e _ h | exact h.elim)
       | (unfold zl2i at h ⊢; dsimp only at h ⊢; split at h <;> first | exact e _ h | exact h.elim)
       | (unfold z2D at h ⊢; dsimp only at h ⊢; split at h <;> first | exact ⟨h.1, e _ h.2⟩ | exact h.elim)
       | (unfold zstI at h ⊢; dsimp only at h ⊢; split at h <;> first | exact ⟨h.1, e _ h.2⟩ | exact h.elim)
       | (unfold zstL at h ⊢; dsimp only at h ⊢; split at h <;> first | exact ⟨h.1, e _ h.2⟩ | exact h.elim)
       | (unfold zstR at h ⊢; dsimp only at h ⊢; split at h <;> first | exact ⟨h.1, e _ h.2⟩ | exact h.elim)
       | (unfold zdup at h ⊢; dsimp only at h ⊢; split at h <;> first | exact ⟨h.1, e _ h.2⟩ | exact h.elim)
       | (unfold zdupx at h ⊢; dsimp only at h ⊢; split at h <;> first | exact ⟨h.1, e _ h.2⟩ | exact h.elim)
       | (unfold zdup2 at h ⊢; dsimp only at h ⊢; split at h <;> first | exact ⟨h.1, e _ h.2⟩ | exact h.elim)
       | (unfold zpop at h ⊢; dsimp only at h ⊢; split at h <;> first | exact ⟨h.1, e _ h.2⟩ | exact h.elim)
       | (unfold zpop2 at h ⊢; dsimp only at h ⊢; split at h <;> first | exact ⟨h.1, e _ h.2⟩ | exact h.elim)
       | (unfold zget at h ⊢; dsimp only at h ⊢; split at h <;> first | exact ⟨h.1, h.2.1, e _ h.2.2⟩ | exact h.elim)
       | (unfold zlald at h ⊢; dsimp only at h ⊢; split at h <;> first | exact ⟨h.1, h.2.1, h.2.2.1, e _ h.2.2.2⟩ | exact h.elim)
       | (unfold zaald at h ⊢; dsimp only at h ⊢; split at h <;> first | exact ⟨h.1, h.2.1, e _ h.2.2⟩ | exact h.elim)
       | (unfold ziast at h ⊢; dsimp only at h ⊢; split at h <;> first | exact ⟨h.1, h.2.1, h.2.2.1, e _ h.2.2.2⟩ | exact h.elim)
       | (unfold zlast at h ⊢; dsimp only at h ⊢; split at h <;> first | exact ⟨h.1, h.2.1, h.2.2.1, e _ h.2.2.2⟩ | exact h.elim)
       | (unfold zalen at h ⊢; dsimp only at h ⊢; split at h <;> first | exact ⟨h.1, h.2.1, e _ h.2.2⟩ | exact h.elim)
       | (unfold zput at h ⊢; dsimp only at h ⊢; split at h <;> first | exact ⟨h.1, h.2.1, h.2.2.1, e _ h.2.2.2⟩ | exact ⟨h.1, h.2.1, e _ h.2.2⟩ | exact h.elim)
       | (unfold ziald at h ⊢; dsimp only at h ⊢; split at h
          · rename_i i c j st
            cases h60 : Nat.beq c 60 <;> rw [h60] at h <;> dsimp only [cond_true, cond_false] at h ⊢
            · cases h63 : Nat.beq c 63 <;> rw [h63] at h <;> dsimp only [cond_true, cond_false] at h ⊢
              · exact ⟨h.1, h.2.1, h.2.2.1, e _ h.2.2.2⟩
              · exact ⟨h.1, h.2.1, h.2.2.1, e _ h.2.2.2⟩
            · exact ⟨h.1, h.2.1, e _ h.2.2⟩
          · exact h.elim)
       | (unfold zsys at h ⊢; dsimp only at h ⊢; split at h
          · exact ⟨h.1, e _ h.2⟩
          · rename_i c1 j1 _ c0 j0 _
            obtain ⟨h1, h2, h3, h4, h5⟩ := h
            refine ⟨h1, h2, h3, h4, ?_⟩
            cases hk : Nat.beq (zkd _) 1 <;> rw [hk] at h5 <;> dsimp only [cond_true, cond_false] at h5 ⊢
            · exact ⟨h5.1, h5.2.1, e _ h5.2.2⟩
            · exact ⟨h5.1, e _ h5.2⟩
          · exact h.elim))
end ZMONO
section ZSTEPS
variable {w : zWd} {f : zFr} {o nL d pc : Nat} {cc : ByteArray} {s : zSt} {a : zPV}
set_option maxHeartbeats 4000000 in
theorem zstep {i : Instr} (hd : decode cc pc = .ok (i, zil i)) (ha : zaux o i a = true) (hF : zFOK w f o cc nL d) (h : zw1 f.2.2.2.2.2.2.2.2.2.2.2.2.2 i a s (zG w f nL (pc + zil i))) : zG w f nL pc s := by
  cases i <;> try exact False.elim h
  case iconst v => exact match a, ha, h with
    | .inl x, ha, h => zstep_push (n := 1) (v := .inl x) (fun hx hb _ _ _ _ k => lv_iconst hx hb hd (of_decide_eq_true ha) k) hF h
  case bipush v => exact match a, ha, h with
    | .inl x, ha, h => zstep_push (n := 2) (v := .inl x) (fun hx hb _ _ _ _ k => lv_bipush hx hb hd (of_decide_eq_true ha) k) hF h
  case sipush v => exact match a, ha, h with
    | .inl x, ha, h => zstep_push (n := 3) (v := .inl x) (fun hx hb _ _ _ _ k => lv_sipush hx hb hd (of_decide_eq_true ha) k) hF h
  case lconst v => exact match a, ha, h with
    | .inr (.inl x), ha, h => zstep_push (n := 1) (v := .inr (.inl x)) (fun hx hb _ _ _ _ k => lv_lconst hx hb hd (of_decide_eq_true ha) k) hF h
  case ldc v => exact match a, ha, h with
    | .inl x, ha, h => zstep_push (n := 2) (v := .inl x) (fun hx hb ho ht _ _ k => lv_ldc hx hb ho (ht _ (zCI_in ha)) hd k) hF h
    | .inr (.inr q), ha, h => zstep_ldcS hd ha hF h
  case ldc_w v => exact match a, ha, h with
    | .inl x, ha, h => zstep_push (n := 3) (v := .inl x) (fun hx hb ho ht _ _ k => lv_ldcw hx hb ho (ht _ (zCI_in ha)) hd k) hF h
  case ldc2_w v => exact match a, ha, h with
    | .inr (.inl x), ha, h => zstep_push (n := 3) (v := .inr (.inl x)) (fun hx hb ho ht _ _ k => lv_ldc2 hx hb ho (ht _ (zCL_in ha)) hd k) hF h
  case iload_n k => exact zstep_ldI (n := 1) (fun hx hb hl q => lv_iload_n hx hb hd rfl hl q) hF h
  case iload k => exact zstep_ldI (n := 2) (fun hx hb hl q => lv_iload hx hb hd hl q) hF h
  case lload_n k => exact zstep_ldL (n := 1) (fun hx hb hl q => lv_lload_n hx hb hd rfl hl q) hF h
  case lload k => exact zstep_ldL (n := 2) (fun hx hb hl q => lv_lload hx hb hd hl q) hF h
  case aload_n k => exact zstep_ldR (n := 1) (fun hx hb hl q => lv_aload_n hx hb hd rfl hl q) hF h
  case aload k => exact zstep_ldR (n := 2) (fun hx hb hl q => lv_aload hx hb hd hl q) hF h
  case istore_n k => exact zstep_stI (n := 1) (fun hx hb hl hk e q => lv_istore_n hx hb hd rfl hl hk e q) hF h
  case istore k => exact zstep_stI (n := 2) (fun hx hb hl hk e q => lv_istore hx hb hd hl hk e q) hF h
  case lstore_n k => exact zstep_stL (n := 1) (fun hx hb hl hk e q => lv_lstore_n hx hb hd rfl hl hk e q) hF h
  case lstore k => exact zstep_stL (n := 2) (fun hx hb hl hk e q => lv_lstore hx hb hd hl hk e q) hF h
  case astore_n k => exact zstep_stR (n := 1) (fun hx hb hl hk e q => lv_astore_n hx hb hd rfl hl hk e q) hF h
  case astore k => exact zstep_stR (n := 2) (fun hx hb hl hk e q => lv_astore hx hb hd hl hk e q) hF h
  case iinc k v => exact match a, ha, h with
    | .inl x, ha, h => zstep_inc hd (of_decide_eq_true ha) hF h
  case dup => exact zstep_dup hd hF h
  case dup_x1 => exact zstep_dupx hd hF h
  case dup2 => exact zstep_dup2 hd hF h
  case pop => exact zstep_pop hd hF h
  case pop2 => exact zstep_pop2 hd hF h
  case iadd => exact zstep_z2I (i := .iadd) (fun hx hb k => lv_iadd hx hb hd k) hF h
  case isub => exact zstep_z2I (i := .iadd) (fun hx hb k => lv_isub hx hb hd k) hF h
  case imul => exact zstep_z2I (i := .iadd) (fun hx hb k => lv_imul hx hb hd k) hF h
  case iand => exact zstep_z2I (i := .iadd) (fun hx hb k => lv_iand hx hb hd k) hF h
  case ior => exact zstep_z2I (i := .iadd) (fun hx hb k => lv_ior hx hb hd k) hF h
  case ixor => exact zstep_z2I (i := .iadd) (fun hx hb k => lv_ixor hx hb hd k) hF h
  case ishl => exact zstep_z2I (i := .iadd) (fun hx hb k => lv_ishl hx hb hd k) hF h
  case ishr => exact zstep_z2I (i := .iadd) (fun hx hb k => lv_ishr hx hb hd k) hF h
  case iushr => exact zstep_z2I (i := .iadd) (op := jushr) (fun hx hb k => lv_iushr hx hb hd rfl k) hF h
  case idiv => exact zstep_z2D (fun hx hb hn k => lv_idiv hx hb hd hn k) hF h
  case irem => exact zstep_z2D (op := jrem) (fun hx hb hn k => lv_irem hx hb hd hn k) hF h
  case ineg => exact zstep_z1I (fun hx hb k => lv_ineg hx hb hd k) hF h
  case i2b => exact zstep_z1I (op := jb) (fun hx hb k => lv_i2b hx hb hd rfl k) hF h
  case i2s => exact zstep_z1I (op := js) (fun hx hb k => lv_i2s hx hb hd rfl k) hF h
  case ladd => exact zstep_z2L (fun hx hb k => lv_ladd hx hb hd k) hF h
  case lsub => exact zstep_z2L (fun hx hb k => lv_lsub hx hb hd k) hF h
  case land => exact zstep_z2L (fun hx hb k => lv_land hx hb hd k) hF h
  case lor => exact zstep_z2L (fun hx hb k => lv_lor hx hb hd k) hF h
  case lxor => exact zstep_z2L (fun hx hb k => lv_lxor hx hb hd k) hF h
  case lshl => exact zstep_zLI (op := jlshl) (fun hx hb k => lv_lshl hx hb hd rfl k) hF h
  case lshr => exact zstep_zLI (op := jlshr) (fun hx hb k => lv_lshr hx hb hd rfl k) hF h
  case lushr => exact zstep_zLI (op := jlushr) (fun hx hb k => lv_lushr hx hb hd rfl k) hF h
  case lcmp => exact zstep_cmp hd hF h
  case i2l => exact zstep_i2l hd hF h
  case l2i => exact zstep_l2i hd hF h
  case getfield i => exact zstep_get hd ha hF h
  case putfield i => exact zstep_put hd ha hF h
  case getstatic i => exact zstep_gets hd ha hF h
  case iaload => exact zstep_iald hd hF h
  case laload => exact zstep_lald hd hF h
  case aaload => exact zstep_aald hd hF h
  case iastore => exact zstep_iast hd hF h
  case lastore => exact zstep_last hd hF h
  case arraylength => exact zstep_alen hd hF h
  case invokestatic i => exact zstep_sys hd ha hF h
/-- a straight stretch -/
theorem zrun (hF : zFOK w f o cc nL d) : ∀ (ops : List zOp) (pc : Nat) (s : zSt), zcode o cc pc ops = true → zwB f.2.2.2.2.2.2.2.2.2.2.2.2.2 ops s (zG w f nL (pc + zlenB ops)) → zG w f nL pc s := by
  intro ops
  induction ops with
  | nil => intro pc s _ h; exact h
  | cons q r ih =>
    intro pc s hc h
    obtain ⟨i, n, a⟩ := q
    simp only [zcode, Bool.and_eq_true, decide_eq_true_eq, Nat.beq_eq] at hc
    obtain ⟨h1, ⟨h2, h3⟩, h4⟩ := hc
    subst h2
    refine zstep h1 h3 hF ?_
    have e : ∀ s', zwB f.2.2.2.2.2.2.2.2.2.2.2.2.2 r s' (zG w f nL (pc + zlenB ((i, zil i, a) :: r))) → zG w f nL (pc + zil i) s' := fun s' h' => ih (pc + zil i) s' h4 (by rw [show pc + zil i + zlenB r = pc + zlenB ((i, zil i, a) :: r) from Nat.add_assoc _ _ _]; exact h')
    exact zw1_mono e h
end ZSTEPS
