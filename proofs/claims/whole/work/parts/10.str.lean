section ZSTRW
def zMetR (w : zWd) (l : Launch) (d : Nat) (y : MethodName) (b : ByteArray) (nL : Nat) (ret : Option FieldType) (av : List Value) (M : zWM) (Qc : Array Value → State → Outcome → State → Prop) : Prop :=
  Met l y (.code y b nL ret :: zGW) (zRm d) (va_Pc av (zWld w M)) Qc 0 0 w.2.2.2
/-- what a frame of a JDK method stands on -/
def zFW (w : zWd) (M : zWM) (p : Program) (s : State) (m : MethodId) (args : Array Value) (meth : Method) (c : Code) (own : String) (b : ByteArray) (nL : Nat) (ret : Option FieldType) : Prop :=
  p.tables.exec = Jvm.exec ∧ c.code = b ∧ c.maxLocals = nL ∧ meth.sig.returnType = ret ∧ meth.locks = false ∧ s.vm.findClass own = some m.cls ∧ (∀ x ∈ zGW, x.before args s = true) ∧ zSP w s s.heap ∧ va_D w.2.2.2 (zcells w M)
theorem zmetR {w : zWd} {l : Launch} {d : Nat} {y : MethodName} {b : ByteArray} {nL : Nat} {ret : Option FieldType} {av : List Value} {M : zWM} {Qc : Array Value → State → Outcome → State → Prop} (hy : plainName y.cls = true) (hfit : (lg_sl av).length ≤ nL)
    (body : ∀ (p : Program) (e : Env) (s : State) (m : MethodId) (below : List Frame) (meth : Method) (c : Code) (ls : Array Slot), zFW w M p s m av.toArray meth c y.cls b nL ret → va_P w.1 vwCl (zcells w M) s.heap → lv_has ls nL (lv_args 0 av) → W p l e (zRm d) s m av.toArray below meth c s.heap [] 0 0 (MQ below Qc av.toArray s 0 0 w.2.2.2) (F0 m 0 ls [])) : zMetR w l d y b nL ret av M Qc := by
  refine Met.ofW (cc := b) (maxL := nL) (ret := ret) hy rfl ?_
  intro p e s m args below meth c s₁ B hml hv
  obtain ⟨rfl, hP, hsp, hD⟩ := hv
  have hts := atoms_spec (ws := .code y b nL ret :: zGW) B.pre
  have hl := lv_entry av (n := nL) hfit
  rw [lg_entry_eq]
  exact body p e s m below meth c _ ⟨B.exec, B.bytes, hml, B.returns, B.notSynchronized, findClass_of_methodNamed B.named, fun x hx => hts x (List.mem_cons_of_mem _ hx), hsp, hD⟩ hP hl
variable {w : zWd} {M : zWM} {p : Program} {l : Launch} {e : Env} {s : State} {m : MethodId} {args : Array Value} {below : List Frame} {meth : Method} {c : Code} {own : String} {b cc : ByteArray} {nL mL d g n idx pc : Nat} {ret rt : Option FieldType} {H : Heap} {locs : List Loc} {cells slots : Nat} {R : Room} {y : MethodName} {Qc : Array Value → State → Outcome → State → Prop} {ls : Array Slot} {As rest st0 : List Value} {a : Nat}
theorem zrunVR (hF : zFW w M p s m args meth c own cc nL rt) (hM : zMetR w l g y b mL ret (.ref a :: As) M Qc) (hm : zmi y b mL ret n) (hlk : Cond.methodLink own idx y ∈ zGW) (hg : g + 1 ≤ R.frames ∧ 100 * (g + 1) ≤ R.locals) (hcs : cells ≤ R.cells ∧ slots ≤ R.slots) (hS : va_S w.2.2.2 s.heap H locs) (hP : va_P w.1 vwCl (zcells w M) H)
    (hrec : ∃ cell : Cell, H[a]? = some cell ∧ cell.vm.isStatics = false ∧ s.vm.findClass y.cls = some cell.cls) (hn : As.length = n) (hsz : ls.size = nL) (hst : As.reverse ++ .ref a :: rest = st0) (hroom : (rest.map fun v => v.category).sum ≤ 8) (hd : decode cc pc = .ok (.invokevirtual idx, 3)) :
    va_Run p l e R s m args below meth c H locs cells slots 0 0 (F0 m pc ls st0) rest (Qc (Value.ref a :: As).toArray) w.2.2.2 := by
  subst hst
  obtain ⟨hx, hb, hml, hr, hlk0, hown, hts, hsp, hD⟩ := hF
  obtain ⟨m1, m2, m3, m4, m5, m6, m7, m8⟩ := hm
  have hspH : zSP w s H := hsp.kept (fun a h1 h2 => hS.2.1 a h1 h2)
  exact va_runV ⟨hx, hb, hml, hown, hts⟩ hM ⟨callB_of n hts (zgw_good m1) rfl rfl rfl (hts _ m4) (hts _ hlk) ⟨m5, m6, m7⟩ ⟨(by show g + 1 ≤ R.frames; omega), (by show 8 + (mL + 11) + 100 * g ≤ R.locals; omega)⟩, hts _ m2, hts _ m3⟩
    ⟨zblind, hrec, fun U hU hW => ⟨rfl, by rw [hU]; exact hP, by rw [hU]; exact hspH.warm hW, hD⟩⟩ rfl hn hsz rfl (by show 2 * 0 + _ ≤ 8; omega) hd hcs
theorem zrunSR (hF : zFW w M p s m args meth c own cc nL rt) (hM : zMetR w l g y b mL ret As M Qc) (hm : zms y b mL ret n) (hlk : Cond.methodLink own idx y ∈ zGW) (hg : g + 1 ≤ R.frames ∧ 100 * (g + 1) ≤ R.locals) (hcs : cells ≤ R.cells ∧ slots ≤ R.slots) (hS : va_S w.2.2.2 s.heap H locs) (hP : va_P w.1 vwCl (zcells w M) H)
    (hn : As.length = n) (hsz : ls.size = nL) (hst : As.reverse ++ rest = st0) (hroom : (rest.map fun v => v.category).sum ≤ 8) (hd : decode cc pc = .ok (.invokestatic idx, 3)) :
    va_Run p l e R s m args below meth c H locs cells slots 0 0 (F0 m pc ls st0) rest (Qc As.toArray) w.2.2.2 := by
  subst hst
  obtain ⟨hx, hb, hml, hr, hlk0, hown, hts, hsp, hD⟩ := hF
  obtain ⟨m1, m2, m4, m5, m6, m7, m8⟩ := hm
  have hspH : zSP w s H := hsp.kept (fun a h1 h2 => hS.2.1 a h1 h2)
  exact va_runS ⟨hx, hb, hml, hown, hts⟩ hM ⟨callB_of n hts (zgw_good m1) rfl rfl rfl (hts _ m4) (hts _ hlk) ⟨m5, m6, m7⟩ ⟨(by show g + 1 ≤ R.frames; omega), (by show 8 + (mL + 11) + 100 * g ≤ R.locals; omega)⟩, hts _ m2⟩
    ⟨zblind, fun U hU hW => ⟨rfl, by rw [hU]; exact hP, by rw [hU]; exact hspH.warm hW, hD⟩⟩ rfl hn hsz rfl (by show 2 * 0 + _ ≤ 8; omega) hd hcs
end ZSTRW
theorem w_J0_length_8abf5 : zmi yJ0_length_8abf5 cJ0_length_8abf5 1 (some .int) 0 := ⟨(zgw (List.mem_of_getElem? (i := 545) (by decide +kernel)) rfl), (zgw (List.mem_of_getElem? (i := 543) (by decide +kernel)) rfl), (zgw (List.mem_of_getElem? (i := 544) (by decide +kernel)) rfl), (zgw (List.mem_of_getElem? (i := 103) (by decide +kernel)) rfl), by decide +kernel, by decide +kernel, by decide +kernel, by decide⟩
theorem w_J0_coder_7d493 : zmi yJ0_coder_7d493 cJ0_coder_7d493 1 (some .byte) 0 := ⟨(zgw (List.mem_of_getElem? (i := 549) (by decide +kernel)) rfl), (zgw (List.mem_of_getElem? (i := 547) (by decide +kernel)) rfl), (zgw (List.mem_of_getElem? (i := 548) (by decide +kernel)) rfl), (zgw (List.mem_of_getElem? (i := 103) (by decide +kernel)) rfl), by decide +kernel, by decide +kernel, by decide +kernel, by decide⟩
theorem w_J0_charAt_5068e : zmi yJ0_charAt_5068e cJ0_charAt_5068e 2 (some .char) 1 := ⟨(zgw (List.mem_of_getElem? (i := 555) (by decide +kernel)) rfl), (zgw (List.mem_of_getElem? (i := 553) (by decide +kernel)) rfl), (zgw (List.mem_of_getElem? (i := 554) (by decide +kernel)) rfl), (zgw (List.mem_of_getElem? (i := 103) (by decide +kernel)) rfl), by decide +kernel, by decide +kernel, by decide +kernel, by decide⟩
theorem w_J0_isLatin1_aae02 : zmi yJ0_isLatin1_aae02 cJ0_isLatin1_aae02 1 (some .boolean) 0 := ⟨(zgw (List.mem_of_getElem? (i := 559) (by decide +kernel)) rfl), (zgw (List.mem_of_getElem? (i := 557) (by decide +kernel)) rfl), (zgw (List.mem_of_getElem? (i := 558) (by decide +kernel)) rfl), (zgw (List.mem_of_getElem? (i := 103) (by decide +kernel)) rfl), by decide +kernel, by decide +kernel, by decide +kernel, by decide⟩
theorem w_J1_charAt_3b067 : zms yJ1_charAt_3b067 cJ1_charAt_3b067 2 (some .char) 2 := ⟨(zgw (List.mem_of_getElem? (i := 562) (by decide +kernel)) rfl), (zgw (List.mem_of_getElem? (i := 561) (by decide +kernel)) rfl), (zgw (List.mem_of_getElem? (i := 104) (by decide +kernel)) rfl), by decide +kernel, by decide +kernel, by decide +kernel, by decide⟩
theorem w_J0_checkIndex_df160 : zms yJ0_checkIndex_df160 cJ0_checkIndex_df160 2 none 2 := ⟨(zgw (List.mem_of_getElem? (i := 565) (by decide +kernel)) rfl), (zgw (List.mem_of_getElem? (i := 564) (by decide +kernel)) rfl), (zgw (List.mem_of_getElem? (i := 103) (by decide +kernel)) rfl), by decide +kernel, by decide +kernel, by decide +kernel, by decide⟩
theorem w_J3_checkIndex_8e157 : zms yJ3_checkIndex_8e157 cJ3_checkIndex_8e157 3 (some .int) 3 := ⟨(zgw (List.mem_of_getElem? (i := 570) (by decide +kernel)) rfl), (zgw (List.mem_of_getElem? (i := 569) (by decide +kernel)) rfl), (zgw (List.mem_of_getElem? (i := 105) (by decide +kernel)) rfl), by decide +kernel, by decide +kernel, by decide +kernel, by decide⟩
theorem dJ0_length_8abf5_0 : decode cJ0_length_8abf5 0 = .ok (.aload_n 0, 1) := by decide +kernel
theorem dJ0_length_8abf5_1 : decode cJ0_length_8abf5 1 = .ok (.getfield 9, 3) := by decide +kernel
theorem dJ0_length_8abf5_4 : decode cJ0_length_8abf5 4 = .ok (.arraylength, 1) := by decide +kernel
theorem dJ0_length_8abf5_5 : decode cJ0_length_8abf5 5 = .ok (.aload_n 0, 1) := by decide +kernel
theorem dJ0_length_8abf5_6 : decode cJ0_length_8abf5 6 = .ok (.invokevirtual 335, 3) := by decide +kernel
theorem dJ0_length_8abf5_9 : decode cJ0_length_8abf5 9 = .ok (.ishr, 1) := by decide +kernel
theorem dJ0_length_8abf5_10 : decode cJ0_length_8abf5 10 = .ok (.ireturn, 1) := by decide +kernel
theorem dJ0_coder_7d493_0 : decode cJ0_coder_7d493 0 = .ok (.getstatic 38, 3) := by decide +kernel
theorem dJ0_coder_7d493_3 : decode cJ0_coder_7d493 3 = .ok (.ifCond .eq 10, 3) := by decide +kernel
theorem dJ0_coder_7d493_6 : decode cJ0_coder_7d493 6 = .ok (.aload_n 0, 1) := by decide +kernel
theorem dJ0_coder_7d493_7 : decode cJ0_coder_7d493 7 = .ok (.getfield 15, 3) := by decide +kernel
theorem dJ0_coder_7d493_10 : decode cJ0_coder_7d493 10 = .ok (.goto 4, 3) := by decide +kernel
theorem dJ0_coder_7d493_13 : decode cJ0_coder_7d493 13 = .ok (.iconst 1, 1) := by decide +kernel
theorem dJ0_coder_7d493_14 : decode cJ0_coder_7d493 14 = .ok (.ireturn, 1) := by decide +kernel
theorem dJ0_charAt_5068e_0 : decode cJ0_charAt_5068e 0 = .ok (.aload_n 0, 1) := by decide +kernel
theorem dJ0_charAt_5068e_1 : decode cJ0_charAt_5068e 1 = .ok (.invokevirtual 492, 3) := by decide +kernel
theorem dJ0_charAt_5068e_4 : decode cJ0_charAt_5068e 4 = .ok (.ifCond .eq 12, 3) := by decide +kernel
theorem dJ0_charAt_5068e_7 : decode cJ0_charAt_5068e 7 = .ok (.aload_n 0, 1) := by decide +kernel
theorem dJ0_charAt_5068e_8 : decode cJ0_charAt_5068e 8 = .ok (.getfield 9, 3) := by decide +kernel
theorem dJ0_charAt_5068e_11 : decode cJ0_charAt_5068e 11 = .ok (.iload_n 1, 1) := by decide +kernel
theorem dJ0_charAt_5068e_12 : decode cJ0_charAt_5068e 12 = .ok (.invokestatic 495, 3) := by decide +kernel
theorem dJ0_charAt_5068e_15 : decode cJ0_charAt_5068e 15 = .ok (.ireturn, 1) := by decide +kernel
theorem dJ0_charAt_5068e_16 : decode cJ0_charAt_5068e 16 = .ok (.aload_n 0, 1) := by decide +kernel
theorem dJ0_charAt_5068e_17 : decode cJ0_charAt_5068e 17 = .ok (.getfield 9, 3) := by decide +kernel
theorem dJ0_charAt_5068e_20 : decode cJ0_charAt_5068e 20 = .ok (.iload_n 1, 1) := by decide +kernel
theorem dJ0_charAt_5068e_21 : decode cJ0_charAt_5068e 21 = .ok (.invokestatic 498, 3) := by decide +kernel
theorem dJ0_charAt_5068e_24 : decode cJ0_charAt_5068e 24 = .ok (.ireturn, 1) := by decide +kernel
theorem dJ0_isLatin1_aae02_0 : decode cJ0_isLatin1_aae02 0 = .ok (.getstatic 38, 3) := by decide +kernel
theorem dJ0_isLatin1_aae02_3 : decode cJ0_isLatin1_aae02 3 = .ok (.ifCond .eq 14, 3) := by decide +kernel
theorem dJ0_isLatin1_aae02_6 : decode cJ0_isLatin1_aae02 6 = .ok (.aload_n 0, 1) := by decide +kernel
theorem dJ0_isLatin1_aae02_7 : decode cJ0_isLatin1_aae02 7 = .ok (.getfield 15, 3) := by decide +kernel
theorem dJ0_isLatin1_aae02_10 : decode cJ0_isLatin1_aae02 10 = .ok (.ifCond .ne 7, 3) := by decide +kernel
theorem dJ0_isLatin1_aae02_13 : decode cJ0_isLatin1_aae02 13 = .ok (.iconst 1, 1) := by decide +kernel
theorem dJ0_isLatin1_aae02_14 : decode cJ0_isLatin1_aae02 14 = .ok (.goto 4, 3) := by decide +kernel
theorem dJ0_isLatin1_aae02_17 : decode cJ0_isLatin1_aae02 17 = .ok (.iconst 0, 1) := by decide +kernel
theorem dJ0_isLatin1_aae02_18 : decode cJ0_isLatin1_aae02 18 = .ok (.ireturn, 1) := by decide +kernel
theorem dJ1_charAt_3b067_0 : decode cJ1_charAt_3b067 0 = .ok (.iload_n 1, 1) := by decide +kernel
theorem dJ1_charAt_3b067_1 : decode cJ1_charAt_3b067 1 = .ok (.aload_n 0, 1) := by decide +kernel
theorem dJ1_charAt_3b067_2 : decode cJ1_charAt_3b067 2 = .ok (.arraylength, 1) := by decide +kernel
theorem dJ1_charAt_3b067_3 : decode cJ1_charAt_3b067 3 = .ok (.invokestatic 9, 3) := by decide +kernel
theorem dJ1_charAt_3b067_6 : decode cJ1_charAt_3b067 6 = .ok (.aload_n 0, 1) := by decide +kernel
theorem dJ1_charAt_3b067_7 : decode cJ1_charAt_3b067 7 = .ok (.iload_n 1, 1) := by decide +kernel
theorem dJ1_charAt_3b067_8 : decode cJ1_charAt_3b067 8 = .ok (.baload, 1) := by decide +kernel
theorem dJ1_charAt_3b067_9 : decode cJ1_charAt_3b067 9 = .ok (.sipush 255, 3) := by decide +kernel
theorem dJ1_charAt_3b067_12 : decode cJ1_charAt_3b067 12 = .ok (.iand, 1) := by decide +kernel
theorem dJ1_charAt_3b067_13 : decode cJ1_charAt_3b067 13 = .ok (.i2c, 1) := by decide +kernel
theorem dJ1_charAt_3b067_14 : decode cJ1_charAt_3b067 14 = .ok (.ireturn, 1) := by decide +kernel
theorem dJ0_checkIndex_df160_0 : decode cJ0_checkIndex_df160 0 = .ok (.iload_n 0, 1) := by decide +kernel
theorem dJ0_checkIndex_df160_1 : decode cJ0_checkIndex_df160 1 = .ok (.iload_n 1, 1) := by decide +kernel
theorem dJ0_checkIndex_df160_2 : decode cJ0_checkIndex_df160 2 = .ok (.getstatic 1053, 3) := by decide +kernel
theorem dJ0_checkIndex_df160_5 : decode cJ0_checkIndex_df160 5 = .ok (.invokestatic 1059, 3) := by decide +kernel
theorem dJ0_checkIndex_df160_8 : decode cJ0_checkIndex_df160 8 = .ok (.pop, 1) := by decide +kernel
theorem dJ0_checkIndex_df160_9 : decode cJ0_checkIndex_df160 9 = .ok (.return_, 1) := by decide +kernel
theorem dJ3_checkIndex_8e157_0 : decode cJ3_checkIndex_8e157 0 = .ok (.iload_n 0, 1) := by decide +kernel
theorem dJ3_checkIndex_8e157_1 : decode cJ3_checkIndex_8e157 1 = .ok (.ifCond .lt 8, 3) := by decide +kernel
theorem dJ3_checkIndex_8e157_4 : decode cJ3_checkIndex_8e157 4 = .ok (.iload_n 0, 1) := by decide +kernel
theorem dJ3_checkIndex_8e157_5 : decode cJ3_checkIndex_8e157 5 = .ok (.iload_n 1, 1) := by decide +kernel
theorem dJ3_checkIndex_8e157_6 : decode cJ3_checkIndex_8e157 6 = .ok (.if_icmp .lt 10, 3) := by decide +kernel
theorem dJ3_checkIndex_8e157_9 : decode cJ3_checkIndex_8e157 9 = .ok (.aload_n 2, 1) := by decide +kernel
theorem dJ3_checkIndex_8e157_10 : decode cJ3_checkIndex_8e157 10 = .ok (.iload_n 0, 1) := by decide +kernel
theorem dJ3_checkIndex_8e157_11 : decode cJ3_checkIndex_8e157 11 = .ok (.iload_n 1, 1) := by decide +kernel
theorem dJ3_checkIndex_8e157_12 : decode cJ3_checkIndex_8e157 12 = .ok (.invokestatic 95, 3) := by decide +kernel
theorem dJ3_checkIndex_8e157_15 : decode cJ3_checkIndex_8e157 15 = .ok (.athrow, 1) := by decide +kernel
theorem dJ3_checkIndex_8e157_16 : decode cJ3_checkIndex_8e157 16 = .ok (.iload_n 0, 1) := by decide +kernel
theorem dJ3_checkIndex_8e157_17 : decode cJ3_checkIndex_8e157 17 = .ok (.ireturn, 1) := by decide +kernel
theorem zl_cs : Cond.fieldLink RJ0 38 RJ0 "COMPACT_STRINGS" "Z" ∈ zGW := (zgw (List.mem_of_getElem? (i := 550) (by decide +kernel)) rfl)
theorem zl_val : Cond.fieldLink RJ0 9 "java/lang/String" "value" "[B" ∈ zGW := (zgw (List.mem_of_getElem? (i := 1549) (by decide +kernel)) rfl)
theorem zl_cod : Cond.fieldLink RJ0 15 "java/lang/String" "coder" "B" ∈ zGW := (zgw (List.mem_of_getElem? (i := 1550) (by decide +kernel)) rfl)
theorem zl_si : Cond.fieldLink RJ0 1053 RJ3 "SIOOBE_FORMATTER" "Ljava/util/function/BiFunction;" ∈ zGW := (zgw (List.mem_of_getElem? (i := 566) (by decide +kernel)) rfl)
theorem zl_335 : Cond.methodLink RJ0 335 yJ0_coder_7d493 ∈ zGW := (zgw (List.mem_of_getElem? (i := 546) (by decide +kernel)) rfl)
theorem zl_492 : Cond.methodLink RJ0 492 yJ0_isLatin1_aae02 ∈ zGW := (zgw (List.mem_of_getElem? (i := 556) (by decide +kernel)) rfl)
theorem zl_495 : Cond.methodLink RJ0 495 yJ1_charAt_3b067 ∈ zGW := (zgw (List.mem_of_getElem? (i := 560) (by decide +kernel)) rfl)
theorem zl_9 : Cond.methodLink RJ1 9 yJ0_checkIndex_df160 ∈ zGW := (zgw (List.mem_of_getElem? (i := 563) (by decide +kernel)) rfl)
theorem zl_1059 : Cond.methodLink RJ0 1059 yJ3_checkIndex_8e157 ∈ zGW := (zgw (List.mem_of_getElem? (i := 568) (by decide +kernel)) rfl)
section ZSTRM
variable {w : zWd} {l : Launch} {M : zWM} {k : Nat} {i : Int32}
theorem zj_coder (hk : k < 6) : zMetR w l 1 yJ0_coder_7d493 cJ0_coder_7d493 1 (some .byte) [.ref (w.2.2.1 61 k)] M (zQI w 0 M) := by
  refine zmetR (by decide +kernel) (by simp [lg_sl, Value.category]) (fun p e s m below meth c ls hF hP hl => ?_)
  obtain ⟨hx, hb, hml, hr, hlk, hown, hts, hsp, hD⟩ := id hF
  have hS : va_S w.2.2.2 s.heap s.heap [] := va_S.rf
  have hl : lv_has ls 1 [(0, .ref (w.2.2.1 61 k))] := hl
  refine va_gets hx hb hsp.2.2.2.2.2.2.1 hS hown (hts _ zl_cs) (fun _ h => h) dJ0_coder_7d493_0 ?_
  refine lv_if_eq (tgt := 13) hx hb dJ0_coder_7d493_3 (by decide) (fun q => absurd q (by decide)) (fun _ => ?_)
  refine lv_aload_n hx hb dJ0_coder_7d493_6 rfl (lv_at hl 0 rfl) ?_
  refine vk_getf hx hb (hsp.2.2.2.2.1.1 k hk).2.1 hS hown (hts _ zl_cod) (fun _ h => h) dJ0_coder_7d493_7 ?_
  refine lv_goto (tgt := 14) hx hb dJ0_coder_7d493_10 (by decide) ?_
  exact W.zret hx hb hr (by decide +kernel) (fun t ht hW => ⟨⟨_, (), rfl, rfl, by show va_P _ _ _ t.heap; rw [ht]; exact hP⟩, hS.F ht⟩) hS.2.2 dJ0_coder_7d493_14 hlk
theorem zj_lat (hk : k < 6) : zMetR w l 1 yJ0_isLatin1_aae02 cJ0_isLatin1_aae02 1 (some .boolean) [.ref (w.2.2.1 61 k)] M (zQI w 1 M) := by
  refine zmetR (by decide +kernel) (by simp [lg_sl, Value.category]) (fun p e s m below meth c ls hF hP hl => ?_)
  obtain ⟨hx, hb, hml, hr, hlk, hown, hts, hsp, hD⟩ := id hF
  have hS : va_S w.2.2.2 s.heap s.heap [] := va_S.rf
  have hl : lv_has ls 1 [(0, .ref (w.2.2.1 61 k))] := hl
  refine va_gets hx hb hsp.2.2.2.2.2.2.1 hS hown (hts _ zl_cs) (fun _ h => h) dJ0_isLatin1_aae02_0 ?_
  refine lv_if_eq (tgt := 17) hx hb dJ0_isLatin1_aae02_3 (by decide) (fun q => absurd q (by decide)) (fun _ => ?_)
  refine lv_aload_n hx hb dJ0_isLatin1_aae02_6 rfl (lv_at hl 0 rfl) ?_
  refine vk_getf hx hb (hsp.2.2.2.2.1.1 k hk).2.1 hS hown (hts _ zl_cod) (fun _ h => h) dJ0_isLatin1_aae02_7 ?_
  refine lv_if_ne (tgt := 17) hx hb dJ0_isLatin1_aae02_10 (by decide) (fun q => absurd rfl q) (fun _ => ?_)
  refine lv_iconst (v := 1) hx hb dJ0_isLatin1_aae02_13 (by decide) ?_
  refine lv_goto (tgt := 18) hx hb dJ0_isLatin1_aae02_14 (by decide) ?_
  exact W.zret hx hb hr (by decide +kernel) (fun t ht hW => ⟨⟨_, (), rfl, rfl, by show va_P _ _ _ t.heap; rw [ht]; exact hP⟩, hS.F ht⟩) hS.2.2 dJ0_isLatin1_aae02_18 hlk
theorem zj_pchk {n : Int32} {v : Value} (hv : (lg_sl [Value.int i, .int n, v]).length ≤ 3) (h0 : ¬ i < 0) (h1 : i < n) : zMetR w l 1 yJ3_checkIndex_8e157 cJ3_checkIndex_8e157 3 (some .int) [.int i, .int n, v] M (zQI w i M) := by
  refine zmetR (by decide +kernel) hv (fun p e s m below meth c ls hF hP hl => ?_)
  obtain ⟨hx, hb, hml, hr, hlk, hown, hts, hsp, hD⟩ := id hF
  have hS : va_S w.2.2.2 s.heap s.heap [] := va_S.rf
  have hl : lv_has ls 3 [(0, .int i), (1, .int n), (2, v)] := hl
  refine lv_iload_n hx hb dJ3_checkIndex_8e157_0 rfl (lv_at hl 0 rfl) ?_
  refine lv_if_lt (tgt := 9) hx hb dJ3_checkIndex_8e157_1 (by decide) (fun q => absurd q h0) (fun _ => ?_)
  refine lv_iload_n hx hb dJ3_checkIndex_8e157_4 rfl (lv_at hl 0 rfl) ?_
  refine lv_iload_n hx hb dJ3_checkIndex_8e157_5 rfl (lv_at hl 1 rfl) ?_
  refine lv_icmp_lt (tgt := 16) hx hb dJ3_checkIndex_8e157_6 (by decide) (fun _ => ?_) (fun q => absurd h1 q)
  refine lv_iload_n hx hb dJ3_checkIndex_8e157_16 rfl (lv_at hl 0 rfl) ?_
  exact W.zret hx hb hr rfl (fun t ht hW => ⟨⟨_, (), rfl, rfl, by show va_P _ _ _ t.heap; rw [ht]; exact hP⟩, hS.F ht⟩) hS.2.2 dJ3_checkIndex_8e157_17 hlk
theorem zj_chk {n : Int32} (h0 : ¬ i < 0) (h1 : i < n) : zMetR w l 2 yJ0_checkIndex_df160 cJ0_checkIndex_df160 2 none [.int i, .int n] M (zQV w M) := by
  refine zmetR (by decide +kernel) (by simp [lg_sl, Value.category]) (fun p e s m below meth c ls hF hP hl => ?_)
  obtain ⟨hx, hb, hml, hr, hlk, hown, hts, hsp, hD⟩ := id hF
  have hS : va_S w.2.2.2 s.heap s.heap [] := va_S.rf
  have hl : lv_has ls 2 [(0, .int i), (1, .int n)] := hl
  refine lv_iload_n hx hb dJ0_checkIndex_df160_0 rfl (lv_at hl 0 rfl) ?_
  refine lv_iload_n hx hb dJ0_checkIndex_df160_1 rfl (lv_at hl 1 rfl) ?_
  have go : ∀ v : Value, (lg_sl [Value.int i, .int n, v]).length ≤ 3 → va_Z RJ3 "SIOOBE_FORMATTER" "Ljava/util/function/BiFunction;" v w.2.2.2 s s.heap → W p l e (zRm 2) s m ([.int i, .int n] : List Value).toArray below meth c s.heap [] 0 0 (MQ below (zQV w M) ([.int i, .int n] : List Value).toArray s 0 0 w.2.2.2) (F0 m 2 ls [.int n, .int i]) := by
    intro v hv hZ
    refine va_gets hx hb hZ hS hown (hts _ zl_si) (fun _ h => h) dJ0_checkIndex_df160_2 ?_
    refine va_calli (zrunSR (As := [.int i, .int n, v]) (rest := []) hF (zj_pchk (M := M) hv h0 h1) w_J3_checkIndex_8e157 zl_1059 ⟨by decide, by decide⟩ ⟨Nat.le_refl _, Nat.le_refl _⟩ hS hP rfl hl.1 rfl (by simp [Value.category]) dJ0_checkIndex_df160_5) hS (fun q _ h => h) (fun q h => h) (fun r u t H1 locs1 ht hvm hw hB hz1 hk1 hS => ?_)
    have hP : va_P w.1 vwCl (zcells w M) H1 := by rw [← ht]; exact hB
    refine lv_pop hx hb dJ0_checkIndex_df160_8 rfl ?_
    exact W.vret hx hb hr (fun t ht hW => ⟨⟨(), rfl, trivial, by show va_P _ _ _ t.heap; rw [ht]; exact hP⟩, hS.F ht⟩) hS.2.2 dJ0_checkIndex_df160_9 hlk
  rcases hsp.2.2.2.2.2.2.2 with q | ⟨t, q⟩
  · exact go _ (by simp [lg_sl, Value.category]) q
  · exact go _ (by simp [lg_sl, Value.category]) q
theorem zj_len (hk : k < 6) : zMetR w l 2 yJ0_length_8abf5 cJ0_length_8abf5 1 (some .int) [.ref (w.2.2.1 61 k)] M (zQI w (nI (zSL.getD k 0)) M) := by
  refine zmetR (by decide +kernel) (by simp [lg_sl, Value.category]) (fun p e s m below meth c ls hF hP hl => ?_)
  obtain ⟨hx, hb, hml, hr, hlk, hown, hts, hsp, hD⟩ := id hF
  have hS : va_S w.2.2.2 s.heap s.heap [] := va_S.rf
  have hl : lv_has ls 1 [(0, .ref (w.2.2.1 61 k))] := hl
  obtain ⟨s1, s2, s3, s4⟩ := hsp.2.2.2.2.1.1 k hk
  refine lv_aload_n hx hb dJ0_length_8abf5_0 rfl (lv_at hl 0 rfl) ?_
  refine vk_getf hx hb s3 hS hown (hts _ zl_val) (fun _ h => h) dJ0_length_8abf5_1 ?_
  refine va_tlen hx hb s4 hS (v := nI (zSL.getD k 0)) rfl dJ0_length_8abf5_4 ?_
  refine lv_aload_n hx hb dJ0_length_8abf5_5 rfl (lv_at hl 0 rfl) ?_
  refine va_calli (zrunVR (As := []) (rest := [.int (nI (zSL.getD k 0))]) hF (zj_coder (M := M) hk) w_J0_coder_7d493 zl_335 ⟨by decide, by decide⟩ ⟨Nat.le_refl _, Nat.le_refl _⟩ hS hP (vk_recv hsp.2.2.2.2.1 hk hS) rfl hl.1 rfl (by simp [Value.category]) dJ0_length_8abf5_6) hS (fun q _ h => h) (fun q h => h) (fun r u t H1 locs1 ht hvm hw hB hz1 hk1 hS => ?_)
  subst hw
  have hP : va_P w.1 vwCl (zcells w M) H1 := by rw [← ht]; exact hB
  refine lv_ishr hx hb dJ0_length_8abf5_9 ?_
  have ev : ∀ k, k < 6 → nI (zSL.getD k 0) >>> ((0 : Int32) &&& 31) = nI (zSL.getD k 0) := by decide +kernel
  rw [ev k hk]
  exact W.zret hx hb hr rfl (fun t ht hW => ⟨⟨_, (), rfl, rfl, by show va_P _ _ _ t.heap; rw [ht]; exact hP⟩, hS.F ht⟩) hS.2.2 dJ0_length_8abf5_10 hlk
theorem zj_byte : ∀ k, k < 6 → ∀ j, j < zSL.getD k 0 → (((zSB.getD k []).getD j 0 &&& 255).toUInt32 % 65536).toInt32 = (zSB.getD k []).getD j 0 ∧ narrow .char (.int ((zSB.getD k []).getD j 0)) = .int ((zSB.getD k []).getD j 0) := by decide +kernel
theorem zj_lchr (hk : k < 6) (hi : inb i (zSL.getD k 0) = true) : zMetR w l 3 yJ1_charAt_3b067 cJ1_charAt_3b067 2 (some .char) [.ref (w.2.2.1 62 k), .int i] M (zQI w ((zSB.getD k []).getD (ix i) 0) M) := by
  refine zmetR (by decide +kernel) (by simp [lg_sl, Value.category]) (fun p e s m below meth c ls hF hP hl => ?_)
  obtain ⟨hx, hb, hml, hr, hlk, hown, hts, hsp, hD⟩ := id hF
  have hS : va_S w.2.2.2 s.heap s.heap [] := va_S.rf
  have hl : lv_has ls 2 [(0, .ref (w.2.2.1 62 k)), (1, .int i)] := hl
  obtain ⟨s1, s2, s3, s4⟩ := hsp.2.2.2.2.1.1 k hk
  have hv := zinb hi
  have hlt : i.toNatClampNeg < zSL.getD k 0 := Nat.not_le.mp fun q => hv (Or.inr q)
  have h0 : ¬ i < 0 := fun q => hv (Or.inl q)
  have hle : ∀ k, k < 6 → zSL.getD k 0 < 2 ^ 31 := by decide +kernel
  have e1 : i = nI (ix i) := by
    have hz0 : (0 : Int) ≤ i.toInt := by
      have := Int32.not_lt.mp h0
      simpa using Int32.le_iff_toInt_le.mp this
    apply Int32.toInt_inj.mp
    rw [nI_toInt (Nat.lt_trans hlt (hle k hk))]
    show i.toInt = ((i.toInt.toNat : Nat) : Int)
    omega
  have h1 : i < nI (zSL.getD k 0) := by rw [e1]; exact nI_lt hlt (hle k hk)
  refine lv_iload_n hx hb dJ1_charAt_3b067_0 rfl (lv_at hl 1 rfl) ?_
  refine lv_aload_n hx hb dJ1_charAt_3b067_1 rfl (lv_at hl 0 rfl) ?_
  refine va_tlen hx hb s4 hS (v := nI (zSL.getD k 0)) rfl dJ1_charAt_3b067_2 ?_
  refine va_callv (zrunSR (As := [.int i, .int (nI (zSL.getD k 0))]) (rest := []) hF (zj_chk (M := M) h0 h1) w_J0_checkIndex_df160 zl_9 ⟨by decide, by decide⟩ ⟨Nat.le_refl _, Nat.le_refl _⟩ hS hP rfl hl.1 rfl (by simp [Value.category]) dJ1_charAt_3b067_3) hS (fun q _ h => h) (fun q h => h) (fun u t H1 locs1 ht hvm hw hB hz1 hk1 hS => ?_)
  have hP : va_P w.1 vwCl (zcells w M) H1 := by rw [← ht]; exact hB
  refine lv_aload_n hx hb dJ1_charAt_3b067_6 rfl (lv_at hl 0 rfl) ?_
  refine lv_iload_n hx hb dJ1_charAt_3b067_7 rfl (lv_at hl 1 rfl) ?_
  refine va_tb hx hb s4 hS hv rfl dJ1_charAt_3b067_8 ?_
  refine lv_sipush (v := 255) hx hb dJ1_charAt_3b067_9 (by decide) ?_
  refine lv_iand hx hb dJ1_charAt_3b067_12 ?_
  refine lv_i2c hx hb dJ1_charAt_3b067_13 (zj_byte k hk _ hlt).1 ?_
  exact W.zret hx hb hr (zj_byte k hk _ hlt).2 (fun t ht hW => ⟨⟨_, (), rfl, rfl, by show va_P _ _ _ t.heap; rw [ht]; exact hP⟩, hS.F ht⟩) hS.2.2 dJ1_charAt_3b067_14 hlk
theorem zj_chr (hk : k < 6) (hi : inb i (zSL.getD k 0) = true) : zMetR w l 4 yJ0_charAt_5068e cJ0_charAt_5068e 2 (some .char) [.ref (w.2.2.1 61 k), .int i] M (zQI w ((zSB.getD k []).getD (ix i) 0) M) := by
  refine zmetR (by decide +kernel) (by simp [lg_sl, Value.category]) (fun p e s m below meth c ls hF hP hl => ?_)
  obtain ⟨hx, hb, hml, hr, hlk, hown, hts, hsp, hD⟩ := id hF
  have hS : va_S w.2.2.2 s.heap s.heap [] := va_S.rf
  have hl : lv_has ls 2 [(0, .ref (w.2.2.1 61 k)), (1, .int i)] := hl
  obtain ⟨s1, s2, s3, s4⟩ := hsp.2.2.2.2.1.1 k hk
  have hv := zinb hi
  have hlt : i.toNatClampNeg < zSL.getD k 0 := Nat.not_le.mp fun q => hv (Or.inr q)
  refine lv_aload_n hx hb dJ0_charAt_5068e_0 rfl (lv_at hl 0 rfl) ?_
  refine va_calli (zrunVR (As := []) (rest := []) hF (zj_lat (M := M) hk) w_J0_isLatin1_aae02 zl_492 ⟨by decide, by decide⟩ ⟨Nat.le_refl _, Nat.le_refl _⟩ hS hP (vk_recv hsp.2.2.2.2.1 hk hS) rfl hl.1 rfl (by simp [Value.category]) dJ0_charAt_5068e_1) hS (fun q _ h => h) (fun q h => h) (fun r u t H1 locs1 ht hvm hw hB hz1 hk1 hS => ?_)
  subst hw
  have hP : va_P w.1 vwCl (zcells w M) H1 := by rw [← ht]; exact hB
  refine lv_if_eq (tgt := 16) hx hb dJ0_charAt_5068e_4 (by decide) (fun q => absurd q (by decide)) (fun _ => ?_)
  refine lv_aload_n hx hb dJ0_charAt_5068e_7 rfl (lv_at hl 0 rfl) ?_
  refine vk_getf hx hb s3 hS hown (hts _ zl_val) (fun _ h => h) dJ0_charAt_5068e_8 ?_
  refine lv_iload_n hx hb dJ0_charAt_5068e_11 rfl (lv_at hl 1 rfl) ?_
  refine va_calli (zrunSR (As := [.ref (w.2.2.1 62 k), .int i]) (rest := []) hF (zj_lchr (M := M) hk hi) w_J1_charAt_3b067 zl_495 ⟨by decide, by decide⟩ ⟨Nat.le_refl _, Nat.le_refl _⟩ hS hP rfl hl.1 rfl (by simp [Value.category]) dJ0_charAt_5068e_12) hS (fun q _ h => h) (fun q h => h) (fun r u t H1 locs1 ht hvm hw hB hz1 hk1 hS => ?_)
  subst hw
  have hP : va_P w.1 vwCl (zcells w M) H1 := by rw [← ht]; exact hB
  exact W.zret hx hb hr (zj_byte k hk _ hlt).2 (fun t ht hW => ⟨⟨_, (), rfl, rfl, by show va_P _ _ _ t.heap; rw [ht]; exact hP⟩, hS.F ht⟩) hS.2.2 dJ0_charAt_5068e_15 hlk
end ZSTRM
section ZSTR0
variable {w : zWd} {f : zFr} {o nL d pc : Nat} {cc : ByteArray} {L : List (Option zPV)} {st : List zPV} {M : zWM} {idx k : Nat} {x i : Int32}
theorem zlenS (hF : zFOK w f o cc nL d) (hlk : Cond.methodLink (zN o) idx yJ0_length_8abf5 ∈ zGW) (hd : zj cc pc 20 idx = true) (hk : Nat.blt k 6 = true) (hroom : Nat.ble (zsum st) 8 = true) (hg : Nat.blt 5 d = true) (h : s_J0_length_8abf5 k = some x) (kk : zG w f nL (pc + 3) (L, .inl x :: st, M)) : zG w f nL pc (L, .inr (.inr (61, k)) :: st, M) := by
  obtain ⟨p, l, e, R, s, m, args, below, meth, c, cells, slots, Q, z⟩ := f
  obtain ⟨hx, hb, hml, hown, hts, hlock, ⟨r1, r2, r3, r4, r5⟩, hsp, hD, hz⟩ := hF
  have r3 : 100 * d ≤ R.locals := r3
  have r2 : d ≤ R.frames := r2
  have hg := Nat.blt_eq.mp hg
  have hk := Nat.blt_eq.mp hk
  have hx2 : nI (zSL.getD k 0) = x := Option.some.inj h
  subst hx2
  intro hn H locs ls hP hS hL
  have hF2 : zFW w M p s m args meth c (zN o) cc nL meth.sig.returnType := ⟨hx, hb, hml, rfl, hlock, hown, hts, hsp, zD_all hD⟩
  have h1 := zsum_eq (ad := w.2.2.1) st
  have h2 := Nat.le_of_ble_eq_true hroom
  refine va_calli (zrunVR (As := []) (rest := st.map (zcv w.2.2.1)) hF2 (zj_len (M := M) hk) w_J0_length_8abf5 hlk ⟨by omega, by omega⟩ ⟨r4, r5⟩ hS hP (vk_recv hsp.2.2.2.2.1 hk hS) rfl hL.1 rfl (by omega) ((zdec_inv hd).1 rfl)) hS (fun q _ h => h) (fun q h => h) (fun r u t H1 locs1 ht hvm hw hB hz1 hk1 hS1 => ?_)
  subst hw
  have hP1 : va_P w.1 vwCl (zcells w M) H1 := by rw [← ht]; exact hB
  exact kk hn H1 locs1 ls hP1 hS1 hL
theorem zchrS (hF : zFOK w f o cc nL d) (hlk : Cond.methodLink (zN o) idx yJ0_charAt_5068e ∈ zGW) (hd : zj cc pc 20 idx = true) (hk : Nat.blt k 6 = true) (hroom : Nat.ble (zsum st) 8 = true) (hg : Nat.blt 5 d = true) (h : s_J0_charAt_5068e k i = some x) (kk : zG w f nL (pc + 3) (L, .inl x :: st, M)) : zG w f nL pc (L, .inl i :: .inr (.inr (61, k)) :: st, M) := by
  obtain ⟨p, l, e, R, s, m, args, below, meth, c, cells, slots, Q, z⟩ := f
  obtain ⟨hx, hb, hml, hown, hts, hlock, ⟨r1, r2, r3, r4, r5⟩, hsp, hD, hz⟩ := hF
  have r3 : 100 * d ≤ R.locals := r3
  have r2 : d ≤ R.frames := r2
  have hg := Nat.blt_eq.mp hg
  have hk := Nat.blt_eq.mp hk
  obtain ⟨hi, hx2⟩ := zchk h
  have hx2 := Option.some.inj hx2
  subst hx2
  intro hn H locs ls hP hS hL
  have hF2 : zFW w M p s m args meth c (zN o) cc nL meth.sig.returnType := ⟨hx, hb, hml, rfl, hlock, hown, hts, hsp, zD_all hD⟩
  have h1 := zsum_eq (ad := w.2.2.1) st
  have h2 := Nat.le_of_ble_eq_true hroom
  refine va_calli (zrunVR (As := [.int i]) (rest := st.map (zcv w.2.2.1)) hF2 (zj_chr (M := M) hk hi) w_J0_charAt_5068e hlk ⟨by omega, by omega⟩ ⟨r4, r5⟩ hS hP (vk_recv hsp.2.2.2.2.1 hk hS) rfl hL.1 rfl (by omega) ((zdec_inv hd).1 rfl)) hS (fun q _ h => h) (fun q h => h) (fun r u t H1 locs1 ht hvm hw hB hz1 hk1 hS1 => ?_)
  subst hw
  have hP1 : va_P w.1 vwCl (zcells w M) H1 := by rw [← ht]; exact hB
  exact kk hn H1 locs1 ls hP1 hS1 hL
end ZSTR0
