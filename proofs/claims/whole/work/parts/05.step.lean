/-! the rows, over the pure machine -/
section ZSTEP
variable {w : zWd} {f : zFr} {o nL d pc n : Nat} {cc : ByteArray} {i : Instr} {a : zPV} {s : zSt}
theorem zstep_push {v : zPV} (row : ∀ {p : Program} {l : Launch} {e : Env} {R : Room} {st : State} {m : MethodId} {args : Array Value} {below : List Frame} {meth : Method} {c : Code} {H : Heap} {locs : List Loc} {cells slots : Nat} {Q : State → Prop} {ls : Array Slot} {rest : List Value}, p.tables.exec = Jvm.exec → c.code = cc → st.vm.findClass (zN o) = some m.cls → (∀ x ∈ zGW, x.before args st = true) → zSP w st st.heap → va_S w.2.2.2 st.heap H locs →
    W p l e R st m args below meth c H locs cells slots Q (F0 m (pc + n) ls (zcv w.2.2.1 v :: rest)) → W p l e R st m args below meth c H locs cells slots Q (F0 m pc ls rest)) (hF : zFOK w f o cc nL d) (h : zpush v s (zG w f nL (pc + n))) : zG w f nL pc s := by
  obtain ⟨p, l, e, R, st, m, args, below, meth, c, cells, slots, Q, z⟩ := f
  obtain ⟨hx, hb, hml, hown, hts, hlk, hrm, hsp, hD, hz⟩ := hF
  intro hn H locs ls hP hS hL
  exact row hx hb hown hts hsp hS (h hn H locs ls hP hS hL)
end ZSTEP
section ZST2
variable {w : zWd} {f : zFr} {o nL d pc : Nat} {cc : ByteArray} {s : zSt}
theorem zstep_z2I {i : Instr} {op : Int32 → Int32 → Int32} (row : ∀ {p : Program} {l : Launch} {e : Env} {R : Room} {st : State} {m : MethodId} {args : Array Value} {below : List Frame} {meth : Method} {c : Code} {H : Heap} {locs : List Loc} {cells slots : Nat} {Q : State → Prop} {ls : Array Slot} {rest : List Value} {x y : Int32}, p.tables.exec = Jvm.exec → c.code = cc →
    W p l e R st m args below meth c H locs cells slots Q (F0 m (pc + 1) ls (.int (op x y) :: rest)) → W p l e R st m args below meth c H locs cells slots Q (F0 m pc ls (.int y :: .int x :: rest))) (hF : zFOK w f o cc nL d) (h : z2I op s (zG w f nL (pc + 1))) : zG w f nL pc s := by
  obtain ⟨p, l, e, R, st, m, args, below, meth, c, cells, slots, Q, z⟩ := f
  obtain ⟨hx, hb, -⟩ := hF
  obtain ⟨L, sk, M⟩ := s
  intro hn H locs ls hP hS hL
  match sk, h with
  | .inl y :: .inl x :: r, h => exact row hx hb (h hn H locs ls hP hS hL)
theorem zstep_z2D {op : Int32 → Int32 → Int32} (row : ∀ {p : Program} {l : Launch} {e : Env} {R : Room} {st : State} {m : MethodId} {args : Array Value} {below : List Frame} {meth : Method} {c : Code} {H : Heap} {locs : List Loc} {cells slots : Nat} {Q : State → Prop} {ls : Array Slot} {rest : List Value} {x y : Int32}, p.tables.exec = Jvm.exec → c.code = cc → ¬ y = 0 →
    W p l e R st m args below meth c H locs cells slots Q (F0 m (pc + 1) ls (.int (op x y) :: rest)) → W p l e R st m args below meth c H locs cells slots Q (F0 m pc ls (.int y :: .int x :: rest))) (hF : zFOK w f o cc nL d) (h : z2D op s (zG w f nL (pc + 1))) : zG w f nL pc s := by
  obtain ⟨p, l, e, R, st, m, args, below, meth, c, cells, slots, Q, z⟩ := f
  obtain ⟨hx, hb, -⟩ := hF
  obtain ⟨L, sk, M⟩ := s
  intro hn H locs ls hP hS hL
  match sk, h with
  | .inl y :: .inl x :: r, h => exact row hx hb h.1 (h.2 hn H locs ls hP hS hL)
theorem zstep_z1I {op : Int32 → Int32} (row : ∀ {p : Program} {l : Launch} {e : Env} {R : Room} {st : State} {m : MethodId} {args : Array Value} {below : List Frame} {meth : Method} {c : Code} {H : Heap} {locs : List Loc} {cells slots : Nat} {Q : State → Prop} {ls : Array Slot} {rest : List Value} {x : Int32}, p.tables.exec = Jvm.exec → c.code = cc →
    W p l e R st m args below meth c H locs cells slots Q (F0 m (pc + 1) ls (.int (op x) :: rest)) → W p l e R st m args below meth c H locs cells slots Q (F0 m pc ls (.int x :: rest))) (hF : zFOK w f o cc nL d) (h : z1I op s (zG w f nL (pc + 1))) : zG w f nL pc s := by
  obtain ⟨p, l, e, R, st, m, args, below, meth, c, cells, slots, Q, z⟩ := f
  obtain ⟨hx, hb, -⟩ := hF
  obtain ⟨L, sk, M⟩ := s
  intro hn H locs ls hP hS hL
  match sk, h with
  | .inl x :: r, h => exact row hx hb (h hn H locs ls hP hS hL)
theorem zstep_z2L {op : Int64 → Int64 → Int64} (row : ∀ {p : Program} {l : Launch} {e : Env} {R : Room} {st : State} {m : MethodId} {args : Array Value} {below : List Frame} {meth : Method} {c : Code} {H : Heap} {locs : List Loc} {cells slots : Nat} {Q : State → Prop} {ls : Array Slot} {rest : List Value} {x y : Int64}, p.tables.exec = Jvm.exec → c.code = cc →
    W p l e R st m args below meth c H locs cells slots Q (F0 m (pc + 1) ls (.long (op x y) :: rest)) → W p l e R st m args below meth c H locs cells slots Q (F0 m pc ls (.long y :: .long x :: rest))) (hF : zFOK w f o cc nL d) (h : z2L op s (zG w f nL (pc + 1))) : zG w f nL pc s := by
  obtain ⟨p, l, e, R, st, m, args, below, meth, c, cells, slots, Q, z⟩ := f
  obtain ⟨hx, hb, -⟩ := hF
  obtain ⟨L, sk, M⟩ := s
  intro hn H locs ls hP hS hL
  match sk, h with
  | .inr (.inl y) :: .inr (.inl x) :: r, h => exact row hx hb (h hn H locs ls hP hS hL)
theorem zstep_zLI {op : Int64 → Int32 → Int64} (row : ∀ {p : Program} {l : Launch} {e : Env} {R : Room} {st : State} {m : MethodId} {args : Array Value} {below : List Frame} {meth : Method} {c : Code} {H : Heap} {locs : List Loc} {cells slots : Nat} {Q : State → Prop} {ls : Array Slot} {rest : List Value} {x : Int64} {y : Int32}, p.tables.exec = Jvm.exec → c.code = cc →
    W p l e R st m args below meth c H locs cells slots Q (F0 m (pc + 1) ls (.long (op x y) :: rest)) → W p l e R st m args below meth c H locs cells slots Q (F0 m pc ls (.int y :: .long x :: rest))) (hF : zFOK w f o cc nL d) (h : zLI op s (zG w f nL (pc + 1))) : zG w f nL pc s := by
  obtain ⟨p, l, e, R, st, m, args, below, meth, c, cells, slots, Q, z⟩ := f
  obtain ⟨hx, hb, -⟩ := hF
  obtain ⟨L, sk, M⟩ := s
  intro hn H locs ls hP hS hL
  match sk, h with
  | .inl y :: .inr (.inl x) :: r, h => exact row hx hb (h hn H locs ls hP hS hL)
theorem zstep_cmp (hd : decode cc pc = .ok (.lcmp, 1)) (hF : zFOK w f o cc nL d) (h : zcmp s (zG w f nL (pc + 1))) : zG w f nL pc s := by
  obtain ⟨p, l, e, R, st, m, args, below, meth, c, cells, slots, Q, z⟩ := f
  obtain ⟨hx, hb, -⟩ := hF
  obtain ⟨L, sk, M⟩ := s
  intro hn H locs ls hP hS hL
  match sk, h with
  | .inr (.inl y) :: .inr (.inl x) :: r, h => exact W.lcmp hx hb hd (h hn H locs ls hP hS hL)
theorem zstep_i2l (hd : decode cc pc = .ok (.i2l, 1)) (hF : zFOK w f o cc nL d) (h : zi2l s (zG w f nL (pc + 1))) : zG w f nL pc s := by
  obtain ⟨p, l, e, R, st, m, args, below, meth, c, cells, slots, Q, z⟩ := f
  obtain ⟨hx, hb, -⟩ := hF
  obtain ⟨L, sk, M⟩ := s
  intro hn H locs ls hP hS hL
  match sk, h with
  | .inl x :: r, h => exact lv_i2l hx hb hd rfl (h hn H locs ls hP hS hL)
theorem zstep_l2i (hd : decode cc pc = .ok (.l2i, 1)) (hF : zFOK w f o cc nL d) (h : zl2i s (zG w f nL (pc + 1))) : zG w f nL pc s := by
  obtain ⟨p, l, e, R, st, m, args, below, meth, c, cells, slots, Q, z⟩ := f
  obtain ⟨hx, hb, -⟩ := hF
  obtain ⟨L, sk, M⟩ := s
  intro hn H locs ls hP hS hL
  match sk, h with
  | .inr (.inl x) :: r, h => exact lv_l2i hx hb hd rfl (h hn H locs ls hP hS hL)
theorem zstep_dup (hd : decode cc pc = .ok (.dup, 1)) (hF : zFOK w f o cc nL d) (h : zdup s (zG w f nL (pc + 1))) : zG w f nL pc s := by
  obtain ⟨p, l, e, R, st, m, args, below, meth, c, cells, slots, Q, z⟩ := f
  obtain ⟨hx, hb, -⟩ := hF
  obtain ⟨L, sk, M⟩ := s
  intro hn H locs ls hP hS hL
  match sk, h with
  | v :: r, h => exact lv_dup hx hb hd (zcat_val h.1) (h.2 hn H locs ls hP hS hL)
theorem zstep_dupx (hd : decode cc pc = .ok (.dup_x1, 1)) (hF : zFOK w f o cc nL d) (h : zdupx s (zG w f nL (pc + 1))) : zG w f nL pc s := by
  obtain ⟨p, l, e, R, st, m, args, below, meth, c, cells, slots, Q, z⟩ := f
  obtain ⟨hx, hb, -⟩ := hF
  obtain ⟨L, sk, M⟩ := s
  intro hn H locs ls hP hS hL
  match sk, h with
  | v :: u :: r, h => exact lv_dup_x1 hx hb hd (zcat_val (Bool.or_eq_false_iff.mp h.1).1) (zcat_val (Bool.or_eq_false_iff.mp h.1).2) (h.2 hn H locs ls hP hS hL)
theorem zstep_dup2 (hd : decode cc pc = .ok (.dup2, 1)) (hF : zFOK w f o cc nL d) (h : zdup2 s (zG w f nL (pc + 1))) : zG w f nL pc s := by
  obtain ⟨p, l, e, R, st, m, args, below, meth, c, cells, slots, Q, z⟩ := f
  obtain ⟨hx, hb, -⟩ := hF
  obtain ⟨L, sk, M⟩ := s
  intro hn H locs ls hP hS hL
  match sk, h with
  | v :: u :: r, h => exact lv_dup2_11 hx hb hd (zcat_val (Bool.or_eq_false_iff.mp h.1).1) (zcat_val (Bool.or_eq_false_iff.mp h.1).2) (h.2 hn H locs ls hP hS hL)
theorem zstep_pop (hd : decode cc pc = .ok (.pop, 1)) (hF : zFOK w f o cc nL d) (h : zpop s (zG w f nL (pc + 1))) : zG w f nL pc s := by
  obtain ⟨p, l, e, R, st, m, args, below, meth, c, cells, slots, Q, z⟩ := f
  obtain ⟨hx, hb, -⟩ := hF
  obtain ⟨L, sk, M⟩ := s
  intro hn H locs ls hP hS hL
  match sk, h with
  | v :: r, h => exact lv_pop hx hb hd (zcat_val h.1) (h.2 hn H locs ls hP hS hL)
theorem zstep_pop2 (hd : decode cc pc = .ok (.pop2, 1)) (hF : zFOK w f o cc nL d) (h : zpop2 s (zG w f nL (pc + 1))) : zG w f nL pc s := by
  obtain ⟨p, l, e, R, st, m, args, below, meth, c, cells, slots, Q, z⟩ := f
  obtain ⟨hx, hb, -⟩ := hF
  obtain ⟨L, sk, M⟩ := s
  intro hn H locs ls hP hS hL
  match sk, h with
  | v :: r, h => exact lv_pop2_2 hx hb hd (zcat_val2 h.1) (h.2 hn H locs ls hP hS hL)
theorem zstep_ldI {k n : Nat} (row : ∀ {p : Program} {l : Launch} {e : Env} {R : Room} {st : State} {m : MethodId} {args : Array Value} {below : List Frame} {meth : Method} {c : Code} {H : Heap} {locs : List Loc} {cells slots : Nat} {Q : State → Prop} {ls : Array Slot} {rest : List Value} {x : Int32}, p.tables.exec = Jvm.exec → c.code = cc → ls[k]? = some (.val (.int x)) →
    W p l e R st m args below meth c H locs cells slots Q (F0 m (pc + n) ls (.int x :: rest)) → W p l e R st m args below meth c H locs cells slots Q (F0 m pc ls rest)) (hF : zFOK w f o cc nL d) (h : zldI k s (zG w f nL (pc + n))) : zG w f nL pc s := by
  obtain ⟨p, l, e, R, st, m, args, below, meth, c, cells, slots, Q, z⟩ := f
  obtain ⟨hx, hb, -⟩ := hF
  obtain ⟨L, sk, M⟩ := s
  intro hn H locs ls hP hS hL
  unfold zldI at h
  split at h
  · rename_i x hv
    exact row hx hb (hL.at hv) (h hn H locs ls hP hS hL)
  · exact h.elim
theorem zstep_ldL {k n : Nat} (row : ∀ {p : Program} {l : Launch} {e : Env} {R : Room} {st : State} {m : MethodId} {args : Array Value} {below : List Frame} {meth : Method} {c : Code} {H : Heap} {locs : List Loc} {cells slots : Nat} {Q : State → Prop} {ls : Array Slot} {rest : List Value} {x : Int64}, p.tables.exec = Jvm.exec → c.code = cc → ls[k]? = some (.val (.long x)) →
    W p l e R st m args below meth c H locs cells slots Q (F0 m (pc + n) ls (.long x :: rest)) → W p l e R st m args below meth c H locs cells slots Q (F0 m pc ls rest)) (hF : zFOK w f o cc nL d) (h : zldL k s (zG w f nL (pc + n))) : zG w f nL pc s := by
  obtain ⟨p, l, e, R, st, m, args, below, meth, c, cells, slots, Q, z⟩ := f
  obtain ⟨hx, hb, -⟩ := hF
  obtain ⟨L, sk, M⟩ := s
  intro hn H locs ls hP hS hL
  unfold zldL at h
  split at h
  · rename_i x hv
    exact row hx hb (hL.at hv) (h hn H locs ls hP hS hL)
  · exact h.elim
theorem zstep_ldR {k n : Nat} (row : ∀ {p : Program} {l : Launch} {e : Env} {R : Room} {st : State} {m : MethodId} {args : Array Value} {below : List Frame} {meth : Method} {c : Code} {H : Heap} {locs : List Loc} {cells slots : Nat} {Q : State → Prop} {ls : Array Slot} {rest : List Value} {x : Nat}, p.tables.exec = Jvm.exec → c.code = cc → ls[k]? = some (.val (.ref x)) →
    W p l e R st m args below meth c H locs cells slots Q (F0 m (pc + n) ls (.ref x :: rest)) → W p l e R st m args below meth c H locs cells slots Q (F0 m pc ls rest)) (hF : zFOK w f o cc nL d) (h : zldR k s (zG w f nL (pc + n))) : zG w f nL pc s := by
  obtain ⟨p, l, e, R, st, m, args, below, meth, c, cells, slots, Q, z⟩ := f
  obtain ⟨hx, hb, -⟩ := hF
  obtain ⟨L, sk, M⟩ := s
  intro hn H locs ls hP hS hL
  unfold zldR at h
  split at h
  · rename_i x hv
    exact row hx hb (hL.at hv) (h hn H locs ls hP hS hL)
  · exact h.elim
theorem zstep_stI {k n : Nat} (row : ∀ {p : Program} {l : Launch} {e : Env} {R : Room} {st : State} {m : MethodId} {args : Array Value} {below : List Frame} {meth : Method} {c : Code} {H : Heap} {locs : List Loc} {cells slots : Nat} {Q : State → Prop} {ls : Array Slot} {rest : List Value} {x : Int32} {lv lv' : List (Nat × Value)} {nL : Nat}, p.tables.exec = Jvm.exec → c.code = cc → lv_has ls nL lv → k < nL → (k, Value.int x) :: lv.filter (fun q => !(q.1 == k) && !(q.1 + 1 == k && q.2.category == 2)) = lv' →
    (∀ ls' : Array Slot, lv_has ls' nL lv' → W p l e R st m args below meth c H locs cells slots Q (F0 m (pc + n) ls' rest)) → W p l e R st m args below meth c H locs cells slots Q (F0 m pc ls (.int x :: rest))) (hF : zFOK w f o cc nL d) (h : zstI k s (zG w f nL (pc + n))) : zG w f nL pc s := by
  obtain ⟨p, l, e, R, st, m, args, below, meth, c, cells, slots, Q, z⟩ := f
  obtain ⟨hx, hb, -⟩ := hF
  obtain ⟨L, sk, M⟩ := s
  intro hn H locs ls hP hS hL
  match sk, h with
  | .inl x :: r, h => exact row hx hb hL.has (by rw [← show L.length = nL from hn]; exact Nat.blt_eq.mp h.1) rfl (fun ls' h' => h.2 ((zst1_len _ _ _).trans hn) H locs ls' hP hS (hL.set1 h'))
theorem zstep_stL {k n : Nat} (row : ∀ {p : Program} {l : Launch} {e : Env} {R : Room} {st : State} {m : MethodId} {args : Array Value} {below : List Frame} {meth : Method} {c : Code} {H : Heap} {locs : List Loc} {cells slots : Nat} {Q : State → Prop} {ls : Array Slot} {rest : List Value} {x : Int64} {lv lv' : List (Nat × Value)} {nL : Nat}, p.tables.exec = Jvm.exec → c.code = cc → lv_has ls nL lv → k + 1 < nL → (k, Value.long x) :: lv.filter (fun q => !(q.1 == k) && (!(q.1 == k + 1) && !(q.1 + 1 == k && q.2.category == 2))) = lv' →
    (∀ ls' : Array Slot, lv_has ls' nL lv' → W p l e R st m args below meth c H locs cells slots Q (F0 m (pc + n) ls' rest)) → W p l e R st m args below meth c H locs cells slots Q (F0 m pc ls (.long x :: rest))) (hF : zFOK w f o cc nL d) (h : zstL k s (zG w f nL (pc + n))) : zG w f nL pc s := by
  obtain ⟨p, l, e, R, st, m, args, below, meth, c, cells, slots, Q, z⟩ := f
  obtain ⟨hx, hb, -⟩ := hF
  obtain ⟨L, sk, M⟩ := s
  intro hn H locs ls hP hS hL
  match sk, h with
  | .inr (.inl x) :: r, h => exact row hx hb hL.has (by rw [← show L.length = nL from hn]; exact Nat.blt_eq.mp h.1) rfl (fun ls' h' => h.2 ((zst2_len _ _ _).trans hn) H locs ls' hP hS (hL.set2 h'))
theorem zstep_stR {k n : Nat} (row : ∀ {p : Program} {l : Launch} {e : Env} {R : Room} {st : State} {m : MethodId} {args : Array Value} {below : List Frame} {meth : Method} {c : Code} {H : Heap} {locs : List Loc} {cells slots : Nat} {Q : State → Prop} {ls : Array Slot} {rest : List Value} {x : Nat} {lv lv' : List (Nat × Value)} {nL : Nat}, p.tables.exec = Jvm.exec → c.code = cc → lv_has ls nL lv → k < nL → (k, Value.ref x) :: lv.filter (fun q => !(q.1 == k) && !(q.1 + 1 == k && q.2.category == 2)) = lv' →
    (∀ ls' : Array Slot, lv_has ls' nL lv' → W p l e R st m args below meth c H locs cells slots Q (F0 m (pc + n) ls' rest)) → W p l e R st m args below meth c H locs cells slots Q (F0 m pc ls (.ref x :: rest))) (hF : zFOK w f o cc nL d) (h : zstR k s (zG w f nL (pc + n))) : zG w f nL pc s := by
  obtain ⟨p, l, e, R, st, m, args, below, meth, c, cells, slots, Q, z⟩ := f
  obtain ⟨hx, hb, -⟩ := hF
  obtain ⟨L, sk, M⟩ := s
  intro hn H locs ls hP hS hL
  match sk, h with
  | .inr (.inr x) :: r, h => exact row hx hb hL.has (by rw [← show L.length = nL from hn]; exact Nat.blt_eq.mp h.1) rfl (fun ls' h' => h.2 ((zst1_len _ _ _).trans hn) H locs ls' hP hS (hL.set1 h'))
theorem zstep_inc {k : Nat} {v : Int} {x : Int32} (hd : decode cc pc = .ok (.iinc k v, 3)) (hv : Int32.ofInt v = x) (hF : zFOK w f o cc nL d) (h : zinc k (.inl x) s (zG w f nL (pc + 3))) : zG w f nL pc s := by
  obtain ⟨p, l, e, R, st, m, args, below, meth, c, cells, slots, Q, z⟩ := f
  obtain ⟨hx, hb, -⟩ := hF
  obtain ⟨L, sk, M⟩ := s
  intro hn H locs ls hP hS hL
  unfold zinc at h
  split at h
  · rename_i q1 q2 y e hv'
    cases e
    have hk : k < nL := by rw [← show L.length = nL from hn]; exact Nat.blt_eq.mp h.1
    have hm := zlv_mem (ad := w.2.2.1) hk hv'
    obtain ⟨k9, hk9⟩ := List.getElem?_of_mem hm
    subst hv
    exact lv_iinc hx hb hd hL.has hk9 rfl hk rfl (fun ls' h' => h.2 ((zst1_len _ _ _).trans hn) H locs ls' hP hS (hL.set1 h'))
  · exact h.elim
end ZST2
