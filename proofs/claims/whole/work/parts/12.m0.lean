/-! the constructors: blocks of their code -/
theorem c_join {D : va_G} {cl : List vw_C} {A0 : Nat → Prop} {ws w1 : va_W} {x : Nat × va_E} {H H1 : Heap} (hP : va_P D cl (ws ++ [x]) H) (hD : va_D A0 (ws ++ [x]))
    (hk : ∀ q : Nat, q < H.size → ¬ va_A [x] H.size q → H1[q]? = H[q]?) (hF : ∀ q, va_A [x] H.size q → A0 q) (hP1 : va_P D cl w1 H1) (hD1 : va_D (va_A [x] H.size) w1) : va_P D cl (ws ++ w1) H1 ∧ va_D A0 (ws ++ w1) := by
  have hws : ∀ (k : Nat) (q : Nat × va_E), ws[k]? = some q → (ws ++ [x])[k]? = some q := fun k q h => by
    rw [List.getElem?_append_left (List.getElem?_eq_some_iff.mp h).1]; exact h
  have hx : (ws ++ [x])[ws.length]? = some x := by simp
  have hne : ∀ (k : Nat) (q : Nat × va_E), ws[k]? = some q → ¬ va_A [x] H.size q.1 := fun k q h hq => by
    rcases hq with ⟨j, e, hj⟩ | hq
    · have hj0 : j < 1 := (List.getElem?_eq_some_iff.mp hj).1
      rw [show j = 0 by omega] at hj
      have hxx : x = (q.1, e) := Option.some.inj hj
      have h1 := hD.1 k ws.length q x (hws k q h) hx (by rw [hxx])
      have h2 := (List.getElem?_eq_some_iff.mp h).1
      omega
    · exact Nat.lt_irrefl _ (Nat.lt_of_lt_of_le (hP k q (hws k q h)).lt hq)
  have hPw : va_P D cl ws H1 := fun k q h => (hP k q (hws k q h)).kept (hk q.1 (hP k q (hws k q h)).lt (hne k q h))
  refine ⟨hPw.app hP1, va_D.app ⟨fun i j p q h1 h2 => hD.1 i j p q (hws i p h1) (hws j q h2), fun k q h => hD.2 k q (hws k q h)⟩ (hD1.weaken (fun k q _ h => hF q.1 h)) (fun i j p q h1 h2 he => hne i p h1 (by rw [he]; exact hD1.2 j q h2))⟩
abbrev cT3 : Type := ClassId × ClassId × ClassId
def cTy (t : cT3) : List (ClassId × FieldType) := [(t.1, .int), (t.2.1, .long), (t.2.2, .object "NoArmsCrossed$Shelf")]
/-- an object as new makes it -/
def cNew (c : Nat) (ty : Nat → FieldType) : va_E := .inr (zci c, (List.range (zlen c)).map (fun j => defaultValue (ty j)))
abbrev cZI (t : cT3) (q n : Nat) : Nat × va_E := (q, .inl (t.1, n, .inl (fun _ => 0)))
abbrev cZL (t : cT3) (q n : Nat) : Nat × va_E := (q, .inl (t.2.1, n, .inr (.inl (fun _ => 0))))
def cNest : List Cond := [.methodLinkNest RX6 9 yX5_init RX6, .methodLinkNest RX6 34 yX2_init RX6, .methodLinkNest RX6 41 yX1_init RX6, .methodLinkNest RX6 48 yX3_init RX6, .methodLinkNest RX6 55 yX0_init RX6, .methodLinkNest RX6 68 yX4_init RX6]
/-- what a constructor's caller knows of the tables -/
def cSt (U : State) : Prop := va_AO RX4 U ∧ ∀ x ∈ cNest, va_Nw x U
theorem cSt.warm {s U : State} (hW : s.WarmedH U.vm) (h : cSt s) : cSt U := by
  refine ⟨va_AO.moved hW.alike h.1, fun x hx => ?_⟩
  have hx' := h.2 x hx
  simp only [cNest, List.mem_cons, List.not_mem_nil, or_false] at hx
  rcases hx with rfl | rfl | rfl | rfl | rfl | rfl
  all_goals exact va_Nw.warmM hW hx'
theorem cSt.same {u U : State} (hv : u.vm = U.vm) (h : cSt u) : cSt U := by
  refine ⟨va_AO.moved (by rw [hv]; exact Vm.Alike.refl _) h.1, fun x hx => ?_⟩
  have hx' := h.2 x hx
  simp only [cNest, List.mem_cons, List.not_mem_nil, or_false] at hx
  rcases hx with rfl | rfl | rfl | rfl | rfl | rfl
  all_goals exact va_Nw.same rfl hv hx'
def cOK (D : va_G) (t : cT3) (A : Nat → Prop) (p : Program) (s : State) (m : MethodId) (args : Array Value) (c9 : Code) (o nL : Nat) (cc : ByteArray) : Prop :=
  p.tables.exec = Jvm.exec ∧ c9.code = cc ∧ c9.maxLocals = nL ∧ s.vm.findClass (zN o) = some m.cls ∧ (∀ x ∈ zGW, x.before args s = true) ∧ va_K D vwCl (cTy t) s ∧ (∀ q : Nat, s.heap.size ≤ q → A q) ∧ cSt s
section CINIT
variable {D : va_G} {t : cT3} {A : Nat → Prop} {p : Program} {l : Launch} {e : Env} {R : Room} {s : State} {m : MethodId} {args : Array Value} {below : List Frame} {meth : Method} {c9 : Code} {o nL : Nat} {cc : ByteArray} {H : Heap} {locs : List Loc} {ls : Array Slot} {rest : List Value} {Q : State → Prop} {ws : va_W}
theorem c_ints {n : Int32} (N : Nat) {pc : Nat} (pc' : Nat) {cells : Nat} (cells' : Nat) {slots : Nat} (slots' : Nat) (hF : cOK D t A p s m args c9 o nL cc) (hw : Cond.arrayClass .int ∈ zGW) (hP : va_P D vwCl ws H) (hD : va_D A ws) (hS : va_S A s.heap H locs)
    (hn : ¬ n < 0) (hN : n.toNatClampNeg = N) (hb : Nat.ble N 100000 = true) (h1 : cells + 1 = cells') (h2 : slots + N = slots') (h3 : pc + 2 = pc') (h4 : Nat.ble cells' R.cells = true) (h5 : Nat.ble slots' R.slots = true) (hdg : decode cc pc = .ok (.newarray .int, 2))
    (kk : ∀ (q : Nat) (H1 : Heap), va_P D vwCl (ws ++ [cZI t q N]) H1 → va_D A (ws ++ [cZI t q N]) → va_S A s.heap H1 locs → W p l e R s m args below meth c9 H1 locs cells' slots' Q (F0 m pc' ls (.ref q :: rest))) : W p l e R s m args below meth c9 H locs cells slots Q (F0 m pc ls (.int n :: rest)) := by
  subst h1 h2 h3
  obtain ⟨hx, hc, hml, hown, hts, hK, hA, hAO⟩ := hF
  refine va_newa (atype := .int) (ty := .int) (a0 := (N, .inl (fun _ => 0))) hx hc (hts _ hw) rfl hK hP hD hS hA (fun cA => rfl) hn hN (by show N * 4 ≤ _; have := Nat.le_of_ble_eq_true hb; omega) (Nat.le_of_ble_eq_true h4) (Nat.le_of_ble_eq_true h5) hdg (fun q cA H1 hK1 hP1 hD1 hS1 => ?_)
  have e1 : s.vm.findClass ("[" ++ FieldType.int.toString) = some cA := (hK1.2 3 (cA, .int) rfl).2
  have e2 : s.vm.findClass ("[" ++ FieldType.int.toString) = some t.1 := (hK.2 0 (t.1, .int) rfl).2
  have e3 : cA = t.1 := Option.some.inj (e1.symm.trans e2)
  subst e3
  exact kk q H1 hP1 hD1 hS1
theorem c_longs {n : Int32} (N : Nat) {pc : Nat} (pc' : Nat) {cells : Nat} (cells' : Nat) {slots : Nat} (slots' : Nat) (hF : cOK D t A p s m args c9 o nL cc) (hw : Cond.arrayClass .long ∈ zGW) (hP : va_P D vwCl ws H) (hD : va_D A ws) (hS : va_S A s.heap H locs)
    (hn : ¬ n < 0) (hN : n.toNatClampNeg = N) (hb : Nat.ble N 100000 = true) (h1 : cells + 1 = cells') (h2 : slots + N = slots') (h3 : pc + 2 = pc') (h4 : Nat.ble cells' R.cells = true) (h5 : Nat.ble slots' R.slots = true) (hdg : decode cc pc = .ok (.newarray .long, 2))
    (kk : ∀ (q : Nat) (H1 : Heap), va_P D vwCl (ws ++ [cZL t q N]) H1 → va_D A (ws ++ [cZL t q N]) → va_S A s.heap H1 locs → W p l e R s m args below meth c9 H1 locs cells' slots' Q (F0 m pc' ls (.ref q :: rest))) : W p l e R s m args below meth c9 H locs cells slots Q (F0 m pc ls (.int n :: rest)) := by
  subst h1 h2 h3
  obtain ⟨hx, hc, hml, hown, hts, hK, hA, hAO⟩ := hF
  refine va_newa (atype := .long) (ty := .long) (a0 := (N, .inr (.inl (fun _ => 0)))) hx hc (hts _ hw) rfl hK hP hD hS hA (fun cA => rfl) hn hN (by show N * 8 ≤ _; have := Nat.le_of_ble_eq_true hb; omega) (Nat.le_of_ble_eq_true h4) (Nat.le_of_ble_eq_true h5) hdg (fun q cA H1 hK1 hP1 hD1 hS1 => ?_)
  have e1 : s.vm.findClass ("[" ++ FieldType.long.toString) = some cA := (hK1.2 3 (cA, .long) rfl).2
  have e2 : s.vm.findClass ("[" ++ FieldType.long.toString) = some t.2.1 := (hK.2 1 (t.2.1, .long) rfl).2
  have e3 : cA = t.2.1 := Option.some.inj (e1.symm.trans e2)
  subst e3
  exact kk q H1 hP1 hD1 hS1
theorem c_shelves {n : Int32} (N : Nat) {pc idx : Nat} (pc' : Nat) {cells : Nat} (cells' : Nat) {slots : Nat} (slots' : Nat) (hF : cOK D t A p s m args c9 o nL cc) (hw : Cond.classLink (zN o) idx RX4 ∈ zGW) (hP : va_P D vwCl ws H) (hD : va_D A ws) (hS : va_S A s.heap H locs)
    (hn : ¬ n < 0) (hN : n.toNatClampNeg = N) (hb : Nat.ble N 100000 = true) (h1 : cells + 1 = cells') (h2 : slots + N = slots') (h3 : pc + 3 = pc') (h4 : Nat.ble cells' R.cells = true) (h5 : Nat.ble slots' R.slots = true) (hdg : decode cc pc = .ok (.anewarray idx, 3))
    (kk : ∀ (q : Nat) (H1 : Heap), va_P D vwCl (ws ++ [(q, .inl (t.2.2, N, .inr (.inr (.inr (.inr (fun _ => none))))))]) H1 → va_D A (ws ++ [(q, .inl (t.2.2, N, .inr (.inr (.inr (.inr (fun _ => none))))))]) → va_S A s.heap H1 locs → W p l e R s m args below meth c9 H1 locs cells' slots' Q (F0 m pc' ls (.ref q :: rest))) : W p l e R s m args below meth c9 H locs cells slots Q (F0 m pc ls (.int n :: rest)) := by
  subst h1 h2 h3
  obtain ⟨hx, hc, hml, hown, hts, hK, hA, hAO⟩ := hF
  refine va_newq (C := RX4) hx hc hown (hts _ hw) hAO.1 hK hP hD hS hA hn hN (by have := Nat.le_of_ble_eq_true hb; omega) (Nat.le_of_ble_eq_true h4) (Nat.le_of_ble_eq_true h5) hdg (fun q cA H1 hK1 hP1 hD1 hS1 => ?_)
  obtain ⟨-, -, -, -, -, e1⟩ := (hK1.2 3 (cA, .object RX4) rfl).2
  obtain ⟨-, -, -, -, -, e2⟩ := (hK.2 2 (t.2.2, .object RX4) rfl).2
  have e3 : cA = t.2.2 := Option.some.inj (e1.symm.trans e2)
  subst e3
  exact kk q H1 hP1 hD1 hS1
theorem c_put {c k idx a : Nat} {fs : List Value} (fs' : List Value) {pc : Nat} (pc' : Nat) {cells slots : Nat} {ty : FieldType} {v : Value} (hF : cOK D t A p s m args c9 o nL cc) (hi : meth.name = "<init>") (h0 : (Nat.beq (zkd c) 0) = true) (hkl : Nat.blt k (zlen c) = true) (hoc : zR c = zN o) (hfl : zFL.any (fun q => Nat.beq q.1 o && (Nat.beq q.2.1 idx && (Nat.beq q.2.2.1 c && Nat.beq q.2.2.2.1 k))) = true) (hd : parseFieldDescriptor (zT c k).2.2.1 = some ty) (hn : narrow ty v = v) (hfit : fits ty v = true) (hl : fs.length = zlen c) (hfs : fs.set k v = fs')
    (hP : va_P D vwCl ((a, .inr (zci c, fs)) :: ws) H) (hD : va_D A ((a, .inr (zci c, fs)) :: ws)) (hS : va_S A s.heap H locs) (h3 : pc + 3 = pc') (hdg : decode cc pc = .ok (.putfield idx, 3))
    (kk : ∀ (H1 : Heap) (locs1 : List Loc), fs'.length = zlen c → va_P D vwCl ((a, .inr (zci c, fs')) :: ws) H1 → va_D A ((a, .inr (zci c, fs')) :: ws) → va_S A s.heap H1 locs1 → W p l e R s m args below meth c9 H1 locs1 cells slots Q (F0 m pc' ls rest)) : W p l e R s m args below meth c9 H locs cells slots Q (F0 m pc ls (v :: .ref a :: rest)) := by
  subst h3
  obtain ⟨hx, hc, hml, hown, hts, hK, hA, hAO⟩ := hF
  have hk0 := zbeq h0
  have hk := Nat.blt_eq.mp hkl
  obtain ⟨g1, g2, g3, ty0, g4⟩ := zobj hk0
  have hw := zown hk0 hk
  have hlink := zFL_in hfl
  have hl' : k < fs.length := by rw [hl]; exact hk
  subst hfs
  have kk := fun H1 locs1 => kk H1 locs1 (by rw [List.length_set]; exact hl)
  cases hfin : (zT c k).2.2.2 with
  | false => exact va_put (C := zR c) (T := zT c) (N := zlen c) (ref := zR c) hx hc hts g2 ty0 g4 g3 hown hK hP hD hS 0 rfl g1 k hk (hts _ hlink) (fun x hx => by rw [hw] at hx; exact hx) hfin hd hn hfit hl' hdg kk
  | true => exact va_putF (C := zR c) (T := zT c) (N := zlen c) (ref := zR c) hx hc hts g2 ty0 g4 g3 hown hK hP hD hS 0 rfl g1 k hk (hts _ hlink) (fun x hx => by rw [hw] at hx; exact hx) hfin hi (hw.trans hoc) hd hn hfit hl' hdg kk
theorem c_word {X : va_W} {q n pc cells slots : Nat} (pc' : Nat) {f : Nat → Int32} {i x : Int32} (hF : cOK D t A p s m args c9 o nL cc) (hP : va_P D vwCl (X ++ [(q, .inl (t.1, n, .inl f))]) H) (hD : va_D A (X ++ [(q, .inl (t.1, n, .inl f))])) (hS : va_S A s.heap H locs) (hin : inb i n = true) (h3 : pc + 1 = pc') (hdg : decode cc pc = .ok (.iastore, 1))
    (kk : ∀ (H1 : Heap) (locs1 : List Loc), va_P D vwCl (X ++ [(q, .inl (t.1, n, .inl (upd f i.toNatClampNeg x)))]) H1 → va_D A (X ++ [(q, .inl (t.1, n, .inl (upd f i.toNatClampNeg x)))]) → va_S A s.heap H1 locs1 → W p l e R s m args below meth c9 H1 locs1 cells slots Q (F0 m pc' ls rest)) : W p l e R s m args below meth c9 H locs cells slots Q (F0 m pc ls (.int x :: .int i :: .ref q :: rest)) := by
  subst h3
  obtain ⟨hx, hc, hml, hown, hts, hK, hA, hAO⟩ := hF
  refine va_iast hx hc hK hP hD hS X.length 0 (a := q) (cA := t.1) (n := n) (f := f) (by simp) rfl (zinb hin) hdg (fun H1 locs1 a1 a2 a3 => kk H1 locs1 ?_ ?_ a3)
  · rw [List.set_append_right X.length _ (Nat.le_refl _)] at a1
    simpa using a1
  · rw [List.set_append_right X.length _ (Nat.le_refl _)] at a2
    simpa using a2
theorem c_new {c idx : Nat} {pc : Nat} (pc' : Nat) {cells : Nat} (cells' : Nat) {slots : Nat} (slots' : Nat) (ty : Nat → FieldType) (hF : cOK D t A p s m args c9 o nL cc) (h0 : (Nat.beq (zkd c) 0) = true) (hty : ∀ k, k < zlen c → parseFieldDescriptor (zT c k).2.2.1 = some (ty k)) (w1 : Cond.classLink (zN o) idx (zR c) ∈ zGW) (w2 : Cond.instantiable (zR c) (zlen c) ∈ zGW) (w3 : Cond.initialized (zR c) ∈ zGW)
    (hP : va_P D vwCl ws H) (hD : va_D A ws) (hS : va_S A s.heap H locs) (h1 : cells + 1 = cells') (h2 : slots + zlen c = slots') (h3 : pc + 3 = pc') (h4 : Nat.ble cells' R.cells = true) (h5 : Nat.ble slots' R.slots = true) (hdg : decode cc pc = .ok (.new idx, 3))
    (kk : ∀ (q : Nat) (H1 : Heap), va_P D vwCl (ws ++ [(q, cNew c ty)]) H1 → va_D A (ws ++ [(q, cNew c ty)]) → va_S A s.heap H1 locs → W p l e R s m args below meth c9 H1 locs cells' slots' Q (F0 m pc' ls (.ref q :: rest))) : W p l e R s m args below meth c9 H locs cells slots Q (F0 m pc ls rest) := by
  subst h1 h2 h3
  obtain ⟨hx, hc, hml, hown, hts, hK, hA, hAO⟩ := hF
  have hk0 := zbeq h0
  obtain ⟨g1, g2, g3, -⟩ := zobj hk0
  refine va_new (C := zR c) (T := zT c) (N := zlen c) (ci := zci c) hx hc hts g2 ty hty hown (hts _ w1) (hts _ w2) (hts _ w3) hK hP hD hS hA g1 (fs := (List.range (zlen c)).map (fun j => defaultValue (ty j))) (fun j hj => ?_) (Nat.le_of_ble_eq_true h4) (Nat.le_of_ble_eq_true h5) hdg kk
  unfold vp_V
  rw [List.getD_eq_getElem?_getD, List.getElem?_map, List.getElem?_range hj]
  rfl
/-- a constructor's contract: the new object alone before, the block of cells wf after -/
def cMet (l : Launch) (D : va_G) (t : cT3) (c : Nat) (ty : Nat → FieldType) (y : MethodName) (b : ByteArray) (mL fr mc ms : Nat) (wf : Nat → (Nat → Nat) → va_W) : Prop :=
  ∀ q sz : Nat, Met l y (.code y b mL none :: zGW) { frames := fr, cells := mc, slots := ms, locals := 100 * fr } (va_Pc [.ref q] (fun U => U.heap.size = sz ∧ va_P D vwCl [(q, cNew c ty)] U.heap ∧ va_K D vwCl (cTy t) U ∧ va_D (fun _ => True) [(q, cNew c ty)] ∧ cSt U)) (va_Qv (fun _ : Nat → Nat => True) (fun u U => va_P D vwCl (wf q u) U.heap ∧ va_D (va_A [(q, cNew c ty)] sz) (wf q u)) (va_A [(q, cNew c ty)] sz)) mc ms (va_A [(q, cNew c ty)] sz)
theorem c_call {c idx q : Nat} {pc : Nat} (pc' : Nat) {cells : Nat} (cells' : Nat) {slots : Nat} (slots' : Nat) {ty : Nat → FieldType} {y : MethodName} {b : ByteArray} {mL fr mc ms : Nat} {wf : Nat → (Nat → Nat) → va_W} (hF : cOK D t A p s m args c9 o nL cc) (hM : cMet l D t c ty y b mL fr mc ms wf) (w1 : Cond.code y b mL none ∈ zGW) (w2 : Cond.initialized y.cls ∈ zGW) (w3 : Cond.methodLink (zN o) idx y ∈ zGW) (w4 : Cond.instanceMethod y ∈ zGW) (hy1 : y.name = "<init>") (hy2 : y.cls ≠ "java/lang/invoke/MethodHandle" ∧ y.cls ≠ "java/lang/invoke/VarHandle" ∧ (parseMethodDescriptor y.desc).map (fun d => d.parameters.length) = some 0)
    (hP : va_P D vwCl (ws ++ [(q, cNew c ty)]) H) (hD : va_D A (ws ++ [(q, cNew c ty)])) (hS : va_S A s.heap H locs) (hsz : ls.size = nL) (hR : Nat.ble (fr + 1) R.frames = true ∧ Nat.ble (8 + (mL + 11) + 100 * fr) R.locals = true) (hroom : (rest.map fun v => v.category).sum ≤ 8) (h1 : cells + mc = cells') (h2 : slots + ms = slots') (h3 : pc + 3 = pc') (h4 : Nat.ble cells' R.cells = true) (h5 : Nat.ble slots' R.slots = true) (hdg : decode cc pc = .ok (.invokespecial idx, 3))
    (kk : ∀ (u : Nat → Nat) (H1 : Heap) (locs1 : List Loc), va_P D vwCl (ws ++ wf q u) H1 → va_D A (ws ++ wf q u) → va_S A s.heap H1 locs1 → W p l e R s m args below meth c9 H1 locs1 cells' slots' Q (F0 m pc' ls rest)) : W p l e R s m args below meth c9 H locs cells slots Q (F0 m pc ls (.ref q :: rest)) := by
  subst h1 h2 h3
  obtain ⟨hx, hc, hml, hown, hts, hK, hA, hAO⟩ := hF
  have hlast : (ws ++ [(q, cNew c ty)])[ws.length]? = some (q, cNew c ty) := by simp
  have hFc : ∀ x, va_A [(q, cNew c ty)] H.size x → A x := fun x h => by
    rcases h with ⟨j, e, hj⟩ | h
    · have hj0 : j < 1 := (List.getElem?_eq_some_iff.mp hj).1
      rw [show j = 0 by omega] at hj
      have hxx : (q, cNew c ty) = (x, e) := Option.some.inj hj
      have := hD.2 ws.length _ hlast
      cases hxx
      exact this
    · exact hA x (Nat.le_trans hS.1 h)
  have hPc : va_P D vwCl [(q, cNew c ty)] H := fun k x hx => by
    have hk0 : k < 1 := (List.getElem?_eq_some_iff.mp hx).1
    rw [show k = 0 by omega] at hx
    cases hx
    exact hP ws.length _ hlast
  have hDc : va_D (fun _ => True) [(q, cNew c ty)] := ⟨fun i j a b ha hb _ => by
    have h1 : i < 1 := (List.getElem?_eq_some_iff.mp ha).1
    have h2 : j < 1 := (List.getElem?_eq_some_iff.mp hb).1
    omega, fun _ _ _ => trivial⟩
  refine va_callv (va_runI (As := []) (rest := rest) ⟨hx, hc, hml, hown, hts⟩ (hM q H.size) (cwI 0 hts (zgw_good w1) rfl rfl rfl (hts _ w2) (hts _ w3) (hts _ w4) hy1 hy2 ⟨Nat.le_of_ble_eq_true hR.1, Nat.le_of_ble_eq_true hR.2⟩)
    ⟨fun a U g mk z => by obtain ⟨q0, q1, qP, qK, qD, qA⟩ := z; exact ⟨q0, q1, qP, va_K.moved (u := U) (U := U.calling g mk a) (Vm.Alike.refl U.vm) qK, qD, cSt.same (u := U) (U := U.calling g mk a) rfl qA⟩, fun U hU hW => ⟨rfl, by rw [hU], by rw [hU]; exact hPc, va_K.moved hW.alike hK, hDc, hAO.warm hW⟩⟩ rfl rfl hsz rfl (lv_room hroom) hdg ⟨Nat.le_of_ble_eq_true h4, Nat.le_of_ble_eq_true h5⟩) hS (fun x _ h => hFc x h) hFc (fun u t1 H1 locs1 ht hvm hw hB hz1 hk1 hS1 => ?_)
  obtain ⟨hP1, hD1⟩ := hB
  rw [ht] at hP1
  obtain ⟨a1, a2⟩ := c_join hP hD hk1 hFc hP1 hD1
  exact kk u H1 locs1 a1 a2 hS1
theorem c_callN {c idx q : Nat} {pc : Nat} (pc' : Nat) {cells : Nat} (cells' : Nat) {slots : Nat} (slots' : Nat) {ty : Nat → FieldType} {y : MethodName} {b : ByteArray} {mL fr mc ms : Nat} {wf : Nat → (Nat → Nat) → va_W} (hF : cOK D t A p s m args c9 o nL cc) (hM : cMet l D t c ty y b mL fr mc ms wf) (w1 : Cond.code y b mL none ∈ zGW) (w2 : Cond.initialized y.cls ∈ zGW) (w3 : Cond.methodLinkNest (zN o) idx y RX6 ∈ cNest) (w4 : Cond.instanceMethod y ∈ zGW) (hy1 : y.name = "<init>") (hy2 : y.cls ≠ "java/lang/invoke/MethodHandle" ∧ y.cls ≠ "java/lang/invoke/VarHandle" ∧ (parseMethodDescriptor y.desc).map (fun d => d.parameters.length) = some 0)
    (hP : va_P D vwCl (ws ++ [(q, cNew c ty)]) H) (hD : va_D A (ws ++ [(q, cNew c ty)])) (hS : va_S A s.heap H locs) (hsz : ls.size = nL) (hR : Nat.ble (fr + 1) R.frames = true ∧ Nat.ble (8 + (mL + 11) + 100 * fr) R.locals = true) (hroom : (rest.map fun v => v.category).sum ≤ 8) (h1 : cells + mc = cells') (h2 : slots + ms = slots') (h3 : pc + 3 = pc') (h4 : Nat.ble cells' R.cells = true) (h5 : Nat.ble slots' R.slots = true) (hdg : decode cc pc = .ok (.invokespecial idx, 3))
    (kk : ∀ (u : Nat → Nat) (H1 : Heap) (locs1 : List Loc), va_P D vwCl (ws ++ wf q u) H1 → va_D A (ws ++ wf q u) → va_S A s.heap H1 locs1 → W p l e R s m args below meth c9 H1 locs1 cells' slots' Q (F0 m pc' ls rest)) : W p l e R s m args below meth c9 H locs cells slots Q (F0 m pc ls (.ref q :: rest)) := by
  subst h1 h2 h3
  obtain ⟨hx, hc, hml, hown, hts, hK, hA, hAO⟩ := hF
  have hlast : (ws ++ [(q, cNew c ty)])[ws.length]? = some (q, cNew c ty) := by simp
  have hFc : ∀ x, va_A [(q, cNew c ty)] H.size x → A x := fun x h => by
    rcases h with ⟨j, e, hj⟩ | h
    · have hj0 : j < 1 := (List.getElem?_eq_some_iff.mp hj).1
      rw [show j = 0 by omega] at hj
      have hxx : (q, cNew c ty) = (x, e) := Option.some.inj hj
      have := hD.2 ws.length _ hlast
      cases hxx
      exact this
    · exact hA x (Nat.le_trans hS.1 h)
  have hPc : va_P D vwCl [(q, cNew c ty)] H := fun k x hx => by
    have hk0 : k < 1 := (List.getElem?_eq_some_iff.mp hx).1
    rw [show k = 0 by omega] at hx
    cases hx
    exact hP ws.length _ hlast
  have hDc : va_D (fun _ => True) [(q, cNew c ty)] := ⟨fun i j a b ha hb _ => by
    have h1 : i < 1 := (List.getElem?_eq_some_iff.mp ha).1
    have h2 : j < 1 := (List.getElem?_eq_some_iff.mp hb).1
    omega, fun _ _ _ => trivial⟩
  refine va_callv (va_runIN (As := []) (rest := rest) ⟨hx, hc, hml, hown, hts⟩ (hM q H.size) ⟨va_cnB 0 hts (zgw_good w1) rfl rfl rfl (hAO.2 _ w3) (hts _ w2) hy2 ⟨Nat.le_of_ble_eq_true hR.1, Nat.le_of_ble_eq_true hR.2⟩, hy1, hts _ w4⟩
    ⟨fun a U g mk z => by obtain ⟨q0, q1, qP, qK, qD, qA⟩ := z; exact ⟨q0, q1, qP, va_K.moved (u := U) (U := U.calling g mk a) (Vm.Alike.refl U.vm) qK, qD, cSt.same (u := U) (U := U.calling g mk a) rfl qA⟩, fun U hU hW => ⟨rfl, by rw [hU], by rw [hU]; exact hPc, va_K.moved hW.alike hK, hDc, hAO.warm hW⟩⟩ rfl rfl hsz rfl (lv_room hroom) hdg ⟨Nat.le_of_ble_eq_true h4, Nat.le_of_ble_eq_true h5⟩) hS (fun x _ h => hFc x h) hFc (fun u t1 H1 locs1 ht hvm hw hB hz1 hk1 hS1 => ?_)
  obtain ⟨hP1, hD1⟩ := hB
  rw [ht] at hP1
  obtain ⟨a1, a2⟩ := c_join hP hD hk1 hFc hP1 hD1
  exact kk u H1 locs1 a1 a2 hS1
theorem c_obj {idx a : Nat} {pc : Nat} (pc' : Nat) {cells slots : Nat} (hF : cOK D t A p s m args c9 o nL cc) (w1 : Cond.methodLink (zN o) idx objectInit ∈ zGW) (w2 : Cond.instanceMethod objectInit ∈ zGW) (w3 : Cond.code objectInit ⟨#[0xb1]⟩ 1 none ∈ zGW) (hsz : ls.size = nL) (hR : Nat.ble 1 R.frames = true ∧ Nat.ble 20 R.locals = true) (h3 : pc + 3 = pc') (hdg : decode cc pc = .ok (.invokespecial idx, 3)) (kk : W p l e R s m args below meth c9 H locs cells slots Q (F0 m pc' ls [])) : W p l e R s m args below meth c9 H locs cells slots Q (F0 m pc ls [.ref a]) := by
  subst h3
  obtain ⟨hx, hc, hml, hown, hts, hK, hA, hAO⟩ := hF
  refine W.objInit hx hc hown (hts _ w1) (hts _ w2) (hts _ w3) rfl (by rw [hml]; exact hsz) rfl hdg (Nat.le_of_ble_eq_true hR.1) (by show 2 * 0 + 0 + 12 ≤ _; have := Nat.le_of_ble_eq_true hR.2; omega) ?_
  exact kk
theorem c_met {c : Nat} {ty : Nat → FieldType} {y : MethodName} {b : ByteArray} {mL fr mc ms : Nat} {wf : Nat → (Nat → Nat) → va_W} (hy : plainName y.cls = true) (hown : zN o = y.cls) (hy1 : y.name = "<init>") (hfit : Nat.ble 1 mL = true)
    (body : ∀ (p : Program) (e : Env) (s : State) (m : MethodId) (args : Array Value) (below : List Frame) (meth : Method) (c9 : Code) (A : Nat → Prop) (Q : State → Prop) (ls : Array Slot) (q : Nat), cOK D t A p s m args c9 o mL b → meth.name = "<init>" → lv_has ls mL [(0, .ref q)] → va_P D vwCl [(q, cNew c ty)] s.heap → va_D A [(q, cNew c ty)] →
      (∀ (u : Nat → Nat) (H : Heap) (locs : List Loc) (ls' : Array Slot) (pc : Nat), va_P D vwCl (wf q u) H → va_D A (wf q u) → va_S A s.heap H locs → decode b pc = .ok (.return_, 1) → W p l e { frames := fr, cells := mc, slots := ms, locals := 100 * fr } s m args below meth c9 H locs mc ms Q (F0 m pc ls' [])) →
      W p l e { frames := fr, cells := mc, slots := ms, locals := 100 * fr } s m args below meth c9 s.heap [] 0 0 Q (F0 m 0 ls [])) : cMet l D t c ty y b mL fr mc ms wf := by
  intro q sz
  refine Met.ofW (cc := b) (maxL := mL) (ret := none) hy rfl ?_
  intro p e s m args below meth c9 s₁ B hml hv
  obtain ⟨rfl, hsz, hP, hK, hD0, hAO⟩ := hv
  have hts := atoms_spec (ws := .code y b mL none :: zGW) B.pre
  have hfc : s.vm.findClass (zN o) = some m.cls := by rw [hown]; exact findClass_of_methodNamed B.named
  have hin : meth.name = "<init>" := (name_of_methodNamed B.named B.method).1.trans hy1
  have hlocks := B.notSynchronized
  subst hsz
  have hl := lv_entry ([.ref q]) (n := mL) (Nat.le_of_ble_eq_true hfit)
  rw [lg_entry_eq]
  refine body p e s m _ below meth c9 (va_A [(q, cNew c ty)] s.heap.size) _ _ q ⟨B.exec, B.bytes, hml, hfc, fun x hx => hts x (List.mem_cons_of_mem _ hx), hK, fun x h => Or.inr h, hAO⟩ hin hl hP hD0.self (fun u H locs ls' pc hP1 hD1 hS1 hdg => ?_)
  exact W.vret B.exec B.bytes B.returns (fun t1 ht hW => ⟨⟨u, rfl, trivial, by rw [ht]; exact hP1, hD1⟩, hS1.F ht⟩) hS1.2.2 hdg
end CINIT
section CONE
variable {D : va_G} {t : cT3} {A : Nat → Prop} {p : Program} {l : Launch} {e : Env} {R : Room} {s : State} {m : MethodId} {args : Array Value} {below : List Frame} {meth : Method} {c9 : Code} {o nL : Nat} {cc : ByteArray} {H : Heap} {locs : List Loc} {ls : Array Slot} {rest : List Value} {Q : State → Prop} {ws : va_W} {x y x0 y0 : Nat × va_E}
theorem c_len (c : Nat) (ty : Nat → FieldType) : ((List.range (zlen c)).map (fun j => defaultValue (ty j))).length = zlen c := by rw [List.length_map, List.length_range]
theorem c_swapP {cl : List vw_C} (h : va_P D cl (x :: (ws ++ [y])) H) : va_P D cl (x :: y :: ws) H := by
  intro k q hk
  match k, hk with
  | 0, hk => exact h 0 q hk
  | 1, hk => exact h (ws.length + 1) q (by rw [← hk]; simp)
  | k + 2, hk =>
    have hk' : ws[k]? = some q := hk
    exact h (k + 1) q (by show (ws ++ [y])[k]? = some q; rw [List.getElem?_append_left (List.getElem?_eq_some_iff.mp hk').1]; exact hk')
theorem c_swapD {B : Nat → Prop} (h : va_D B (x :: (ws ++ [y]))) : va_D B (x :: y :: ws) := by
  refine h.by (fun k => match k with | 0 => 0 | 1 => ws.length + 1 | k + 2 => k + 1) (fun k q hk => ?_) (fun i j hi hj e => ?_)
  · match k, hk with
    | 0, hk => exact hk
    | 1, hk => rw [← hk]; simp
    | k + 2, hk =>
      have hk' : ws[k]? = some q := hk
      show (ws ++ [y])[k]? = some q
      rw [List.getElem?_append_left (List.getElem?_eq_some_iff.mp hk').1]; exact hk'
  · have hi : i < ws.length + 2 := hi
    have hj : j < ws.length + 2 := hj
    match i, j, e with
    | 0, 0, _ => rfl
    | 0, 1, e => exact absurd e (by show ¬ 0 = ws.length + 1; omega)
    | 0, j + 2, e => exact absurd e (by show ¬ 0 = j + 1; omega)
    | 1, 0, e => exact absurd e (by show ¬ ws.length + 1 = 0; omega)
    | 1, 1, _ => rfl
    | 1, j + 2, e => exact absurd e (by show ¬ ws.length + 1 = j + 1; omega)
    | i + 2, 0, e => exact absurd e (by show ¬ i + 1 = 0; omega)
    | i + 2, 1, e => exact absurd e (by show ¬ i + 1 = ws.length + 1; omega)
    | i + 2, j + 2, e => have e : i + 1 = j + 1 := e; omega
theorem c_ints1 {n : Int32} (N : Nat) {pc : Nat} (pc' : Nat) {cells : Nat} (cells' : Nat) {slots : Nat} (slots' : Nat) (hF : cOK D t A p s m args c9 o nL cc) (hw : Cond.arrayClass .int ∈ zGW) (hP : va_P D vwCl (x0 :: ws) H) (hD : va_D A (x0 :: ws)) (hS : va_S A s.heap H locs)
    (hn : ¬ n < 0) (hN : n.toNatClampNeg = N) (hb : Nat.ble N 100000 = true) (h1 : cells + 1 = cells') (h2 : slots + N = slots') (h3 : pc + 2 = pc') (h4 : Nat.ble cells' R.cells = true) (h5 : Nat.ble slots' R.slots = true) (hdg : decode cc pc = .ok (.newarray .int, 2))
    (kk : ∀ (q : Nat) (H1 : Heap), va_P D vwCl (x0 :: (ws ++ [cZI t q N])) H1 → va_D A (x0 :: (ws ++ [cZI t q N])) → va_S A s.heap H1 locs → W p l e R s m args below meth c9 H1 locs cells' slots' Q (F0 m pc' ls (.ref q :: rest))) : W p l e R s m args below meth c9 H locs cells slots Q (F0 m pc ls (.int n :: rest)) := by
  exact c_ints (ws := x0 :: ws) N pc' cells' slots' hF hw hP hD hS hn hN hb h1 h2 h3 h4 h5 hdg kk
theorem c_ints2 {n : Int32} (N : Nat) {pc : Nat} (pc' : Nat) {cells : Nat} (cells' : Nat) {slots : Nat} (slots' : Nat) (hF : cOK D t A p s m args c9 o nL cc) (hw : Cond.arrayClass .int ∈ zGW) (hP : va_P D vwCl (x0 :: y0 :: ws) H) (hD : va_D A (x0 :: y0 :: ws)) (hS : va_S A s.heap H locs)
    (hn : ¬ n < 0) (hN : n.toNatClampNeg = N) (hb : Nat.ble N 100000 = true) (h1 : cells + 1 = cells') (h2 : slots + N = slots') (h3 : pc + 2 = pc') (h4 : Nat.ble cells' R.cells = true) (h5 : Nat.ble slots' R.slots = true) (hdg : decode cc pc = .ok (.newarray .int, 2))
    (kk : ∀ (q : Nat) (H1 : Heap), va_P D vwCl (x0 :: y0 :: (ws ++ [cZI t q N])) H1 → va_D A (x0 :: y0 :: (ws ++ [cZI t q N])) → va_S A s.heap H1 locs → W p l e R s m args below meth c9 H1 locs cells' slots' Q (F0 m pc' ls (.ref q :: rest))) : W p l e R s m args below meth c9 H locs cells slots Q (F0 m pc ls (.int n :: rest)) := by
  exact c_ints (ws := x0 :: y0 :: ws) N pc' cells' slots' hF hw hP hD hS hn hN hb h1 h2 h3 h4 h5 hdg kk
theorem c_longs1 {n : Int32} (N : Nat) {pc : Nat} (pc' : Nat) {cells : Nat} (cells' : Nat) {slots : Nat} (slots' : Nat) (hF : cOK D t A p s m args c9 o nL cc) (hw : Cond.arrayClass .long ∈ zGW) (hP : va_P D vwCl (x0 :: ws) H) (hD : va_D A (x0 :: ws)) (hS : va_S A s.heap H locs)
    (hn : ¬ n < 0) (hN : n.toNatClampNeg = N) (hb : Nat.ble N 100000 = true) (h1 : cells + 1 = cells') (h2 : slots + N = slots') (h3 : pc + 2 = pc') (h4 : Nat.ble cells' R.cells = true) (h5 : Nat.ble slots' R.slots = true) (hdg : decode cc pc = .ok (.newarray .long, 2))
    (kk : ∀ (q : Nat) (H1 : Heap), va_P D vwCl (x0 :: (ws ++ [cZL t q N])) H1 → va_D A (x0 :: (ws ++ [cZL t q N])) → va_S A s.heap H1 locs → W p l e R s m args below meth c9 H1 locs cells' slots' Q (F0 m pc' ls (.ref q :: rest))) : W p l e R s m args below meth c9 H locs cells slots Q (F0 m pc ls (.int n :: rest)) := by
  exact c_longs (ws := x0 :: ws) N pc' cells' slots' hF hw hP hD hS hn hN hb h1 h2 h3 h4 h5 hdg kk
theorem c_longs2 {n : Int32} (N : Nat) {pc : Nat} (pc' : Nat) {cells : Nat} (cells' : Nat) {slots : Nat} (slots' : Nat) (hF : cOK D t A p s m args c9 o nL cc) (hw : Cond.arrayClass .long ∈ zGW) (hP : va_P D vwCl (x0 :: y0 :: ws) H) (hD : va_D A (x0 :: y0 :: ws)) (hS : va_S A s.heap H locs)
    (hn : ¬ n < 0) (hN : n.toNatClampNeg = N) (hb : Nat.ble N 100000 = true) (h1 : cells + 1 = cells') (h2 : slots + N = slots') (h3 : pc + 2 = pc') (h4 : Nat.ble cells' R.cells = true) (h5 : Nat.ble slots' R.slots = true) (hdg : decode cc pc = .ok (.newarray .long, 2))
    (kk : ∀ (q : Nat) (H1 : Heap), va_P D vwCl (x0 :: y0 :: (ws ++ [cZL t q N])) H1 → va_D A (x0 :: y0 :: (ws ++ [cZL t q N])) → va_S A s.heap H1 locs → W p l e R s m args below meth c9 H1 locs cells' slots' Q (F0 m pc' ls (.ref q :: rest))) : W p l e R s m args below meth c9 H locs cells slots Q (F0 m pc ls (.int n :: rest)) := by
  exact c_longs (ws := x0 :: y0 :: ws) N pc' cells' slots' hF hw hP hD hS hn hN hb h1 h2 h3 h4 h5 hdg kk
theorem c_shelves1 {n : Int32} (N : Nat) {pc idx : Nat} (pc' : Nat) {cells : Nat} (cells' : Nat) {slots : Nat} (slots' : Nat) (hF : cOK D t A p s m args c9 o nL cc) (hw : Cond.classLink (zN o) idx RX4 ∈ zGW) (hP : va_P D vwCl (x0 :: ws) H) (hD : va_D A (x0 :: ws)) (hS : va_S A s.heap H locs)
    (hn : ¬ n < 0) (hN : n.toNatClampNeg = N) (hb : Nat.ble N 100000 = true) (h1 : cells + 1 = cells') (h2 : slots + N = slots') (h3 : pc + 3 = pc') (h4 : Nat.ble cells' R.cells = true) (h5 : Nat.ble slots' R.slots = true) (hdg : decode cc pc = .ok (.anewarray idx, 3))
    (kk : ∀ (q : Nat) (H1 : Heap), va_P D vwCl (x0 :: (ws ++ [(q, .inl (t.2.2, N, .inr (.inr (.inr (.inr (fun _ => none))))))])) H1 → va_D A (x0 :: (ws ++ [(q, .inl (t.2.2, N, .inr (.inr (.inr (.inr (fun _ => none))))))])) → va_S A s.heap H1 locs → W p l e R s m args below meth c9 H1 locs cells' slots' Q (F0 m pc' ls (.ref q :: rest))) : W p l e R s m args below meth c9 H locs cells slots Q (F0 m pc ls (.int n :: rest)) := by
  exact c_shelves (ws := x0 :: ws) N pc' cells' slots' hF hw hP hD hS hn hN hb h1 h2 h3 h4 h5 hdg kk
theorem c_shelves2 {n : Int32} (N : Nat) {pc idx : Nat} (pc' : Nat) {cells : Nat} (cells' : Nat) {slots : Nat} (slots' : Nat) (hF : cOK D t A p s m args c9 o nL cc) (hw : Cond.classLink (zN o) idx RX4 ∈ zGW) (hP : va_P D vwCl (x0 :: y0 :: ws) H) (hD : va_D A (x0 :: y0 :: ws)) (hS : va_S A s.heap H locs)
    (hn : ¬ n < 0) (hN : n.toNatClampNeg = N) (hb : Nat.ble N 100000 = true) (h1 : cells + 1 = cells') (h2 : slots + N = slots') (h3 : pc + 3 = pc') (h4 : Nat.ble cells' R.cells = true) (h5 : Nat.ble slots' R.slots = true) (hdg : decode cc pc = .ok (.anewarray idx, 3))
    (kk : ∀ (q : Nat) (H1 : Heap), va_P D vwCl (x0 :: y0 :: (ws ++ [(q, .inl (t.2.2, N, .inr (.inr (.inr (.inr (fun _ => none))))))])) H1 → va_D A (x0 :: y0 :: (ws ++ [(q, .inl (t.2.2, N, .inr (.inr (.inr (.inr (fun _ => none))))))])) → va_S A s.heap H1 locs → W p l e R s m args below meth c9 H1 locs cells' slots' Q (F0 m pc' ls (.ref q :: rest))) : W p l e R s m args below meth c9 H locs cells slots Q (F0 m pc ls (.int n :: rest)) := by
  exact c_shelves (ws := x0 :: y0 :: ws) N pc' cells' slots' hF hw hP hD hS hn hN hb h1 h2 h3 h4 h5 hdg kk
theorem c_new1 {c idx : Nat} {pc : Nat} (pc' : Nat) {cells : Nat} (cells' : Nat) {slots : Nat} (slots' : Nat) (ty : Nat → FieldType) (hF : cOK D t A p s m args c9 o nL cc) (h0 : (Nat.beq (zkd c) 0) = true) (hty : ∀ k, k < zlen c → parseFieldDescriptor (zT c k).2.2.1 = some (ty k)) (w1 : Cond.classLink (zN o) idx (zR c) ∈ zGW) (w2 : Cond.instantiable (zR c) (zlen c) ∈ zGW) (w3 : Cond.initialized (zR c) ∈ zGW)
    (hP : va_P D vwCl (x0 :: ws) H) (hD : va_D A (x0 :: ws)) (hS : va_S A s.heap H locs) (h1 : cells + 1 = cells') (h2 : slots + zlen c = slots') (h3 : pc + 3 = pc') (h4 : Nat.ble cells' R.cells = true) (h5 : Nat.ble slots' R.slots = true) (hdg : decode cc pc = .ok (.new idx, 3))
    (kk : ∀ (q : Nat) (H1 : Heap), va_P D vwCl (x0 :: (ws ++ [(q, cNew c ty)])) H1 → va_D A (x0 :: (ws ++ [(q, cNew c ty)])) → va_S A s.heap H1 locs → W p l e R s m args below meth c9 H1 locs cells' slots' Q (F0 m pc' ls (.ref q :: rest))) : W p l e R s m args below meth c9 H locs cells slots Q (F0 m pc ls rest) := by
  exact c_new (ws := x0 :: ws) pc' cells' slots' ty hF h0 hty w1 w2 w3 hP hD hS h1 h2 h3 h4 h5 hdg kk
theorem c_new2 {c idx : Nat} {pc : Nat} (pc' : Nat) {cells : Nat} (cells' : Nat) {slots : Nat} (slots' : Nat) (ty : Nat → FieldType) (hF : cOK D t A p s m args c9 o nL cc) (h0 : (Nat.beq (zkd c) 0) = true) (hty : ∀ k, k < zlen c → parseFieldDescriptor (zT c k).2.2.1 = some (ty k)) (w1 : Cond.classLink (zN o) idx (zR c) ∈ zGW) (w2 : Cond.instantiable (zR c) (zlen c) ∈ zGW) (w3 : Cond.initialized (zR c) ∈ zGW)
    (hP : va_P D vwCl (x0 :: y0 :: ws) H) (hD : va_D A (x0 :: y0 :: ws)) (hS : va_S A s.heap H locs) (h1 : cells + 1 = cells') (h2 : slots + zlen c = slots') (h3 : pc + 3 = pc') (h4 : Nat.ble cells' R.cells = true) (h5 : Nat.ble slots' R.slots = true) (hdg : decode cc pc = .ok (.new idx, 3))
    (kk : ∀ (q : Nat) (H1 : Heap), va_P D vwCl (x0 :: y0 :: (ws ++ [(q, cNew c ty)])) H1 → va_D A (x0 :: y0 :: (ws ++ [(q, cNew c ty)])) → va_S A s.heap H1 locs → W p l e R s m args below meth c9 H1 locs cells' slots' Q (F0 m pc' ls (.ref q :: rest))) : W p l e R s m args below meth c9 H locs cells slots Q (F0 m pc ls rest) := by
  exact c_new (ws := x0 :: y0 :: ws) pc' cells' slots' ty hF h0 hty w1 w2 w3 hP hD hS h1 h2 h3 h4 h5 hdg kk
theorem c_call1 {c idx q : Nat} {pc : Nat} (pc' : Nat) {cells : Nat} (cells' : Nat) {slots : Nat} (slots' : Nat) {ty : Nat → FieldType} {y : MethodName} {b : ByteArray} {mL fr mc ms : Nat} {wf : Nat → (Nat → Nat) → va_W} (hF : cOK D t A p s m args c9 o nL cc) (hM : cMet l D t c ty y b mL fr mc ms wf) (w1 : Cond.code y b mL none ∈ zGW) (w2 : Cond.initialized y.cls ∈ zGW) (w3 : Cond.methodLink (zN o) idx y ∈ zGW) (w4 : Cond.instanceMethod y ∈ zGW) (hy1 : y.name = "<init>") (hy2 : y.cls ≠ "java/lang/invoke/MethodHandle" ∧ y.cls ≠ "java/lang/invoke/VarHandle" ∧ (parseMethodDescriptor y.desc).map (fun d => d.parameters.length) = some 0)
    (hP : va_P D vwCl (x0 :: (ws ++ [(q, cNew c ty)])) H) (hD : va_D A (x0 :: (ws ++ [(q, cNew c ty)]))) (hS : va_S A s.heap H locs) (hsz : ls.size = nL) (hR : Nat.ble (fr + 1) R.frames = true ∧ Nat.ble (8 + (mL + 11) + 100 * fr) R.locals = true) (hroom : (rest.map fun v => v.category).sum ≤ 8) (h1 : cells + mc = cells') (h2 : slots + ms = slots') (h3 : pc + 3 = pc') (h4 : Nat.ble cells' R.cells = true) (h5 : Nat.ble slots' R.slots = true) (hdg : decode cc pc = .ok (.invokespecial idx, 3))
    (kk : ∀ (u : Nat → Nat) (H1 : Heap) (locs1 : List Loc), va_P D vwCl (x0 :: (ws ++ wf q u)) H1 → va_D A (x0 :: (ws ++ wf q u)) → va_S A s.heap H1 locs1 → W p l e R s m args below meth c9 H1 locs1 cells' slots' Q (F0 m pc' ls rest)) : W p l e R s m args below meth c9 H locs cells slots Q (F0 m pc ls (.ref q :: rest)) := by
  exact c_call (ws := x0 :: ws) pc' cells' slots' hF hM w1 w2 w3 w4 hy1 hy2 hP hD hS hsz hR hroom h1 h2 h3 h4 h5 hdg kk
theorem c_call2 {c idx q : Nat} {pc : Nat} (pc' : Nat) {cells : Nat} (cells' : Nat) {slots : Nat} (slots' : Nat) {ty : Nat → FieldType} {y : MethodName} {b : ByteArray} {mL fr mc ms : Nat} {wf : Nat → (Nat → Nat) → va_W} (hF : cOK D t A p s m args c9 o nL cc) (hM : cMet l D t c ty y b mL fr mc ms wf) (w1 : Cond.code y b mL none ∈ zGW) (w2 : Cond.initialized y.cls ∈ zGW) (w3 : Cond.methodLink (zN o) idx y ∈ zGW) (w4 : Cond.instanceMethod y ∈ zGW) (hy1 : y.name = "<init>") (hy2 : y.cls ≠ "java/lang/invoke/MethodHandle" ∧ y.cls ≠ "java/lang/invoke/VarHandle" ∧ (parseMethodDescriptor y.desc).map (fun d => d.parameters.length) = some 0)
    (hP : va_P D vwCl (x0 :: y0 :: (ws ++ [(q, cNew c ty)])) H) (hD : va_D A (x0 :: y0 :: (ws ++ [(q, cNew c ty)]))) (hS : va_S A s.heap H locs) (hsz : ls.size = nL) (hR : Nat.ble (fr + 1) R.frames = true ∧ Nat.ble (8 + (mL + 11) + 100 * fr) R.locals = true) (hroom : (rest.map fun v => v.category).sum ≤ 8) (h1 : cells + mc = cells') (h2 : slots + ms = slots') (h3 : pc + 3 = pc') (h4 : Nat.ble cells' R.cells = true) (h5 : Nat.ble slots' R.slots = true) (hdg : decode cc pc = .ok (.invokespecial idx, 3))
    (kk : ∀ (u : Nat → Nat) (H1 : Heap) (locs1 : List Loc), va_P D vwCl (x0 :: y0 :: (ws ++ wf q u)) H1 → va_D A (x0 :: y0 :: (ws ++ wf q u)) → va_S A s.heap H1 locs1 → W p l e R s m args below meth c9 H1 locs1 cells' slots' Q (F0 m pc' ls rest)) : W p l e R s m args below meth c9 H locs cells slots Q (F0 m pc ls (.ref q :: rest)) := by
  exact c_call (ws := x0 :: y0 :: ws) pc' cells' slots' hF hM w1 w2 w3 w4 hy1 hy2 hP hD hS hsz hR hroom h1 h2 h3 h4 h5 hdg kk
theorem c_callN1 {c idx q : Nat} {pc : Nat} (pc' : Nat) {cells : Nat} (cells' : Nat) {slots : Nat} (slots' : Nat) {ty : Nat → FieldType} {y : MethodName} {b : ByteArray} {mL fr mc ms : Nat} {wf : Nat → (Nat → Nat) → va_W} (hF : cOK D t A p s m args c9 o nL cc) (hM : cMet l D t c ty y b mL fr mc ms wf) (w1 : Cond.code y b mL none ∈ zGW) (w2 : Cond.initialized y.cls ∈ zGW) (w3 : Cond.methodLinkNest (zN o) idx y RX6 ∈ cNest) (w4 : Cond.instanceMethod y ∈ zGW) (hy1 : y.name = "<init>") (hy2 : y.cls ≠ "java/lang/invoke/MethodHandle" ∧ y.cls ≠ "java/lang/invoke/VarHandle" ∧ (parseMethodDescriptor y.desc).map (fun d => d.parameters.length) = some 0)
    (hP : va_P D vwCl (x0 :: (ws ++ [(q, cNew c ty)])) H) (hD : va_D A (x0 :: (ws ++ [(q, cNew c ty)]))) (hS : va_S A s.heap H locs) (hsz : ls.size = nL) (hR : Nat.ble (fr + 1) R.frames = true ∧ Nat.ble (8 + (mL + 11) + 100 * fr) R.locals = true) (hroom : (rest.map fun v => v.category).sum ≤ 8) (h1 : cells + mc = cells') (h2 : slots + ms = slots') (h3 : pc + 3 = pc') (h4 : Nat.ble cells' R.cells = true) (h5 : Nat.ble slots' R.slots = true) (hdg : decode cc pc = .ok (.invokespecial idx, 3))
    (kk : ∀ (u : Nat → Nat) (H1 : Heap) (locs1 : List Loc), va_P D vwCl (x0 :: (ws ++ wf q u)) H1 → va_D A (x0 :: (ws ++ wf q u)) → va_S A s.heap H1 locs1 → W p l e R s m args below meth c9 H1 locs1 cells' slots' Q (F0 m pc' ls rest)) : W p l e R s m args below meth c9 H locs cells slots Q (F0 m pc ls (.ref q :: rest)) := by
  exact c_callN (ws := x0 :: ws) pc' cells' slots' hF hM w1 w2 w3 w4 hy1 hy2 hP hD hS hsz hR hroom h1 h2 h3 h4 h5 hdg kk
theorem c_callN2 {c idx q : Nat} {pc : Nat} (pc' : Nat) {cells : Nat} (cells' : Nat) {slots : Nat} (slots' : Nat) {ty : Nat → FieldType} {y : MethodName} {b : ByteArray} {mL fr mc ms : Nat} {wf : Nat → (Nat → Nat) → va_W} (hF : cOK D t A p s m args c9 o nL cc) (hM : cMet l D t c ty y b mL fr mc ms wf) (w1 : Cond.code y b mL none ∈ zGW) (w2 : Cond.initialized y.cls ∈ zGW) (w3 : Cond.methodLinkNest (zN o) idx y RX6 ∈ cNest) (w4 : Cond.instanceMethod y ∈ zGW) (hy1 : y.name = "<init>") (hy2 : y.cls ≠ "java/lang/invoke/MethodHandle" ∧ y.cls ≠ "java/lang/invoke/VarHandle" ∧ (parseMethodDescriptor y.desc).map (fun d => d.parameters.length) = some 0)
    (hP : va_P D vwCl (x0 :: y0 :: (ws ++ [(q, cNew c ty)])) H) (hD : va_D A (x0 :: y0 :: (ws ++ [(q, cNew c ty)]))) (hS : va_S A s.heap H locs) (hsz : ls.size = nL) (hR : Nat.ble (fr + 1) R.frames = true ∧ Nat.ble (8 + (mL + 11) + 100 * fr) R.locals = true) (hroom : (rest.map fun v => v.category).sum ≤ 8) (h1 : cells + mc = cells') (h2 : slots + ms = slots') (h3 : pc + 3 = pc') (h4 : Nat.ble cells' R.cells = true) (h5 : Nat.ble slots' R.slots = true) (hdg : decode cc pc = .ok (.invokespecial idx, 3))
    (kk : ∀ (u : Nat → Nat) (H1 : Heap) (locs1 : List Loc), va_P D vwCl (x0 :: y0 :: (ws ++ wf q u)) H1 → va_D A (x0 :: y0 :: (ws ++ wf q u)) → va_S A s.heap H1 locs1 → W p l e R s m args below meth c9 H1 locs1 cells' slots' Q (F0 m pc' ls rest)) : W p l e R s m args below meth c9 H locs cells slots Q (F0 m pc ls (.ref q :: rest)) := by
  exact c_callN (ws := x0 :: y0 :: ws) pc' cells' slots' hF hM w1 w2 w3 w4 hy1 hy2 hP hD hS hsz hR hroom h1 h2 h3 h4 h5 hdg kk
theorem c_word1 {q n pc cells slots : Nat} (pc' : Nat) {f : Nat → Int32} {i z : Int32} (hF : cOK D t A p s m args c9 o nL cc) (hP : va_P D vwCl (x0 :: (ws ++ [(q, .inl (t.1, n, .inl f))])) H) (hD : va_D A (x0 :: (ws ++ [(q, .inl (t.1, n, .inl f))]))) (hS : va_S A s.heap H locs) (hin : inb i n = true) (h3 : pc + 1 = pc') (hdg : decode cc pc = .ok (.iastore, 1))
    (kk : ∀ (H1 : Heap) (locs1 : List Loc), va_P D vwCl (x0 :: (ws ++ [(q, .inl (t.1, n, .inl (upd f i.toNatClampNeg z)))])) H1 → va_D A (x0 :: (ws ++ [(q, .inl (t.1, n, .inl (upd f i.toNatClampNeg z)))])) → va_S A s.heap H1 locs1 → W p l e R s m args below meth c9 H1 locs1 cells slots Q (F0 m pc' ls rest)) : W p l e R s m args below meth c9 H locs cells slots Q (F0 m pc ls (.int z :: .int i :: .ref q :: rest)) :=
  c_word (X := x0 :: ws) pc' hF hP hD hS hin h3 hdg kk
end CONE
