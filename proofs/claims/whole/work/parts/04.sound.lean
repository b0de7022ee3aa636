/-! THE PURE MACHINE IS THE MACHINE: worlds, frames, one step -/
abbrev zWd : Type := va_G × (ClassId × ClassId × ClassId) × (Nat → Nat → Nat) × (Nat → Prop)
/-- the words that a callee may ask -/
def zGW : List Cond := lw_tbl.filter goodWord
theorem zgw {x : Cond} (h : x ∈ lw_tbl) (hg : goodWord x = true) : x ∈ zGW := List.mem_filter.mpr ⟨h, hg⟩
abbrev zFr : Type := Program × Launch × Env × Room × State × MethodId × Array Value × List Frame × Method × Code × Nat × Nat × (State → Prop) × zScr
def zcv (ad : Nat → Nat → Nat) : zPV → Value
  | .inl x => .int x
  | .inr (.inl x) => .long x
  | .inr (.inr q) => .ref (ad q.1 q.2)
def zcell (w : zWd) (M : zWM) (c j : Nat) : va_E := match zkd c with
  | 0 => .inr (zci c, (List.range (zlen c)).map (fun k => zcv w.2.2.1 (zfv M c j k)))
  | 1 => .inl (w.2.1.1, zlen c, .inl (rdI M c j))
  | 2 => .inl (w.2.1.2.1, zlen c, .inr (.inl (rdL M c j)))
  | _ => .inl (w.2.1.2.2, zlen c, .inr (.inr (.inr (.inr (fun i => some (w.2.2.1 8 i))))))
def zcells (w : zWd) (M : zWM) : va_W := zhs.map (fun q => (w.2.2.1 q.1 q.2, zcell w M q.1 q.2))
def ztys (w : zWd) : List (ClassId × FieldType) := [(w.2.1.1, .int), (w.2.1.2.1, .long), (w.2.1.2.2, .object "NoArmsCrossed$Shelf")]
def znest : List Cond := [.methodLinkNest RX5 55 yX6_bit RX6, .methodLinkNest RX2 75 yX6_bit RX6, .methodLinkNest RX2 72 yX6_codeOfPair RX6, .methodLinkNest RX0 28 yX6_isKind RX6, .fieldLinkNest RX5 52 RX6 "LINES" "[I" RX6, .fieldLinkNest RX0 32 RX6 "LINES" "[I" RX6]
def zsi (i : Nat) : Nat := [33, 46, 51, 65, 70, 75].getD i 0
def zst (i : Nat) : String := ["seats", "guest", "bar", "had", "eyes", "move"].getD i ""
/-- what stands still: the tables of our classes, the static row, the links of nest mates, the String constants -/
def zSP (w : zWd) (U : State) (H : Heap) : Prop :=
  va_K w.1 vwCl (ztys w) U ∧ va_Z RX6 "LINES" "[I" (.ref (w.2.2.1 60 0)) w.2.2.2 U H ∧ va_T .int (w.2.2.1 60 0) 7 (fun j => .int (zLN.getD j 0)) w.2.2.2 U H ∧
  (∀ x ∈ znest, va_Nw x U) ∧ vk_S 6 zSL zSB (w.2.2.1 61) (w.2.2.1 62) w.2.2.2 U H ∧ (∀ i, i < 6 → vk_R RX3 (zsi i) (zst i) (w.2.2.1 61 i) U) ∧
  va_Z RJ0 "COMPACT_STRINGS" "Z" (.int 1) w.2.2.2 U H ∧ va_Zq RJ3 "SIOOBE_FORMATTER" "Ljava/util/function/BiFunction;" w.2.2.2 U H
theorem zSP.warm {w : zWd} {s U : State} {H : Heap} (hW : s.WarmedH U.vm) (h : zSP w s H) : zSP w U H := by
  obtain ⟨h1, h2, h3, h4, h5, h6, h7, h8⟩ := h
  have hA : s.vm.Alike U.vm := hW.alike
  refine ⟨h1.moved hA, h2.moved hA, h3.moved hA, ?_, h5.moved hA, fun i hi => (h6 i hi).warm hW, h7.moved hA, h8.moved hA⟩
  intro x hx
  have hx' := h4 x hx
  simp only [znest, List.mem_cons, List.not_mem_nil, or_false] at hx
  rcases hx with rfl | rfl | rfl | rfl | rfl | rfl
  · exact va_Nw.warmM hW hx'
  · exact va_Nw.warmM hW hx'
  · exact va_Nw.warmM hW hx'
  · exact va_Nw.warmM hW hx'
  · exact va_Nw.warmF hW hx'
  · exact va_Nw.warmF hW hx'
theorem zSP.same {w : zWd} {u U : State} {H : Heap} (hv : u.vm = U.vm) (h : zSP w u H) : zSP w U H := by
  obtain ⟨h1, h2, h3, h4, h5, h6, h7, h8⟩ := h
  have hA : u.vm.Alike U.vm := by rw [hv]; exact Vm.Alike.refl _
  refine ⟨h1.moved hA, h2.moved hA, h3.moved hA, ?_, h5.moved hA, fun i hi => (h6 i hi).same hv.symm, h7.moved hA, h8.moved hA⟩
  intro x hx
  have hx' := h4 x hx
  simp only [znest, List.mem_cons, List.not_mem_nil, or_false] at hx
  rcases hx with rfl | rfl | rfl | rfl | rfl | rfl
  all_goals exact va_Nw.same rfl hv hx'
theorem zSP.kept {w : zWd} {U : State} {H H1 : Heap} (h : zSP w U H) (hq : ∀ a : Nat, a < H.size → ¬ w.2.2.2 a → H1[a]? = H[a]?) : zSP w U H1 := by
  obtain ⟨h1, h2, h3, h4, h5, h6, h7, h8⟩ := h
  exact ⟨h1, h2.kept hq, h3.kept hq, h4, h5.kept hq, h6, h7.kept hq, h8.kept hq⟩
def zLH (ad : Nat → Nat → Nat) (ls : Array Slot) (nL : Nat) (L : List (Option zPV)) : Prop := ls.size = nL ∧ lv_wf ls ∧ ∀ j v, L.getD j none = some v → ls[j]? = some (.val (zcv ad v))
def zG (w : zWd) (f : zFr) (nL pc : Nat) (X : zSt) : Prop :=
  X.1.length = nL → ∀ (H : Heap) (locs : List Loc) (ls : Array Slot), va_P w.1 vwCl (zcells w X.2.2) H → va_S w.2.2.2 f.2.2.2.2.1.heap H locs → zLH w.2.2.1 ls nL X.1 →
    W f.1 f.2.1 f.2.2.1 f.2.2.2.1 f.2.2.2.2.1 f.2.2.2.2.2.1 f.2.2.2.2.2.2.1 f.2.2.2.2.2.2.2.1 f.2.2.2.2.2.2.2.2.1 f.2.2.2.2.2.2.2.2.2.1 H locs f.2.2.2.2.2.2.2.2.2.2.1 f.2.2.2.2.2.2.2.2.2.2.2.1 f.2.2.2.2.2.2.2.2.2.2.2.2.1 (F0 f.2.2.2.2.2.1 pc ls (X.2.1.map (zcv w.2.2.1)))
def zFOK (w : zWd) (f : zFr) (o : Nat) (cc : ByteArray) (nL d : Nat) : Prop :=
  f.1.tables.exec = Jvm.exec ∧ f.2.2.2.2.2.2.2.2.2.1.code = cc ∧ f.2.2.2.2.2.2.2.2.2.1.maxLocals = nL ∧ f.2.2.2.2.1.vm.findClass (zN o) = some f.2.2.2.2.2.1.cls ∧
  (∀ x ∈ zGW, x.before f.2.2.2.2.2.2.1 f.2.2.2.2.1 = true) ∧ f.2.2.2.2.2.2.2.2.1.locks = false ∧
  (1 ≤ d ∧ d ≤ f.2.2.2.1.frames ∧ 100 * d ≤ f.2.2.2.1.locals ∧ f.2.2.2.2.2.2.2.2.2.2.1 ≤ f.2.2.2.1.cells ∧ f.2.2.2.2.2.2.2.2.2.2.2.1 ≤ f.2.2.2.1.slots) ∧
  zSP w f.2.2.2.2.1 f.2.2.2.2.1.heap ∧ va_D w.2.2.2 (zcells w ((fun _ _ _ => 0, fun _ _ _ => 0), (fun _ _ _ => 0, fun _ _ _ => 0))) ∧
  (f.2.2.2.2.2.2.2.2.2.2.2.2.2.1 = true → va_X (w.2.2.1 63 0) f.2.2.2.2.2.2.2.2.2.2.2.2.2.2.1 f.2.2.2.2.2.2.2.2.2.2.2.2.2.2.2 f.2.2.2.2.1 f.2.2.2.2.1.heap ∧ w.2.2.1 63 0 < f.2.2.2.2.1.heap.size ∧ ¬ w.2.2.2 (w.2.2.1 63 0))
/-! places of the world -/
theorem zhs_pos0 : ∀ c, c < 100 → ∀ j, j < 8 → Nat.blt j (zcnt c) = true → zhs[zpos c j]? = some (c, j) := by decide +kernel
theorem zcnt_le : ∀ c, c < 100 → zcnt c ≤ 8 := by decide +kernel
theorem getD_far {l : List Nat} {n : Nat} (h : l.length ≤ n) : l.getD n 0 = 0 := by
  rw [List.getD_eq_getElem?_getD, List.getElem?_eq_none h]; rfl
theorem zcnt_far {c : Nat} (h : 100 ≤ c) : zcnt c = 0 := by
  unfold zcnt
  rw [show Nat.ble 64 c = true from Nat.ble_eq_true_of_le (by omega)]
  exact getD_far (by simp; omega)
theorem zhs_pos {c j : Nat} (h : Nat.blt j (zcnt c) = true) : zhs[zpos c j]? = some (c, j) := by
  have h1 : j < zcnt c := Nat.blt_eq.mp h
  rcases Nat.lt_or_ge c 100 with q | q
  · exact zhs_pos0 c q j (Nat.lt_of_lt_of_le h1 (zcnt_le c q)) h
  · rw [zcnt_far q] at h1
    exact absurd h1 (Nat.not_lt_zero j)
theorem zhs_inj0 : ∀ i, i < 74 → zpos (zhs.getD i (0, 0)).1 (zhs.getD i (0, 0)).2 = i := by decide +kernel
theorem zhs_inj {i c j : Nat} (h : zhs[i]? = some (c, j)) : i = zpos c j := by
  have hl : i < 74 := (List.getElem?_eq_some_iff.mp h).1
  have h1 := zhs_inj0 i hl
  rw [List.getD_eq_getElem?_getD, h] at h1
  exact h1.symm
theorem zcells_at {w : zWd} {M : zWM} {c j : Nat} (h : Nat.blt j (zcnt c) = true) : (zcells w M)[zpos c j]? = some (w.2.2.1 c j, zcell w M c j) := by
  unfold zcells
  rw [List.getElem?_map, zhs_pos h]
  rfl
theorem zcells_set {w : zWd} {M M' : zWM} {c j : Nat} (h : Nat.blt j (zcnt c) = true) (hk : ∀ c' j', ¬ (c' = c ∧ j' = j) → zcell w M' c' j' = zcell w M c' j') : (zcells w M).set (zpos c j) (w.2.2.1 c j, zcell w M' c j) = zcells w M' := by
  refine List.ext_getElem? fun i => ?_
  rw [List.getElem?_set]
  by_cases hi : zpos c j = i
  · subst hi
    have h2 : zpos c j < (zcells w M).length := (List.getElem?_eq_some_iff.mp (zcells_at (w := w) (M := M) h)).1
    rw [if_pos rfl, if_pos h2, zcells_at h]
  · rw [if_neg hi]
    unfold zcells
    rw [List.getElem?_map, List.getElem?_map]
    cases hq : zhs[i]? with
    | none => rfl
    | some q =>
      obtain ⟨c', j'⟩ := q
      have h3 := zhs_inj hq
      show some (w.2.2.1 c' j', zcell w M c' j') = some (w.2.2.1 c' j', zcell w M' c' j')
      rw [hk c' j' (fun e => hi (by rw [h3, e.1, e.2]))]
theorem zD_all {w : zWd} {M M' : zWM} (h : va_D w.2.2.2 (zcells w M)) : va_D w.2.2.2 (zcells w M') := by
  have key : ∀ (i : Nat) (p : Nat × va_E), (zcells w M')[i]? = some p → ∃ e, (zcells w M)[i]? = some (p.1, e) := by
    intro i p hp
    unfold zcells at hp ⊢
    rw [List.getElem?_map] at hp ⊢
    cases hq : zhs[i]? with
    | none => rw [hq] at hp; cases hp
    | some q => rw [hq] at hp; cases hp; exact ⟨_, rfl⟩
  refine ⟨fun i j p q hi hj e => ?_, fun k q hk => ?_⟩
  · obtain ⟨e1, g1⟩ := key i p hi
    obtain ⟨e2, g2⟩ := key j q hj
    exact h.1 i j _ _ g1 g2 e
  · obtain ⟨e1, g1⟩ := key k q hk
    exact h.2 k (q.1, e1) g1
/-! reads behind writes -/
theorem zs_self {α : Type} (f : Nat → Nat → α) (c j : Nat) (g : α) : zs f c j g c j = g := by simp [zs]
theorem zs_ne {α : Type} (f : Nat → Nat → α) (c j : Nat) (g : α) {c' j' : Nat} (h : ¬ (c' = c ∧ j' = j)) : zs f c j g c' j' = f c' j' := by
  unfold zs
  by_cases h1 : c' = c
  · rw [if_pos h1, h1]
    show (if j' = j then g else f c j') = _
    rw [if_neg (fun e => h ⟨h1, e⟩)]
  · rw [if_neg h1]
theorem rdI_wrI (M : zWM) (c j : Nat) (g : Nat → Int32) : rdI (wrI M c j g) c j = g := by
  unfold rdI wrI wIs
  cases Nat.ble 64 c <;> exact zs_self _ _ _ _
theorem rdL_wrL (M : zWM) (c j : Nat) (g : Nat → Int64) : rdL (wrL M c j g) c j = g := by
  unfold rdL wrL wLs
  cases Nat.ble 64 c <;> exact zs_self _ _ _ _
theorem rdI_wrI_ne (M : zWM) (c j : Nat) (g : Nat → Int32) {c' j' : Nat} (h : ¬ (c' = c ∧ j' = j)) : rdI (wrI M c j g) c' j' = rdI M c' j' := by
  unfold rdI wrI wIs
  cases Nat.ble 64 c <;> cases Nat.ble 64 c' <;> first | rfl | exact zs_ne _ _ _ _ h
theorem rdL_wrL_ne (M : zWM) (c j : Nat) (g : Nat → Int64) {c' j' : Nat} (h : ¬ (c' = c ∧ j' = j)) : rdL (wrL M c j g) c' j' = rdL M c' j' := by
  unfold rdL wrL wLs
  cases Nat.ble 64 c <;> cases Nat.ble 64 c' <;> first | rfl | exact zs_ne _ _ _ _ h
theorem rdL_wrI (M : zWM) (c j : Nat) (g : Nat → Int32) (c' j' : Nat) : rdL (wrI M c j g) c' j' = rdL M c' j' := by
  unfold rdL wrI wIs
  cases Nat.ble 64 c <;> cases Nat.ble 64 c' <;> rfl
theorem rdI_wrL (M : zWM) (c j : Nat) (g : Nat → Int64) (c' j' : Nat) : rdI (wrL M c j g) c' j' = rdI M c' j' := by
  unfold rdI wrL wLs
  cases Nat.ble 64 c <;> cases Nat.ble 64 c' <;> rfl
theorem zcell_ext {w : zWd} {M M' : zWM} {c j : Nat} (h1 : rdI M' c j = rdI M c j) (h2 : rdL M' c j = rdL M c j) : zcell w M' c j = zcell w M c j := by
  unfold zcell zfv
  rw [h1, h2]
theorem zcell_wrI {w : zWd} (M : zWM) (c j : Nat) (g : Nat → Int32) : ∀ c' j', ¬ (c' = c ∧ j' = j) → zcell w (wrI M c j g) c' j' = zcell w M c' j' := fun c' j' h => zcell_ext (rdI_wrI_ne M c j g h) (rdL_wrI M c j g c' j')
theorem zcell_wrL {w : zWd} (M : zWM) (c j : Nat) (g : Nat → Int64) : ∀ c' j', ¬ (c' = c ∧ j' = j) → zcell w (wrL M c j g) c' j' = zcell w M c' j' := fun c' j' h => zcell_ext (rdI_wrL M c j g c' j') (rdL_wrL_ne M c j g h)
theorem zcell_int {w : zWd} {M : zWM} {c j : Nat} (h : zkd c = 1) : zcell w M c j = .inl (w.2.1.1, zlen c, .inl (rdI M c j)) := by unfold zcell; rw [h]; rfl
theorem zcell_long {w : zWd} {M : zWM} {c j : Nat} (h : zkd c = 2) : zcell w M c j = .inl (w.2.1.2.1, zlen c, .inr (.inl (rdL M c j))) := by unfold zcell; rw [h]; rfl
theorem zcell_obj {w : zWd} {M : zWM} {c j : Nat} (h : zkd c = 0) : zcell w M c j = .inr (zci c, (List.range (zlen c)).map (fun k => zcv w.2.2.1 (zfv M c j k))) := by unfold zcell; rw [h]; rfl
theorem zrange_set {α : Type} {f g : Nat → α} {n k : Nat} {v : α} (hv : g k = v) (hg : ∀ i, i ≠ k → g i = f i) : ((List.range n).map f).set k v = (List.range n).map g := by
  refine List.ext_getElem? fun i => ?_
  rw [List.getElem?_set]
  by_cases hi : k = i
  · subst hi
    rw [if_pos rfl]
    by_cases hl : k < n
    · simp [hl, hv]
    · simp [hl]
  · rw [if_neg hi]
    by_cases hl : i < n
    · simp [hl, hg i (Ne.symm hi)]
    · simp [hl]
theorem zp_self {α : Type} (f : Nat → α) (k : Nat) (x : α) : zp f k x k = x := by simp [zp]
theorem zp_ne {α : Type} (f : Nat → α) {k i : Nat} (x : α) (h : i ≠ k) : zp f k x i = f i := by simp [zp, h]
theorem zinb {i : Int32} {n : Nat} (h : inb i n = true) : vp_in i n := by
  unfold inb at h
  rw [Bool.and_eq_true] at h
  have h1 : i.toNatClampNeg < n := Nat.blt_eq.mp h.1
  have h2 : ¬ i < 0 := of_decide_eq_true h.2
  exact fun q => q.elim h2 (fun q => absurd h1 (Nat.not_lt.mpr q))
/-! locals -/
theorem zLH.at {ad : Nat → Nat → Nat} {ls : Array Slot} {nL k : Nat} {L : List (Option zPV)} {v : zPV} (h : zLH ad ls nL L) (hk : L.getD k none = some v) : ls[k]? = some (.val (zcv ad v)) := h.2.2 k v hk
def zlv (ad : Nat → Nat → Nat) (nL : Nat) (L : List (Option zPV)) : List (Nat × Value) := (List.range nL).filterMap (fun j => (L.getD j none).map (fun v => (j, zcv ad v)))
theorem zlv_mem {ad : Nat → Nat → Nat} {nL j : Nat} {L : List (Option zPV)} {v : zPV} (hj : j < nL) (h : L.getD j none = some v) : (j, zcv ad v) ∈ zlv ad nL L := by
  unfold zlv
  refine List.mem_filterMap.mpr ⟨j, List.mem_range.mpr hj, ?_⟩
  rw [h]; rfl
theorem zLH.has {ad : Nat → Nat → Nat} {ls : Array Slot} {nL : Nat} {L : List (Option zPV)} (h : zLH ad ls nL L) : lv_has ls nL (zlv ad nL L) := by
  refine ⟨h.1, h.2.1, fun q hq => ?_⟩
  obtain ⟨j, -, hj⟩ := List.mem_filterMap.mp hq
  cases hv : L.getD j none with
  | none => rw [hv] at hj; cases hj
  | some v => rw [hv] at hj; cases hj; exact h.2.2 j v hv
theorem zLH.lt {ad : Nat → Nat → Nat} {ls : Array Slot} {nL j : Nat} {L : List (Option zPV)} {v : zPV} (h : zLH ad ls nL L) (hj : L.getD j none = some v) : j < nL := by
  rw [← h.1]; exact (Array.getElem?_eq_some_iff.mp (h.2.2 j v hj)).1
theorem zgetD_set {α : Type} (L : List (Option α)) (i j : Nat) (v : Option α) : (L.set i v).getD j none = if i = j ∧ i < L.length then v else L.getD j none := by
  rw [List.getD_eq_getElem?_getD, List.getElem?_set, List.getD_eq_getElem?_getD]
  by_cases h : i = j
  · subst h
    by_cases h2 : i < L.length
    · simp [h2]
    · simp [h2, List.getElem?_eq_none (Nat.not_lt.mp h2)]
  · simp [h]
theorem zis2_cat {ad : Nat → Nat → Nat} {v : zPV} : (zcv ad v).category = 2 ↔ zis2 (some v) = true := by
  rcases v with x | x | x <;> simp [zcv, zis2, Value.category]
theorem zclr_getD {L : List (Option zPV)} {i j : Nat} {v : zPV} (h : (zclr L i).getD j none = some v) : L.getD j none = some v ∧ ¬ (j + 1 = i ∧ zis2 (some v) = true) := by
  unfold zclr at h
  cases i with
  | zero => exact ⟨h, by omega⟩
  | succ i =>
    dsimp only at h
    cases hb : zis2 (L.getD i none) with
    | false =>
      rw [hb] at h
      refine ⟨h, fun ⟨e, e2⟩ => ?_⟩
      have : i = j := by omega
      subst this
      rw [cond_false] at h
      rw [h, e2] at hb; cases hb
    | true =>
      rw [hb, cond_true, zgetD_set] at h
      by_cases hij : i = j ∧ i < L.length
      · rw [if_pos hij] at h; cases h
      · rw [if_neg hij] at h
        refine ⟨h, fun e0 => hij ⟨by omega, ?_⟩⟩
        have e := e0.1
        have : i = j := by omega
        subst this
        rcases Nat.lt_or_ge i L.length with q | q
        · exact q
        · rw [List.getD_eq_getElem?_getD, List.getElem?_eq_none q] at h; cases h
theorem zst1_getD {L : List (Option zPV)} {i j : Nat} {x v : zPV} (h : (zst1 L i x).getD j none = some v) : (j = i ∧ v = x) ∨ (j ≠ i ∧ L.getD j none = some v ∧ ¬ (j + 1 = i ∧ zis2 (some v) = true)) := by
  unfold zst1 at h
  rw [zgetD_set] at h
  by_cases hij : i = j ∧ i < (zclr L i).length
  · rw [if_pos hij] at h
    exact Or.inl ⟨hij.1.symm, (Option.some.inj h).symm⟩
  · rw [if_neg hij] at h
    obtain ⟨h1, h2⟩ := zclr_getD h
    refine Or.inr ⟨fun e => hij ⟨e.symm, ?_⟩, h1, h2⟩
    subst e
    rcases Nat.lt_or_ge j (zclr L j).length with q | q
    · exact q
    · rw [List.getD_eq_getElem?_getD, List.getElem?_eq_none q] at h; cases h
theorem zst2_getD {L : List (Option zPV)} {i j : Nat} {x v : zPV} (h : (zst2 L i x).getD j none = some v) : (j = i ∧ v = x) ∨ (j ≠ i ∧ j ≠ i + 1 ∧ L.getD j none = some v ∧ ¬ (j + 1 = i ∧ zis2 (some v) = true)) := by
  unfold zst2 at h
  rw [zgetD_set] at h
  by_cases hij : i + 1 = j ∧ i + 1 < ((zclr L i).set i (some x)).length
  · rw [if_pos hij] at h; cases h
  · rw [if_neg hij] at h
    have hne : j ≠ i + 1 := by
      intro e
      subst e
      refine hij ⟨rfl, ?_⟩
      rcases Nat.lt_or_ge (i + 1) ((zclr L i).set i (some x)).length with q | q
      · exact q
      · rw [List.getD_eq_getElem?_getD, List.getElem?_eq_none q] at h; cases h
    rcases zst1_getD (L := L) (i := i) (x := x) h with q | ⟨q1, q2, q3⟩
    · exact Or.inl q
    · exact Or.inr ⟨q1, hne, q2, q3⟩
theorem zLH.set1 {ad : Nat → Nat → Nat} {ls ls' : Array Slot} {nL i : Nat} {L : List (Option zPV)} {x : zPV} (h : zLH ad ls nL L) (h' : lv_has ls' nL ((i, zcv ad x) :: (zlv ad nL L).filter (fun q => !(q.1 == i) && !(q.1 + 1 == i && q.2.category == 2)))) : zLH ad ls' nL (zst1 L i x) := by
  refine ⟨h'.1, h'.2.1, fun j v hj => ?_⟩
  rcases zst1_getD hj with ⟨rfl, rfl⟩ | ⟨h1, h2, h3⟩
  · exact h'.2.2 (j, zcv ad v) List.mem_cons_self
  · refine h'.2.2 (j, zcv ad v) (List.mem_cons_of_mem _ (List.mem_filter.mpr ⟨zlv_mem (h.lt h2) h2, ?_⟩))
    have e : ¬ (j + 1 = i ∧ (zcv ad v).category = 2) := fun q => h3 ⟨q.1, zis2_cat.mp q.2⟩
    simp only [Bool.and_eq_true, Bool.not_eq_true', beq_eq_false_iff_ne, Bool.and_eq_false_iff, ne_eq]
    refine ⟨h1, ?_⟩
    by_cases q : j + 1 = i
    · exact Or.inr fun q2 => e ⟨q, q2⟩
    · exact Or.inl q
theorem zLH.set2 {ad : Nat → Nat → Nat} {ls ls' : Array Slot} {nL i : Nat} {L : List (Option zPV)} {x : zPV} (h : zLH ad ls nL L) (h' : lv_has ls' nL ((i, zcv ad x) :: (zlv ad nL L).filter (fun q => !(q.1 == i) && (!(q.1 == i + 1) && !(q.1 + 1 == i && q.2.category == 2))))) : zLH ad ls' nL (zst2 L i x) := by
  refine ⟨h'.1, h'.2.1, fun j v hj => ?_⟩
  rcases zst2_getD hj with ⟨rfl, rfl⟩ | ⟨h1, h1', h2, h3⟩
  · exact h'.2.2 (j, zcv ad v) List.mem_cons_self
  · refine h'.2.2 (j, zcv ad v) (List.mem_cons_of_mem _ (List.mem_filter.mpr ⟨zlv_mem (h.lt h2) h2, ?_⟩))
    have e : ¬ (j + 1 = i ∧ (zcv ad v).category = 2) := fun q => h3 ⟨q.1, zis2_cat.mp q.2⟩
    simp only [Bool.and_eq_true, Bool.not_eq_true', beq_eq_false_iff_ne, Bool.and_eq_false_iff, ne_eq]
    refine ⟨h1, h1', ?_⟩
    by_cases q : j + 1 = i
    · exact Or.inr fun q2 => e ⟨q, q2⟩
    · exact Or.inl q
theorem zclr_len (L : List (Option zPV)) (i : Nat) : (zclr L i).length = L.length := by
  unfold zclr
  cases i with
  | zero => rfl
  | succ j =>
    dsimp only
    cases zis2 (L.getD j none) <;> simp
theorem zst1_len (L : List (Option zPV)) (i : Nat) (v : zPV) : (zst1 L i v).length = L.length := by
  unfold zst1
  rw [List.length_set, zclr_len]
theorem zst2_len (L : List (Option zPV)) (i : Nat) (v : zPV) : (zst2 L i v).length = L.length := by
  unfold zst2
  rw [List.length_set, List.length_set, zclr_len]
/-! one step -/
theorem zfl_find {o i c k : Nat} (h : zFL.any (fun q => Nat.beq q.1 o && (Nat.beq q.2.1 i && (Nat.beq q.2.2.1 c && Nat.beq q.2.2.2.1 k))) = true) : ∃ p, (o, i, c, k, p) ∈ zFL := by
  obtain ⟨q, hq, h⟩ := List.any_eq_true.mp h
  simp only [Bool.and_eq_true, Nat.beq_eq] at h
  obtain ⟨h1, h2, h3, h4⟩ := h
  obtain ⟨a, b, c', d, e⟩ := q
  dsimp only at h1 h2 h3 h4
  subst h1 h2 h3 h4
  exact ⟨e, hq⟩
set_option maxRecDepth 20000 in
theorem zFL_ok : ∀ q ∈ zFL, lw_tbl[q.2.2.2.2]? = some (.fieldLink (zN q.1) q.2.1 (zR q.2.2.1) (zT q.2.2.1 q.2.2.2.1).2.1 (zT q.2.2.1 q.2.2.2.1).2.2.1) := by decide +kernel
theorem zFL_in {o i c k : Nat} (h : zFL.any (fun q => Nat.beq q.1 o && (Nat.beq q.2.1 i && (Nat.beq q.2.2.1 c && Nat.beq q.2.2.2.1 k))) = true) : Cond.fieldLink (zN o) i (zR c) (zT c k).2.1 (zT c k).2.2.1 ∈ zGW := by
  obtain ⟨p, hp⟩ := zfl_find h
  exact zgw (List.mem_of_getElem? (zFL_ok _ hp)) rfl
set_option maxRecDepth 20000 in
theorem zCI_ok : ∀ q ∈ zCI, lw_tbl[q.2.2.2]? = some (.constant (zN q.1) q.2.1 q.2.2.1) := by decide +kernel
set_option maxRecDepth 20000 in
theorem zCL_ok : ∀ q ∈ zCL, lw_tbl[q.2.2.2]? = some (.constantLong (zN q.1) q.2.1 q.2.2.1) := by decide +kernel
theorem zCI_in {o i : Nat} {x : Int32} (h : zCI.any (fun q => Nat.beq q.1 o && (Nat.beq q.2.1 i && decide (q.2.2.1 = x))) = true) : Cond.constant (zN o) i x ∈ zGW := by
  obtain ⟨q, hq, h⟩ := List.any_eq_true.mp h
  simp only [Bool.and_eq_true, Nat.beq_eq, decide_eq_true_eq] at h
  obtain ⟨h1, h2, h3⟩ := h
  obtain ⟨a, b, c', d⟩ := q
  dsimp only at h1 h2 h3
  subst h1 h2 h3
  exact zgw (List.mem_of_getElem? (zCI_ok _ hq)) rfl
theorem zCL_in {o i : Nat} {x : Int64} (h : zCL.any (fun q => Nat.beq q.1 o && (Nat.beq q.2.1 i && decide (q.2.2.1 = x))) = true) : Cond.constantLong (zN o) i x ∈ zGW := by
  obtain ⟨q, hq, h⟩ := List.any_eq_true.mp h
  simp only [Bool.and_eq_true, Nat.beq_eq, decide_eq_true_eq] at h
  obtain ⟨h1, h2, h3⟩ := h
  obtain ⟨a, b, c', d⟩ := q
  dsimp only at h1 h2 h3
  subst h1 h2 h3
  exact zgw (List.mem_of_getElem? (zCL_ok _ hq)) rfl
set_option maxRecDepth 20000 in
theorem zMX_ok : ∀ q ∈ zMX, lw_tbl[q.2.2.2]? = some (.methodLink (zN q.1) q.2.1 (bif Nat.beq q.2.2.1 0 then Lib.Math.max.name else Lib.Math.min.name)) := by decide +kernel
set_option maxRecDepth 20000 in
theorem zAC_ok : ∀ q ∈ zAC, lw_tbl[q.2.2]? = some (.methodLink (zN q.1) q.2.1 arraycopyName) := by decide +kernel
set_option maxRecDepth 20000 in
theorem zmath_in : Cond.static Lib.Math.max.name ∈ zGW ∧ Cond.initialized "java/lang/Math" ∈ zGW ∧ Cond.code Lib.Math.max.name Lib.Math.max.code 2 (some .int) ∈ zGW ∧ Cond.static Lib.Math.min.name ∈ zGW ∧ Cond.code Lib.Math.min.name Lib.Math.min.code 2 (some .int) ∈ zGW := ⟨zgw (List.mem_of_getElem? (i := 342) (by decide +kernel)) rfl, zgw (List.mem_of_getElem? (i := 100) (by decide +kernel)) rfl, zgw (List.mem_of_getElem? (i := 343) (by decide +kernel)) rfl, zgw (List.mem_of_getElem? (i := 339) (by decide +kernel)) rfl, zgw (List.mem_of_getElem? (i := 340) (by decide +kernel)) rfl⟩
theorem zcopy_in : Cond.native arraycopyName ∈ zGW ∧ Cond.static arraycopyName ∈ zGW ∧ Cond.initialized "java/lang/System" ∈ zGW := ⟨zgw (List.mem_of_getElem? (i := 383) (by decide +kernel)) rfl, zgw (List.mem_of_getElem? (i := 382) (by decide +kernel)) rfl, zgw (List.mem_of_getElem? (i := 101) (by decide +kernel)) rfl⟩
/-- what is known of the classes of objects -/
theorem zinX0 : ∀ x ∈ wsX00, x ∈ zGW := fun x h => zgw (inX0 x h) (List.all_eq_true.mp (show wsX00.all goodWord = true by decide +kernel) x h)
theorem zinX1 : ∀ x ∈ wsX10, x ∈ zGW := fun x h => zgw (inX1 x h) (List.all_eq_true.mp (show wsX10.all goodWord = true by decide +kernel) x h)
theorem zinX2 : ∀ x ∈ wsX20, x ∈ zGW := fun x h => zgw (inX2 x h) (List.all_eq_true.mp (show wsX20.all goodWord = true by decide +kernel) x h)
theorem zinX3 : ∀ x ∈ wsX30, x ∈ zGW := fun x h => zgw (inX3 x h) (List.all_eq_true.mp (show wsX30.all goodWord = true by decide +kernel) x h)
theorem zinX4 : ∀ x ∈ wsX40, x ∈ zGW := fun x h => zgw (inX4 x h) (List.all_eq_true.mp (show wsX40.all goodWord = true by decide +kernel) x h)
theorem zinX5 : ∀ x ∈ wsX50, x ∈ zGW := fun x h => zgw (inX5 x h) (List.all_eq_true.mp (show wsX50.all goodWord = true by decide +kernel) x h)
theorem zinX6 : ∀ x ∈ wsX60, x ∈ zGW := fun x h => zgw (inX6 x h) (List.all_eq_true.mp (show wsX60.all goodWord = true by decide +kernel) x h)
theorem zinX7 : ∀ x ∈ wsX70, x ∈ zGW := fun x h => zgw (inX7 x h) (List.all_eq_true.mp (show wsX70.all goodWord = true by decide +kernel) x h)
theorem zkd_far {c : Nat} (h : 100 ≤ c) : zkd c = 9 := by
  unfold zkd
  rw [show Nat.ble 64 c = true from Nat.ble_eq_true_of_le (by omega)]
  show List.getD _ _ _ = 9
  rw [List.getD_eq_getElem?_getD, List.getElem?_eq_none (by simp; omega)]; rfl
theorem zobj_cases {c : Nat} (h : zkd c = 0) : c = 0 ∨ c = 1 ∨ c = 8 ∨ c = 10 ∨ c = 18 ∨ c = 19 ∨ c = 20 ∨ c = 64 := by
  rcases Nat.lt_or_ge c 100 with q | q
  · have key : ∀ c, c < 100 → zkd c = 0 → (c = 0 ∨ c = 1 ∨ c = 8 ∨ c = 10 ∨ c = 18 ∨ c = 19 ∨ c = 20 ∨ c = 64) := by decide +kernel
    exact key c q h
  · rw [zkd_far q] at h; cases h
theorem zobj {c : Nat} (h : zkd c = 0) : vwCl[zci c]? = some (zR c, zT c, zlen c) ∧ (∀ x ∈ u_ws (zR c) (zT c) (zlen c), x ∈ zGW) ∧ (∀ a, a < zlen c → ∀ b, b < zlen c → a ≠ b → (zT c a).2.1 ≠ (zT c b).2.1) ∧ (∃ ty : Nat → FieldType, ∀ k, k < zlen c → parseFieldDescriptor (zT c k).2.2.1 = some (ty k)) := by
  rcases zobj_cases h with rfl | rfl | rfl | rfl | rfl | rfl | rfl | rfl
  · exact ⟨rfl, zinX6, nmX6, tyX6, tyX6_ok⟩
  · exact ⟨rfl, zinX5, nmX5, tyX5, tyX5_ok⟩
  · exact ⟨rfl, zinX4, nmX4, tyX4, tyX4_ok⟩
  · exact ⟨rfl, zinX2, nmX2, tyX2, tyX2_ok⟩
  · exact ⟨rfl, zinX1, nmX1, tyX1, tyX1_ok⟩
  · exact ⟨rfl, zinX3, nmX3, tyX3, tyX3_ok⟩
  · exact ⟨rfl, zinX0, nmX0, tyX0, tyX0_ok⟩
  · exact ⟨rfl, zinX7, nmX7, tyX7, tyX7_ok⟩
set_option maxRecDepth 20000 in
theorem zown0 : ∀ c, c < 100 → zkd c = 0 → ∀ k, k < 42 → k < zlen c → (zT c k).1 = zR c := by decide +kernel
theorem zlen_le : ∀ c, c < 100 → zkd c = 0 → zlen c ≤ 42 := by decide +kernel
theorem zown {c k : Nat} (h : zkd c = 0) (hk : k < zlen c) : (zT c k).1 = zR c := by
  have hc : c < 100 := by rcases zobj_cases h with rfl | rfl | rfl | rfl | rfl | rfl | rfl | rfl <;> decide
  exact zown0 c hc h k (Nat.lt_of_lt_of_le hk (zlen_le c hc h)) hk
def zfty (c k : Nat) : FieldType := bif Nat.beq (zfk c k) 1 then .long else (bif zbz c k then .boolean else .int)
set_option maxRecDepth 20000 in
theorem zfin0a : ∀ c, c < 100 → zkd c = 0 → ∀ k, k < 42 → k < zlen c → zfk c k < 2 → (zT c k).2.2.2 = false := by decide +kernel
set_option maxRecDepth 20000 in
theorem zfin0b : ∀ c, c < 100 → ∀ k, k < 42 → (bif Nat.beq (zkd c) 0 && (Nat.blt k (zlen c) && Nat.blt (zfk c k) 2) then decide (parseFieldDescriptor (zT c k).2.2.1 = some (zfty c k)) else true) = true := by decide +kernel
theorem zfin {c k : Nat} (h : zkd c = 0) (hk : k < zlen c) (h2 : zfk c k < 2) : (zT c k).2.2.2 = false ∧ parseFieldDescriptor (zT c k).2.2.1 = some (zfty c k) := by
  have hc : c < 100 := by rcases zobj_cases h with rfl | rfl | rfl | rfl | rfl | rfl | rfl | rfl <;> decide
  have hl := Nat.lt_of_lt_of_le hk (zlen_le c hc h)
  have hb := zfin0b c hc k hl
  rw [show (Nat.beq (zkd c) 0 && (Nat.blt k (zlen c) && Nat.blt (zfk c k) 2)) = true from by rw [Bool.and_eq_true, Bool.and_eq_true]; exact ⟨Nat.beq_eq.mpr h, Nat.blt_eq.mpr hk, Nat.blt_eq.mpr h2⟩, cond_true] at hb
  exact ⟨zfin0a c hc h k hl hk h2, of_decide_eq_true hb⟩
theorem zfv_wrI {M : zWM} {c j k : Nat} {x : Int32} (hk : zfk c k = 0) : zfv (wrI M c j (zp (rdI M c j) k x)) c j k = .inl x := by
  unfold zfv
  rw [hk]
  show Sum.inl _ = _
  rw [rdI_wrI, zp_self]
theorem zfv_wrI_ne {M : zWM} {c j k i : Nat} {x : Int32} (hi : i ≠ k) : zfv (wrI M c j (zp (rdI M c j) k x)) c j i = zfv M c j i := by
  unfold zfv
  rw [rdI_wrI, zp_ne _ _ hi, rdL_wrI]
theorem zfv_wrL {M : zWM} {c j k : Nat} {x : Int64} (hk : zfk c k = 1) : zfv (wrL M c j (zp (rdL M c j) k x)) c j k = .inr (.inl x) := by
  unfold zfv
  rw [hk]
  show Sum.inr (Sum.inl _) = _
  rw [rdL_wrL, zp_self]
theorem zfv_wrL_ne {M : zWM} {c j k i : Nat} {x : Int64} (hi : i ≠ k) : zfv (wrL M c j (zp (rdL M c j) k x)) c j i = zfv M c j i := by
  unfold zfv
  rw [rdL_wrL, zp_ne _ _ hi, rdI_wrL]
theorem zcat_val {ad : Nat → Nat → Nat} {v : zPV} (h : zcat v = false) : (zcv ad v).category = 1 := by
  rcases v with x | x | x <;> simp [zcv, zcat, Value.category] at h ⊢
theorem zcat_val2 {ad : Nat → Nat → Nat} {v : zPV} (h : zcat v = true) : (zcv ad v).category = 2 := by
  rcases v with x | x | x <;> simp [zcv, zcat, Value.category] at h ⊢
theorem zcat_sum {ad : Nat → Nat → Nat} (st : List zPV) : ((st.map (zcv ad)).map fun v => v.category).sum ≤ 2 * st.length := by
  induction st with
  | nil => simp
  | cons v st ih =>
    have h : (zcv ad v).category ≤ 2 := by rcases v with x | x | x <;> simp [zcv, Value.category]
    simp only [List.map_cons, List.sum_cons, List.length_cons]
    omega
