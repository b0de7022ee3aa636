/-! the memory at the start of the loop, and its cells -/
def iCm : Nat → Nat → Nat → Int32 := fun c _ k => bif Nat.beq c 1 && Nat.beq k 5 then 8 else bif Nat.beq c 1 && Nat.beq k 10 then 1 else bif Nat.beq c 8 && Nat.beq k 1 then -1 else bif Nat.beq c 0 && Nat.beq k 10 then -1 else 0
def iRm : Nat → Nat → Nat → Int32 := fun c _ k => bif Nat.beq c 77 then iWds k else bif Nat.beq c 64 && Nat.beq k 1 then 8 else bif Nat.beq c 64 && Nat.beq k 5 then 1 else bif Nat.beq c 64 && Nat.beq k 6 then -1 else 0
def iM : zWM := ((iCm, fun _ _ _ => 0), (iRm, fun _ _ _ => 0))
/-- the addresses: the constructors' cells, and what was there -/
def iAd (tL : Nat) (aK aV : Nat → Nat) (b nq : Nat) (nu : Nat → Nat) (mq : Nat) (mu : Nat → Nat) : Nat → Nat → Nat := fun c j =>
  bif Nat.beq c 60 then tL else bif Nat.beq c 61 then aK j else bif Nat.beq c 62 then aV j else bif Nat.beq c 63 then b else
  bif Nat.beq c 64 then mq else bif Nat.ble 65 c then mu (c - 65) else bif Nat.beq c 0 then nq else bif Nat.ble c 6 then nu (6 * j + c) else bif Nat.beq c 7 then nu 0 else bif Nat.beq c 8 then nu (32 + 2 * j) else bif Nat.beq c 9 then nu (33 + 2 * j) else nu (c + 9)
/-- the place of a cell among the made ones -/
def iPos (c j : Nat) : Nat := bif Nat.beq c 64 then 49 else bif Nat.ble 65 c then c - 15 else bif Nat.beq c 0 then 0 else bif Nat.ble c 6 then 6 * j + c + 1 else bif Nat.beq c 7 then 1 else bif Nat.beq c 8 then 33 + 2 * j else bif Nat.beq c 9 then 34 + 2 * j else c + 10
theorem iPos_inj : ∀ x ∈ zhs, ∀ y ∈ zhs, iPos x.1 x.2 = iPos y.1 y.2 → x = y := by decide +kernel
section ICEL
variable {D : va_G} {t : cT3} {A : Nat → Prop} {tL : Nat} {aK aV : Nat → Nat} {b nq : Nat} {nu : Nat → Nat} {mq : Nat} {mu : Nat → Nat}
abbrev iW (D : va_G) (t : cT3) (A : Nat → Prop) (tL : Nat) (aK aV : Nat → Nat) (b nq : Nat) (nu : Nat → Nat) (mq : Nat) (mu : Nat → Nat) : zWd := (D, t, iAd tL aK aV b nq nu mq mu, A)
set_option maxHeartbeats 4000000 in
set_option maxRecDepth 100000 in
theorem iC0 : ∀ x ∈ ([(0, 0), (1, 0), (1, 1), (1, 2), (2, 0), (2, 1), (2, 2), (3, 0), (3, 1), (3, 2), (4, 0), (4, 1), (4, 2), (5, 0), (5, 1), (5, 2), (6, 0), (6, 1), (6, 2)] : List (Nat × Nat)), (iW6 t nq nu ++ iW7 t mq mu)[iPos x.1 x.2]? = some ((iW D t A tL aK aV b nq nu mq mu).2.2.1 x.1 x.2, zcell (iW D t A tL aK aV b nq nu mq mu) iM x.1 x.2) :=
  (List.forall_mem_cons.mpr ⟨rfl, (List.forall_mem_cons.mpr ⟨rfl, (List.forall_mem_cons.mpr ⟨rfl, (List.forall_mem_cons.mpr ⟨rfl, (List.forall_mem_cons.mpr ⟨rfl, (List.forall_mem_cons.mpr ⟨rfl, (List.forall_mem_cons.mpr ⟨rfl, (List.forall_mem_cons.mpr ⟨rfl, (List.forall_mem_cons.mpr ⟨rfl, (List.forall_mem_cons.mpr ⟨rfl, (List.forall_mem_cons.mpr ⟨rfl, (List.forall_mem_cons.mpr ⟨rfl, (List.forall_mem_cons.mpr ⟨rfl, (List.forall_mem_cons.mpr ⟨rfl, (List.forall_mem_cons.mpr ⟨rfl, (List.forall_mem_cons.mpr ⟨rfl, (List.forall_mem_cons.mpr ⟨rfl, (List.forall_mem_cons.mpr ⟨rfl, (List.forall_mem_cons.mpr ⟨rfl, (List.forall_mem_nil _)⟩)⟩)⟩)⟩)⟩)⟩)⟩)⟩)⟩)⟩)⟩)⟩)⟩)⟩)⟩)⟩)⟩)⟩)⟩)
set_option maxHeartbeats 4000000 in
set_option maxRecDepth 100000 in
theorem iC1 : ∀ x ∈ ([(8, 0), (8, 1), (8, 2), (8, 3), (8, 4), (8, 5), (8, 6), (8, 7), (9, 0), (9, 1), (9, 2), (9, 3), (9, 4), (9, 5), (9, 6), (9, 7), (10, 0), (11, 0), (12, 0), (13, 0), (14, 0), (15, 0), (16, 0), (17, 0), (18, 0), (19, 0), (20, 0), (21, 0), (22, 0)] : List (Nat × Nat)), (iW6 t nq nu ++ iW7 t mq mu)[iPos x.1 x.2]? = some ((iW D t A tL aK aV b nq nu mq mu).2.2.1 x.1 x.2, zcell (iW D t A tL aK aV b nq nu mq mu) iM x.1 x.2) :=
  (List.forall_mem_cons.mpr ⟨rfl, (List.forall_mem_cons.mpr ⟨rfl, (List.forall_mem_cons.mpr ⟨rfl, (List.forall_mem_cons.mpr ⟨rfl, (List.forall_mem_cons.mpr ⟨rfl, (List.forall_mem_cons.mpr ⟨rfl, (List.forall_mem_cons.mpr ⟨rfl, (List.forall_mem_cons.mpr ⟨rfl, (List.forall_mem_cons.mpr ⟨rfl, (List.forall_mem_cons.mpr ⟨rfl, (List.forall_mem_cons.mpr ⟨rfl, (List.forall_mem_cons.mpr ⟨rfl, (List.forall_mem_cons.mpr ⟨rfl, (List.forall_mem_cons.mpr ⟨rfl, (List.forall_mem_cons.mpr ⟨rfl, (List.forall_mem_cons.mpr ⟨rfl, (List.forall_mem_cons.mpr ⟨rfl, (List.forall_mem_cons.mpr ⟨rfl, (List.forall_mem_cons.mpr ⟨rfl, (List.forall_mem_cons.mpr ⟨rfl, (List.forall_mem_cons.mpr ⟨rfl, (List.forall_mem_cons.mpr ⟨rfl, (List.forall_mem_cons.mpr ⟨rfl, (List.forall_mem_cons.mpr ⟨rfl, (List.forall_mem_cons.mpr ⟨rfl, (List.forall_mem_cons.mpr ⟨rfl, (List.forall_mem_cons.mpr ⟨rfl, (List.forall_mem_cons.mpr ⟨rfl, (List.forall_mem_cons.mpr ⟨rfl, (List.forall_mem_nil _)⟩)⟩)⟩)⟩)⟩)⟩)⟩)⟩)⟩)⟩)⟩)⟩)⟩)⟩)⟩)⟩)⟩)⟩)⟩)⟩)⟩)⟩)⟩)⟩)⟩)⟩)⟩)⟩)⟩)
set_option maxHeartbeats 4000000 in
set_option maxRecDepth 100000 in
theorem iC2 : ∀ x ∈ ([(64, 0), (65, 0), (66, 0), (67, 0), (68, 0), (69, 0), (70, 0), (71, 0), (72, 0), (73, 0), (74, 0)] : List (Nat × Nat)), (iW6 t nq nu ++ iW7 t mq mu)[iPos x.1 x.2]? = some ((iW D t A tL aK aV b nq nu mq mu).2.2.1 x.1 x.2, zcell (iW D t A tL aK aV b nq nu mq mu) iM x.1 x.2) :=
  (List.forall_mem_cons.mpr ⟨rfl, (List.forall_mem_cons.mpr ⟨rfl, (List.forall_mem_cons.mpr ⟨rfl, (List.forall_mem_cons.mpr ⟨rfl, (List.forall_mem_cons.mpr ⟨rfl, (List.forall_mem_cons.mpr ⟨rfl, (List.forall_mem_cons.mpr ⟨rfl, (List.forall_mem_cons.mpr ⟨rfl, (List.forall_mem_cons.mpr ⟨rfl, (List.forall_mem_cons.mpr ⟨rfl, (List.forall_mem_cons.mpr ⟨rfl, (List.forall_mem_nil _)⟩)⟩)⟩)⟩)⟩)⟩)⟩)⟩)⟩)⟩)⟩)
set_option maxHeartbeats 4000000 in
set_option maxRecDepth 100000 in
theorem iC3 : ∀ x ∈ ([(75, 0), (76, 0), (77, 0), (78, 0), (79, 0), (80, 0), (81, 0), (82, 0), (83, 0), (84, 0), (85, 0), (86, 0), (87, 0), (88, 0)] : List (Nat × Nat)), (iW6 t nq nu ++ iW7 t mq mu)[iPos x.1 x.2]? = some ((iW D t A tL aK aV b nq nu mq mu).2.2.1 x.1 x.2, zcell (iW D t A tL aK aV b nq nu mq mu) iM x.1 x.2) :=
  (List.forall_mem_cons.mpr ⟨rfl, (List.forall_mem_cons.mpr ⟨rfl, (List.forall_mem_cons.mpr ⟨rfl, (List.forall_mem_cons.mpr ⟨rfl, (List.forall_mem_cons.mpr ⟨rfl, (List.forall_mem_cons.mpr ⟨rfl, (List.forall_mem_cons.mpr ⟨rfl, (List.forall_mem_cons.mpr ⟨rfl, (List.forall_mem_cons.mpr ⟨rfl, (List.forall_mem_cons.mpr ⟨rfl, (List.forall_mem_cons.mpr ⟨rfl, (List.forall_mem_cons.mpr ⟨rfl, (List.forall_mem_cons.mpr ⟨rfl, (List.forall_mem_cons.mpr ⟨rfl, (List.forall_mem_nil _)⟩)⟩)⟩)⟩)⟩)⟩)⟩)⟩)⟩)⟩)⟩)⟩)⟩)⟩)
theorem iC4 : (iW6 t nq nu ++ iW7 t mq mu)[iPos 7 0]? = some ((iW D t A tL aK aV b nq nu mq mu).2.2.1 7 0, .inl (t.2.2, 8, .inr (.inr (.inr (.inr (va_up (va_up (va_up (va_up (va_up (va_up (va_up (va_up (fun _ => none) (0 : Int32).toNatClampNeg (some (nu 32))) (1 : Int32).toNatClampNeg (some (nu 34))) (2 : Int32).toNatClampNeg (some (nu 36))) (3 : Int32).toNatClampNeg (some (nu 38))) (4 : Int32).toNatClampNeg (some (nu 40))) (5 : Int32).toNatClampNeg (some (nu 42))) (6 : Int32).toNatClampNeg (some (nu 44))) (7 : Int32).toNatClampNeg (some (nu 46)))))))) := rfl
theorem iSplit : ∀ x ∈ zhs, x = (7, 0) ∨ x ∈ ([(0, 0), (1, 0), (1, 1), (1, 2), (2, 0), (2, 1), (2, 2), (3, 0), (3, 1), (3, 2), (4, 0), (4, 1), (4, 2), (5, 0), (5, 1), (5, 2), (6, 0), (6, 1), (6, 2)] : List (Nat × Nat)) ∨ x ∈ ([(8, 0), (8, 1), (8, 2), (8, 3), (8, 4), (8, 5), (8, 6), (8, 7), (9, 0), (9, 1), (9, 2), (9, 3), (9, 4), (9, 5), (9, 6), (9, 7), (10, 0), (11, 0), (12, 0), (13, 0), (14, 0), (15, 0), (16, 0), (17, 0), (18, 0), (19, 0), (20, 0), (21, 0), (22, 0)] : List (Nat × Nat)) ∨ x ∈ ([(64, 0), (65, 0), (66, 0), (67, 0), (68, 0), (69, 0), (70, 0), (71, 0), (72, 0), (73, 0), (74, 0)] : List (Nat × Nat)) ∨ x ∈ ([(75, 0), (76, 0), (77, 0), (78, 0), (79, 0), (80, 0), (81, 0), (82, 0), (83, 0), (84, 0), (85, 0), (86, 0), (87, 0), (88, 0)] : List (Nat × Nat)) := by decide +kernel
theorem iCell : ∀ x ∈ zhs, x ≠ (7, 0) → (iW6 t nq nu ++ iW7 t mq mu)[iPos x.1 x.2]? = some ((iW D t A tL aK aV b nq nu mq mu).2.2.1 x.1 x.2, zcell (iW D t A tL aK aV b nq nu mq mu) iM x.1 x.2) := by
  intro x hx hn
  rcases iSplit x hx with h | h | h | h | h
  · exact absurd h hn
  · exact iC0 x h
  · exact iC1 x h
  · exact iC2 x h
  · exact iC3 x h
theorem arrV_ext {cA : ClassId} {n : Nat} {f g : Nat → Value} (h : ∀ j, j < n → f j = g j) : arrV cA n f = arrV cA n g := by
  unfold arrV
  congr 1
  apply Array.ext
  · simp
  · intro i h1 h2
    have hi : i < n := by simpa using h1
    simp [h i hi]
theorem iShf : ∀ j, j < 8 → va_rf ((va_up (va_up (va_up (va_up (va_up (va_up (va_up (va_up (fun _ => none) (0 : Int32).toNatClampNeg (some (nu 32))) (1 : Int32).toNatClampNeg (some (nu 34))) (2 : Int32).toNatClampNeg (some (nu 36))) (3 : Int32).toNatClampNeg (some (nu 38))) (4 : Int32).toNatClampNeg (some (nu 40))) (5 : Int32).toNatClampNeg (some (nu 42))) (6 : Int32).toNatClampNeg (some (nu 44))) (7 : Int32).toNatClampNeg (some (nu 46))) j) = .ref (iAd tL aK aV b nq nu mq mu 8 j) := by
  intro j hj
  match j, hj with
  | 0, _ => rfl
  | 1, _ => rfl
  | 2, _ => rfl
  | 3, _ => rfl
  | 4, _ => rfl
  | 5, _ => rfl
  | 6, _ => rfl
  | 7, _ => rfl
  | j + 8, h => exact absurd h (by omega)
theorem iAddr : ∀ x ∈ zhs, ∃ e, (iW6 t nq nu ++ iW7 t mq mu)[iPos x.1 x.2]? = some ((iW D t A tL aK aV b nq nu mq mu).2.2.1 x.1 x.2, e) := by
  intro x hx
  by_cases hn : x = (7, 0)
  · subst hn
    exact ⟨_, iC4⟩
  · exact ⟨_, iCell x hx hn⟩
theorem iCells {cl : List vw_C} {M : zWM} {k : Nat} {q : Nat × va_E} {w : zWd} (h : (zcells w M)[k]? = some q) : ∃ x, zhs[k]? = some x ∧ q = (w.2.2.1 x.1 x.2, zcell w M x.1 x.2) := by
  unfold zcells at h
  rw [List.getElem?_map, Option.map_eq_some_iff] at h
  obtain ⟨x, h1, h2⟩ := h
  exact ⟨x, h1, h2.symm⟩
theorem iP {H : Heap} (hP : va_P D vwCl (iW6 t nq nu ++ iW7 t mq mu) H) : va_P D vwCl (zcells (iW D t A tL aK aV b nq nu mq mu) iM) H := by
  intro k q hk
  obtain ⟨x, h1, rfl⟩ := iCells (cl := vwCl) hk
  have hx := List.mem_of_getElem? h1
  by_cases hn : x = (7, 0)
  · subst hn
    have h2 : H[(iW D t A tL aK aV b nq nu mq mu).2.2.1 7 0]? = some (vp_cell t.2.2 (8, .inr (.inr (.inr (.inr (va_up (va_up (va_up (va_up (va_up (va_up (va_up (va_up (fun _ => none) (0 : Int32).toNatClampNeg (some (nu 32))) (1 : Int32).toNatClampNeg (some (nu 34))) (2 : Int32).toNatClampNeg (some (nu 36))) (3 : Int32).toNatClampNeg (some (nu 38))) (4 : Int32).toNatClampNeg (some (nu 40))) (5 : Int32).toNatClampNeg (some (nu 42))) (6 : Int32).toNatClampNeg (some (nu 44))) (7 : Int32).toNatClampNeg (some (nu 46)))))))) := hP (iPos 7 0) _ (iC4 (D := D) (A := A) (tL := tL) (aK := aK) (aV := aV) (b := b))
    show H[(iW D t A tL aK aV b nq nu mq mu).2.2.1 7 0]? = some (vp_cell t.2.2 (8, .inr (.inr (.inr (.inr (fun i => some (iAd tL aK aV b nq nu mq mu 8 i)))))))
    rw [h2, vp_cell_q, vp_cell_q]
    exact congrArg some (arrV_ext (fun j hj => iShf j hj))
  · exact hP (iPos x.1 x.2) _ (iCell x hx hn)
theorem iD (hD : va_D A (iW6 t nq nu ++ iW7 t mq mu)) (M : zWM) : va_D A (zcells (iW D t A tL aK aV b nq nu mq mu) M) := by
  refine ⟨fun i j p q h1 h2 he => ?_, fun k q hk => ?_⟩
  · obtain ⟨x, a1, rfl⟩ := iCells (cl := vwCl) h1
    obtain ⟨y, a2, rfl⟩ := iCells (cl := vwCl) h2
    obtain ⟨e1, b1⟩ := iAddr (D := D) (A := A) (tL := tL) (aK := aK) (aV := aV) (b := b) (t := t) (nq := nq) (nu := nu) (mq := mq) (mu := mu) x (List.mem_of_getElem? a1)
    obtain ⟨e2, b2⟩ := iAddr (D := D) (A := A) (tL := tL) (aK := aK) (aV := aV) (b := b) (t := t) (nq := nq) (nu := nu) (mq := mq) (mu := mu) y (List.mem_of_getElem? a2)
    have e3 := iPos_inj x (List.mem_of_getElem? a1) y (List.mem_of_getElem? a2) (hD.1 _ _ _ _ b1 b2 he)
    subst e3
    exact (zhs_inj (c := x.1) (j := x.2) a1).trans (zhs_inj (c := x.1) (j := x.2) a2).symm
  · obtain ⟨x, a1, rfl⟩ := iCells (cl := vwCl) hk
    obtain ⟨e1, b1⟩ := iAddr (D := D) (A := A) (tL := tL) (aK := aK) (aV := aV) (b := b) (t := t) (nq := nq) (nu := nu) (mq := mq) (mu := mu) x (List.mem_of_getElem? a1)
    have h3 := hD.2 _ _ b1
    exact h3
end ICEL
/-! the start is a table of nobody -/
def iT : zTab := (0, 8, 0, fun _ => 0, fun _ => 0, fun _ => 0, fun _ => 0, fun _ => 0)
theorem iRel : Rel iT iM.1 iM.2 := by
  refine ⟨?_, ⟨rfl, rfl, rfl, fun g h => absurd h (Nat.not_lt_zero g)⟩, ⟨rfl, rfl, rfl, fun g h => absurd h (Nat.not_lt_zero g)⟩, ⟨rfl, rfl, rfl⟩, Or.inl ⟨rfl, rfl⟩, fun s _ => Or.inl ⟨rfl, rfl, rfl⟩, fun _ _ => rfl, rfl, ⟨rfl, fun _ _ => rfl⟩, ?_⟩
  · simp [tOK, iT, tn, tz, te]
  · exact (by decide +kernel : ∀ i, i < 36 → iWds i = zWds.getD i 0)
