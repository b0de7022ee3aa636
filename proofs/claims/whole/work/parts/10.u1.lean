/-! PURE PART: small numbers as Int32, reading and writing the memory -/
def zi (a : Int) : Int32 := Int32.ofInt a
theorem zi_add (a b : Int) : zi a + zi b = zi (a + b) := (Int32.ofInt_add a b).symm
theorem zi_sub (a b : Int) : zi a - zi b = zi (a - b) := (Int32.ofInt_sub a b).symm
theorem zi_mul (a b : Int) : zi a * zi b = zi (a * b) := (Int32.ofInt_mul a b).symm
theorem zi_neg (a : Int) : -zi a = zi (-a) := (Int32.ofInt_neg a).symm
theorem zi_toInt {a : Int} (h1 : -2147483648 ≤ a) (h2 : a < 2147483648) : (zi a).toInt = a := Int32.toInt_ofInt_of_le (by omega) (by omega)
theorem zi_lt {a b : Int} (a1 : -2147483648 ≤ a) (a2 : a < 2147483648) (b1 : -2147483648 ≤ b) (b2 : b < 2147483648) : zi a < zi b ↔ a < b := by
  rw [Int32.lt_iff_toInt_lt, zi_toInt a1 a2, zi_toInt b1 b2]
theorem zi_le {a b : Int} (a1 : -2147483648 ≤ a) (a2 : a < 2147483648) (b1 : -2147483648 ≤ b) (b2 : b < 2147483648) : zi a ≤ zi b ↔ a ≤ b := by
  rw [Int32.le_iff_toInt_le, zi_toInt a1 a2, zi_toInt b1 b2]
theorem zi_eq {a b : Int} (a1 : -2147483648 ≤ a) (a2 : a < 2147483648) (b1 : -2147483648 ≤ b) (b2 : b < 2147483648) : zi a = zi b ↔ a = b := by
  rw [← Int32.toInt_inj, zi_toInt a1 a2, zi_toInt b1 b2]
theorem zi_nI (n : Nat) : nI n = zi n := rfl
theorem zi_of (x : Int32) : ∃ a : Int, x = zi a ∧ -2147483648 ≤ a ∧ a < 2147483648 := ⟨x.toInt, (Int32.ofInt_toInt x).symm, by have := Int32.le_toInt x; omega, by have := Int32.toInt_lt x; omega⟩
theorem ix_zi {a : Int} (h1 : 0 ≤ a) (h2 : a < 2147483648) : ix (zi a) = a.toNat := by
  show (zi a).toInt.toNat = a.toNat
  rw [zi_toInt (by omega) h2]
theorem ix_zn {a : Nat} (h2 : a < 2147483648) : ix (zi a) = a := by
  rw [ix_zi (by omega) (by omega)]; omega
theorem inb_zi {a : Int} {n : Nat} (h1 : 0 ≤ a) (h2 : a < n) (h3 : n < 2147483648) : inb (zi a) n = true := by
  unfold inb
  rw [show (zi a).toNatClampNeg = a.toNat from ix_zi h1 (by omega), Bool.and_eq_true]
  refine ⟨Nat.blt_eq.mpr (by omega), decide_eq_true ?_⟩
  have e : (0 : Int32) = zi 0 := rfl
  rw [e, zi_lt (by omega) (by omega) (by omega) (by omega)]
  omega
theorem chk_zi {β : Type} {a : Int} {n : Nat} {k : Option β} (h1 : 0 ≤ a) (h2 : a < n) (h3 : n < 2147483648) : chk (zi a) n k = k := by
  unfold chk
  rw [if_pos (inb_zi h1 h2 h3)]
theorem zlet_eq {α β : Type} (a : α) (k : α → β) : zlet a k = k a := rfl
theorem zr_some {α β : Type} (a : α) (k : α → Option β) : zr (some a) k = k a := rfl
theorem zb_some {α β : Type} (a : α) (m : zMem) (k : α → zMem → Option β) : zb (some (a, m)) k = k a m := rfl
def zo (b : Bool) : Int32 := bif b then 1 else 0
theorem zo_t : zo true = 1 := rfl
theorem zo_f : zo false = 0 := rfl
theorem zo_0 (b : Bool) : zo b = 0 ↔ b = false := by cases b <;> decide
theorem zo_1 (b : Bool) : zo b = 1 ↔ b = true := by cases b <;> decide
theorem zo_zi (b : Bool) : zo b = zi (bif b then 1 else 0) := by cases b <;> rfl
/-! memory -/
theorem zs_at {α : Type} (f : Nat → Nat → α) (c j c' j' : Nat) (g : α) : zs f c j g c' j' = if c' = c ∧ j' = j then g else f c' j' := by
  by_cases h : c' = c ∧ j' = j
  · rw [if_pos h, h.1, h.2, zs_self]
  · rw [if_neg h, zs_ne _ _ _ _ h]
theorem wI_1 (m : zMem) (c j k : Nat) (x : Int32) (c' j' k' : Nat) : (wI m c j k x).1 c' j' k' = if c' = c ∧ j' = j ∧ k' = k then x else m.1 c' j' k' := by
  show zs m.1 c j (zp (m.1 c j) k x) c' j' k' = _
  rw [zs_at]
  by_cases h : c' = c ∧ j' = j
  · rw [if_pos h]
    unfold zp
    by_cases h2 : k' = k
    · rw [if_pos h2, if_pos ⟨h.1, h.2, h2⟩]
    · rw [if_neg h2, if_neg (fun q => h2 q.2.2), h.1, h.2]
  · rw [if_neg h, if_neg (fun q => h ⟨q.1, q.2.1⟩)]
theorem wL_2 (m : zMem) (c j k : Nat) (x : Int64) (c' j' k' : Nat) : (wL m c j k x).2 c' j' k' = if c' = c ∧ j' = j ∧ k' = k then x else m.2 c' j' k' := by
  show zs m.2 c j (zp (m.2 c j) k x) c' j' k' = _
  rw [zs_at]
  by_cases h : c' = c ∧ j' = j
  · rw [if_pos h]
    unfold zp
    by_cases h2 : k' = k
    · rw [if_pos h2, if_pos ⟨h.1, h.2, h2⟩]
    · rw [if_neg h2, if_neg (fun q => h2 q.2.2), h.1, h.2]
  · rw [if_neg h, if_neg (fun q => h ⟨q.1, q.2.1⟩)]
theorem wI_2 (m : zMem) (c j k : Nat) (x : Int32) : (wI m c j k x).2 = m.2 := rfl
theorem wL_1 (m : zMem) (c j k : Nat) (x : Int64) : (wL m c j k x).1 = m.1 := rfl
theorem wIs_1 (m : zMem) (c j : Nat) (g : Nat → Int32) (c' j' k' : Nat) : (wIs m c j g).1 c' j' k' = if c' = c ∧ j' = j then g k' else m.1 c' j' k' := by
  show zs m.1 c j g c' j' k' = _
  rw [zs_at]
  split <;> rfl
theorem wLs_2 (m : zMem) (c j : Nat) (g : Nat → Int64) (c' j' k' : Nat) : (wLs m c j g).2 c' j' k' = if c' = c ∧ j' = j then g k' else m.2 c' j' k' := by
  show zs m.2 c j g c' j' k' = _
  rw [zs_at]
  split <;> rfl
theorem wIs_2 (m : zMem) (c j : Nat) (g : Nat → Int32) : (wIs m c j g).2 = m.2 := rfl
theorem wLs_1 (m : zMem) (c j : Nat) (g : Nat → Int64) : (wLs m c j g).1 = m.1 := rfl
/-! bits of small numbers -/
theorem zi_toBV (n : Nat) (h : n < 2147483648) : (zi n).toBitVec = BitVec.ofNat 32 n := by
  show BitVec.ofInt 32 (n : Int) = BitVec.ofNat 32 n
  exact BitVec.ofInt_natCast 32 n
theorem zi_BV (b : BitVec 32) : (⟨⟨b⟩⟩ : Int32) = zi b.toNat := by
  have e : (zi b.toNat).toBitVec = b := by
    show BitVec.ofInt 32 (b.toNat : Int) = b
    rw [BitVec.ofInt_natCast, BitVec.ofNat_toNat, BitVec.setWidth_eq]
  exact (Int32.toBitVec_inj.mp e).symm
theorem zi_and {a b : Nat} (ha : a < 2147483648) (hb : b < 2147483648) : zi a &&& zi b = zi ((a &&& b : Nat) : Int) := by
  apply Int32.toBitVec_inj.mp
  rw [Int32.toBitVec_and, zi_toBV a ha, zi_toBV b hb, zi_toBV _ (Nat.lt_of_le_of_lt Nat.and_le_left ha), BitVec.ofNat_and]
theorem zi_or {a b : Nat} (ha : a < 2147483648) (hb : b < 2147483648) : zi a ||| zi b = zi ((a ||| b : Nat) : Int) := by
  apply Int32.toBitVec_inj.mp
  rw [Int32.toBitVec_or, zi_toBV a ha, zi_toBV b hb, zi_toBV _ (Nat.or_lt_two_pow (n := 31) ha hb), BitVec.ofNat_or]
theorem zi_xor {a b : Nat} (ha : a < 2147483648) (hb : b < 2147483648) : zi a ^^^ zi b = zi ((a ^^^ b : Nat) : Int) := by
  apply Int32.toBitVec_inj.mp
  rw [Int32.toBitVec_xor, zi_toBV a ha, zi_toBV b hb, zi_toBV _ (Nat.xor_lt_two_pow (n := 31) ha hb), BitVec.ofNat_xor]
