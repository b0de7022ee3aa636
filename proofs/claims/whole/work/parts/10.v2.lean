/-! masks: and-not, tests -/
theorem bv_andn {w : Nat} (x y : BitVec w) : x &&& (y ^^^ BitVec.allOnes w) = x ^^^ (x &&& y) := by
  ext i hi
  simp only [BitVec.getElem_and, BitVec.getElem_xor, BitVec.getElem_allOnes]
  cases x[i] <;> cases y[i] <;> rfl
theorem i32_andn (x y : Int32) : x &&& (y ^^^ (-1)) = x ^^^ (x &&& y) := by
  apply Int32.toBitVec_inj.mp
  rw [Int32.toBitVec_and, Int32.toBitVec_xor, Int32.toBitVec_xor, Int32.toBitVec_and]
  exact bv_andn _ _
theorem i64_andn (x y : Int64) : x &&& (y ^^^ (-1)) = x ^^^ (x &&& y) := by
  apply Int64.toBitVec_inj.mp
  rw [Int64.toBitVec_and, Int64.toBitVec_xor, Int64.toBitVec_xor, Int64.toBitVec_and]
  exact bv_andn _ _
def andn (a b : Nat) : Nat := a ^^^ (a &&& b)
theorem andn_lt {a b n : Nat} (h : a < 2 ^ n) : andn a b < 2 ^ n := Nat.xor_lt_two_pow h (Nat.lt_of_le_of_lt Nat.and_le_left h)
theorem andn_test (a b i : Nat) : (andn a b).testBit i = (a.testBit i && !b.testBit i) := by
  unfold andn
  rw [Nat.testBit_xor, Nat.testBit_and]
  cases a.testBit i <;> cases b.testBit i <;> rfl
theorem zi_andn {a b : Nat} (ha : a < 2147483648) (hb : b < 2147483648) : zi a &&& (zi b ^^^ (-1)) = zi (andn a b : Nat) := by
  have h2 : a &&& b < 2147483648 := Nat.lt_of_le_of_lt Nat.and_le_left ha
  rw [i32_andn, zi_and ha hb, zi_xor ha h2]
  rfl
theorem zw_andn {a b : Nat} (ha : a < 2 ^ 63) (hb : b < 2 ^ 63) : zw a &&& (zw b ^^^ (-1)) = zw (andn a b) := by
  have h2 : a &&& b < 2 ^ 63 := Nat.lt_of_le_of_lt Nat.and_le_left ha
  rw [i64_andn, zw_and ha hb, zw_xor ha h2]
  rfl
theorem isIn_C {a p : Nat} (ha : a < 2 ^ 63) (hp : p < 64) : s_X2_isIn (zw a) (zi p) = some (zo (a.testBit p)) := by
  unfold s_X2_isIn
  have e : zw a >>> (0 : Int64) = zw a >>> (0 : Int64) := rfl
  have h2 : a >>> p < 2 ^ 63 := Nat.lt_of_le_of_lt (Nat.shiftRight_le a p) ha
  rw [zw_shr ha hp, show (1 : Int64) = zw 1 from rfl, zw_and h2 (by decide)]
  have h3 : a >>> p &&& 1 = (bif a.testBit p then 1 else 0) := by
    rw [Nat.and_one_is_mod, Nat.testBit_eq_decide_div_mod_eq, Nat.shiftRight_eq_div_pow]
    by_cases q : a / 2 ^ p % 2 = 1
    · rw [decide_eq_true q, q]; rfl
    · rw [decide_eq_false q]; show _ = 0; omega
  rw [h3]
  cases a.testBit p
  · rw [if_pos (by rw [lg_cmp_0]; rfl)]; rfl
  · rw [if_neg (by rw [lg_cmp_0]; decide)]; rfl
set_option maxRecDepth 20000 in
theorem room_all : ∀ l, l < 10 → ∀ b, b < 1024 → s_J6_bitCount_0f7a4 (zi (b : Nat) &&& jshl (-1) (zi (l : Nat))) = some (zi (bcnt (fun g => Nat.testBit b g && decide (l ≤ g)) 10 : Nat)) := by decide +kernel
theorem half_all : ∀ a, a < 11 → (zi (a : Nat) : Int32) / 2 = zi (a / 2 : Nat) := by decide +kernel
/-! a list's members by place -/
theorem drop_pa {L : List zPr} {p : Nat} {x : zPr} (h : x ∈ L.drop p) : ∃ j, p ≤ j ∧ j < L.length ∧ x = pa L j := by
  obtain ⟨i, hi, e⟩ := List.mem_iff_getElem.mp h
  rw [List.length_drop] at hi
  refine ⟨p + i, by omega, by omega, ?_⟩
  rw [← e, List.getElem_drop]
  unfold pa
  rw [List.getD_eq_getElem?_getD, List.getElem?_eq_getElem (by omega)]
  rfl
theorem pa_get {L : List zPr} {i : Nat} (h : i < L.length) : pa L i = L[i] := by
  unfold pa
  rw [List.getD_eq_getElem?_getD, List.getElem?_eq_getElem h]
  rfl
def srt (L : List zPr) : Prop := L.Pairwise (fun x y => x.1 ≤ y.1 ∧ x ≠ y)
theorem srt_lt {L : List zPr} (h : srt L) {i j : Nat} (hij : i < j) (hj : j < L.length) : (pa L i).1 ≤ (pa L j).1 ∧ pa L i ≠ pa L j := by
  rw [pa_get hj, pa_get (Nat.lt_trans hij hj)]
  exact List.pairwise_iff_getElem.mp h i j (Nat.lt_trans hij hj) hj hij
theorem srt_ne {L : List zPr} (h : srt L) {i j : Nat} (hi : i < L.length) (hj : j < L.length) (hij : i ≠ j) : pa L i ≠ pa L j := by
  rcases Nat.lt_or_gt_of_ne hij with q | q
  · exact (srt_lt h q hj).2
  · exact Ne.symm (srt_lt h q hi).2
/-- a set of pairs of a list, as bits -/
def mk (L τ : List zPr) : Nat := bset (fun j => decide (pa L j ∈ τ)) L.length
theorem mk_test (L τ : List zPr) (i : Nat) : (mk L τ).testBit i = (decide (i < L.length) && decide (pa L i ∈ τ)) := bset_test _ _ _
theorem mk_snoc {L τ : List zPr} (h : srt L) {p : Nat} (hp : p < L.length) : mk L τ ||| 2 ^ p = mk L (τ ++ [pa L p]) := by
  apply Nat.eq_of_testBit_eq
  intro i
  rw [Nat.testBit_or, mk_test, mk_test, Nat.testBit_two_pow]
  by_cases hi : i < L.length
  · rw [decide_eq_true hi, Bool.true_and, Bool.true_and]
    by_cases q : p = i
    · subst q
      simp
    · have := srt_ne h hi hp (Ne.symm q)
      simp [q, this]
  · rw [decide_eq_false hi, decide_eq_false (show ¬ p = i by omega)]
    rfl
theorem mk_nil (L : List zPr) : mk L [] = 0 := by
  apply Nat.eq_of_testBit_eq
  intro i
  rw [mk_test]
  simp
theorem mk_lt {L τ : List zPr} (h : L.length ≤ 45) : mk L τ < 2 ^ 63 := bset63 _ (by omega)
theorem gsts_test (a : zPr) (i : Nat) : (gsts a).testBit i = (decide (i = a.1) || decide (i = a.2)) := by
  unfold gsts
  rw [Nat.testBit_or, Nat.testBit_two_pow, Nat.testBit_two_pow]
  rw [show decide (a.1 = i) = decide (i = a.1) from decide_eq_decide.mpr eq_comm, show decide (a.2 = i) = decide (i = a.2) from decide_eq_decide.mpr eq_comm]
