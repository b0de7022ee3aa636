theorem zi_amt {h : Nat} (hh : h < 32) : ((zi h &&& 31 : Int32).toBitVec.smod 32#32).toNat = h := by
  have key : ∀ h : Fin 32, ((zi (h.val : Nat) &&& 31 : Int32).toBitVec.smod 32#32).toNat = h.val := by decide +kernel
  exact key ⟨h, hh⟩
theorem zi_shr {a h : Nat} (ha : a < 2147483648) (hh : h < 32) : jshr (zi a) (zi h) = zi ((a >>> h : Nat) : Int) := by
  apply Int32.toBitVec_inj.mp
  unfold jshr
  rw [Int32.toBitVec_shiftRight, zi_toBV a ha, zi_toBV _ (Nat.lt_of_le_of_lt (Nat.shiftRight_le a h) ha)]
  show BitVec.sshiftRight _ (((zi h &&& 31 : Int32).toBitVec.smod 32#32).toNat) = _
  rw [zi_amt hh]
  have hm : (BitVec.ofNat 32 a).msb = false := by
    rw [BitVec.msb_eq_decide]
    simp only [BitVec.toNat_ofNat, decide_eq_false_iff_not]
    have : a % 2 ^ 32 = a := Nat.mod_eq_of_lt (by omega)
    omega
  rw [BitVec.sshiftRight_eq_of_msb_false hm]
  apply BitVec.eq_of_toNat_eq
  rw [BitVec.toNat_ushiftRight, BitVec.toNat_ofNat, BitVec.toNat_ofNat, Nat.mod_eq_of_lt (by omega), Nat.mod_eq_of_lt (Nat.lt_of_le_of_lt (Nat.shiftRight_le a h) (by omega))]
theorem zi_shl1 {h : Nat} (hh : h < 31) : jshl 1 (zi h) = zi ((2 ^ h : Nat) : Int) := by
  have key : ∀ h : Fin 31, jshl 1 (zi (h.val : Nat)) = zi ((2 ^ h.val : Nat) : Int) := by decide +kernel
  exact key ⟨h, hh⟩
theorem zi_bit {a h : Nat} (ha : a < 2147483648) (hh : h < 32) : jshr (zi a) (zi h) &&& 1 = zo (a.testBit h) := by
  rw [zi_shr ha hh, show (1 : Int32) = zi ((1 : Nat) : Int) from rfl, zi_and (Nat.lt_of_le_of_lt (Nat.shiftRight_le a h) ha) (by omega), zo_zi]
  have e : (a >>> h &&& 1) = if a.testBit h then 1 else 0 := by
    rw [Nat.and_one_is_mod, Nat.testBit, Nat.and_comm, Nat.and_one_is_mod]
    rcases Nat.mod_two_eq_zero_or_one (a >>> h) with q | q <;> rw [q] <;> simp
  rw [e]
  cases a.testBit h <;> rfl
theorem zif0 {α : Type} {b : Bool} {x y : α} : (if zo b = 0 then x else y) = bif b then y else x := by cases b <;> rfl
theorem zif1 {α : Type} {b : Bool} {x y : α} : (if zo b = 1 then x else y) = bif b then x else y := by cases b <;> rfl
theorem zifn0 {α : Type} {b : Bool} {x y : α} : (if ¬ zo b = 0 then x else y) = bif b then x else y := by cases b <;> rfl
theorem zsome_zo {b : Bool} : (bif b then some (1 : Int32) else some 0) = some (zo b) := by cases b <;> rfl
theorem zif0' {α : Type} {b : Bool} {x y : α} : (if zo b = zi 0 then x else y) = bif b then y else x := by cases b <;> rfl
theorem zif1' {α : Type} {b : Bool} {x y : α} : (if zo b = zi 1 then x else y) = bif b then x else y := by cases b <;> rfl
theorem zif0n {α : Type} {b : Bool} {x y : α} : (if zo b = zi ((0 : Nat) : Int) then x else y) = bif b then y else x := by cases b <;> rfl
theorem zif1n {α : Type} {b : Bool} {x y : α} : (if zo b = zi ((1 : Nat) : Int) then x else y) = bif b then x else y := by cases b <;> rfl
theorem zib {α : Type} {p : Prop} [Decidable p] {x y : α} : (if p then x else y) = bif decide p then x else y := by by_cases h : p <;> simp [h]
theorem chk_zn {β : Type} {a n : Nat} {k : Option β} (h2 : a < n) (h3 : n < 2147483648) : chk (zi a) n k = k := chk_zi (by omega) (by omega) h3
theorem zi_addn (a b : Nat) : zi a + zi b = zi ((a + b : Nat) : Int) := zi_add _ _
theorem zi_muln (a b : Nat) : zi a * zi b = zi ((a * b : Nat) : Int) := zi_mul _ _
theorem zi_subn {a b : Nat} (h : b ≤ a) : zi a - zi b = zi ((a - b : Nat) : Int) := by rw [zi_sub]; congr 1; omega
theorem zi_ltn {a b : Nat} (ha : a < 2147483648) (hb : b < 2147483648) : zi a < zi b ↔ a < b := by rw [zi_lt (by omega) (by omega) (by omega) (by omega)]; omega
theorem zi_len {a b : Nat} (ha : a < 2147483648) (hb : b < 2147483648) : zi a ≤ zi b ↔ a ≤ b := by rw [zi_le (by omega) (by omega) (by omega) (by omega)]; omega
theorem zi_eqn {a b : Nat} (ha : a < 2147483648) (hb : b < 2147483648) : zi a = zi b ↔ a = b := by rw [zi_eq (by omega) (by omega) (by omega) (by omega)]; omega
theorem zo_n0 : zi ((0 : Nat) : Int) = zo false := rfl
theorem zo_n1 : zi ((1 : Nat) : Int) = zo true := rfl
theorem zsome_zn {b : Bool} : (bif b then some (zi ((1 : Nat) : Int)) else some (zi ((0 : Nat) : Int))) = some (zo b) := by cases b <;> rfl
/-- literals -/
theorem li_m7 : (-7 : Int32) = zi (-7) := rfl
theorem li_m6 : (-6 : Int32) = zi (-6) := rfl
theorem li_m5 : (-5 : Int32) = zi (-5) := rfl
theorem li_m4 : (-4 : Int32) = zi (-4) := rfl
theorem li_m3 : (-3 : Int32) = zi (-3) := rfl
theorem li_m2 : (-2 : Int32) = zi (-2) := rfl
theorem li_m1 : (-1 : Int32) = zi (-1) := rfl
theorem li_0 : (0 : Int32) = zi 0 := rfl
theorem li_1 : (1 : Int32) = zi 1 := rfl
theorem li_2 : (2 : Int32) = zi 2 := rfl
theorem li_3 : (3 : Int32) = zi 3 := rfl
theorem li_4 : (4 : Int32) = zi 4 := rfl
theorem li_5 : (5 : Int32) = zi 5 := rfl
theorem li_6 : (6 : Int32) = zi 6 := rfl
theorem li_7 : (7 : Int32) = zi 7 := rfl
theorem li_8 : (8 : Int32) = zi 8 := rfl
theorem li_9 : (9 : Int32) = zi 9 := rfl
theorem li_10 : (10 : Int32) = zi 10 := rfl
theorem li_11 : (11 : Int32) = zi 11 := rfl
theorem li_12 : (12 : Int32) = zi 12 := rfl
theorem li_13 : (13 : Int32) = zi 13 := rfl
theorem li_14 : (14 : Int32) = zi 14 := rfl
theorem li_15 : (15 : Int32) = zi 15 := rfl
theorem li_16 : (16 : Int32) = zi 16 := rfl
theorem li_17 : (17 : Int32) = zi 17 := rfl
theorem li_18 : (18 : Int32) = zi 18 := rfl
theorem li_19 : (19 : Int32) = zi 19 := rfl
theorem li_20 : (20 : Int32) = zi 20 := rfl
theorem li_21 : (21 : Int32) = zi 21 := rfl
theorem li_22 : (22 : Int32) = zi 22 := rfl
theorem li_23 : (23 : Int32) = zi 23 := rfl
theorem li_24 : (24 : Int32) = zi 24 := rfl
theorem li_25 : (25 : Int32) = zi 25 := rfl
theorem li_30 : (30 : Int32) = zi 30 := rfl
theorem li_32 : (32 : Int32) = zi 32 := rfl
theorem li_33 : (33 : Int32) = zi 33 := rfl
theorem li_34 : (34 : Int32) = zi 34 := rfl
theorem li_36 : (36 : Int32) = zi 36 := rfl
theorem li_37 : (37 : Int32) = zi 37 := rfl
theorem li_40 : (40 : Int32) = zi 40 := rfl
theorem li_41 : (41 : Int32) = zi 41 := rfl
theorem li_45 : (45 : Int32) = zi 45 := rfl
theorem li_48 : (48 : Int32) = zi 48 := rfl
theorem li_50 : (50 : Int32) = zi 50 := rfl
theorem li_51 : (51 : Int32) = zi 51 := rfl
theorem li_57 : (57 : Int32) = zi 57 := rfl
theorem li_59 : (59 : Int32) = zi 59 := rfl
theorem li_60 : (60 : Int32) = zi 60 := rfl
theorem li_63 : (63 : Int32) = zi 63 := rfl
theorem li_64 : (64 : Int32) = zi 64 := rfl
theorem li_65 : (65 : Int32) = zi 65 := rfl
theorem li_66 : (66 : Int32) = zi 66 := rfl
theorem li_67 : (67 : Int32) = zi 67 := rfl
theorem li_68 : (68 : Int32) = zi 68 := rfl
theorem li_69 : (69 : Int32) = zi 69 := rfl
theorem li_70 : (70 : Int32) = zi 70 := rfl
theorem li_71 : (71 : Int32) = zi 71 := rfl
theorem li_72 : (72 : Int32) = zi 72 := rfl
theorem li_73 : (73 : Int32) = zi 73 := rfl
theorem li_74 : (74 : Int32) = zi 74 := rfl
theorem li_75 : (75 : Int32) = zi 75 := rfl
theorem li_76 : (76 : Int32) = zi 76 := rfl
theorem li_77 : (77 : Int32) = zi 77 := rfl
theorem li_78 : (78 : Int32) = zi 78 := rfl
theorem li_79 : (79 : Int32) = zi 79 := rfl
theorem li_80 : (80 : Int32) = zi 80 := rfl
theorem li_81 : (81 : Int32) = zi 81 := rfl
theorem li_82 : (82 : Int32) = zi 82 := rfl
theorem li_83 : (83 : Int32) = zi 83 := rfl
theorem li_84 : (84 : Int32) = zi 84 := rfl
theorem li_85 : (85 : Int32) = zi 85 := rfl
theorem li_86 : (86 : Int32) = zi 86 := rfl
theorem li_87 : (87 : Int32) = zi 87 := rfl
theorem li_88 : (88 : Int32) = zi 88 := rfl
theorem li_98 : (98 : Int32) = zi 98 := rfl
theorem li_100 : (100 : Int32) = zi 100 := rfl
theorem li_101 : (101 : Int32) = zi 101 := rfl
theorem li_103 : (103 : Int32) = zi 103 := rfl
theorem li_104 : (104 : Int32) = zi 104 := rfl
theorem li_109 : (109 : Int32) = zi 109 := rfl
theorem li_115 : (115 : Int32) = zi 115 := rfl
theorem li_127 : (127 : Int32) = zi 127 := rfl
theorem li_160 : (160 : Int32) = zi 160 := rfl
theorem li_1023 : (1023 : Int32) = zi 1023 := rfl
theorem li_1024 : (1024 : Int32) = zi 1024 := rfl
theorem li_1280 : (1280 : Int32) = zi 1280 := rfl
theorem li_8184 : (8184 : Int32) = zi 8184 := rfl
theorem li_12345 : (12345 : Int32) = zi 12345 := rfl
theorem li_1103515245 : (1103515245 : Int32) = zi 1103515245 := rfl
theorem zi_bitn {a h : Nat} (ha : a < 2147483648) (hh : h < 32) : jshr (zi a) (zi h) &&& zi ((1 : Nat) : Int) = zo (a.testBit h) := zi_bit ha hh
theorem ln_0 : (0 : Int32) = zi ((0 : Nat) : Int) := rfl
theorem ln_1 : (1 : Int32) = zi ((1 : Nat) : Int) := rfl
theorem ln_2 : (2 : Int32) = zi ((2 : Nat) : Int) := rfl
theorem ln_3 : (3 : Int32) = zi ((3 : Nat) : Int) := rfl
theorem ln_4 : (4 : Int32) = zi ((4 : Nat) : Int) := rfl
theorem ln_5 : (5 : Int32) = zi ((5 : Nat) : Int) := rfl
theorem ln_6 : (6 : Int32) = zi ((6 : Nat) : Int) := rfl
theorem ln_7 : (7 : Int32) = zi ((7 : Nat) : Int) := rfl
theorem ln_8 : (8 : Int32) = zi ((8 : Nat) : Int) := rfl
theorem ln_9 : (9 : Int32) = zi ((9 : Nat) : Int) := rfl
theorem ln_10 : (10 : Int32) = zi ((10 : Nat) : Int) := rfl
theorem ln_11 : (11 : Int32) = zi ((11 : Nat) : Int) := rfl
theorem ln_12 : (12 : Int32) = zi ((12 : Nat) : Int) := rfl
theorem ln_13 : (13 : Int32) = zi ((13 : Nat) : Int) := rfl
theorem ln_14 : (14 : Int32) = zi ((14 : Nat) : Int) := rfl
theorem ln_15 : (15 : Int32) = zi ((15 : Nat) : Int) := rfl
theorem ln_16 : (16 : Int32) = zi ((16 : Nat) : Int) := rfl
theorem ln_17 : (17 : Int32) = zi ((17 : Nat) : Int) := rfl
theorem ln_18 : (18 : Int32) = zi ((18 : Nat) : Int) := rfl
theorem ln_19 : (19 : Int32) = zi ((19 : Nat) : Int) := rfl
theorem ln_20 : (20 : Int32) = zi ((20 : Nat) : Int) := rfl
theorem ln_21 : (21 : Int32) = zi ((21 : Nat) : Int) := rfl
theorem ln_22 : (22 : Int32) = zi ((22 : Nat) : Int) := rfl
theorem ln_23 : (23 : Int32) = zi ((23 : Nat) : Int) := rfl
theorem ln_24 : (24 : Int32) = zi ((24 : Nat) : Int) := rfl
theorem ln_25 : (25 : Int32) = zi ((25 : Nat) : Int) := rfl
theorem ln_30 : (30 : Int32) = zi ((30 : Nat) : Int) := rfl
theorem ln_32 : (32 : Int32) = zi ((32 : Nat) : Int) := rfl
theorem ln_33 : (33 : Int32) = zi ((33 : Nat) : Int) := rfl
theorem ln_34 : (34 : Int32) = zi ((34 : Nat) : Int) := rfl
theorem ln_36 : (36 : Int32) = zi ((36 : Nat) : Int) := rfl
theorem ln_37 : (37 : Int32) = zi ((37 : Nat) : Int) := rfl
theorem ln_40 : (40 : Int32) = zi ((40 : Nat) : Int) := rfl
theorem ln_41 : (41 : Int32) = zi ((41 : Nat) : Int) := rfl
theorem ln_45 : (45 : Int32) = zi ((45 : Nat) : Int) := rfl
theorem ln_48 : (48 : Int32) = zi ((48 : Nat) : Int) := rfl
theorem ln_50 : (50 : Int32) = zi ((50 : Nat) : Int) := rfl
theorem ln_51 : (51 : Int32) = zi ((51 : Nat) : Int) := rfl
theorem ln_57 : (57 : Int32) = zi ((57 : Nat) : Int) := rfl
theorem ln_59 : (59 : Int32) = zi ((59 : Nat) : Int) := rfl
theorem ln_60 : (60 : Int32) = zi ((60 : Nat) : Int) := rfl
theorem ln_63 : (63 : Int32) = zi ((63 : Nat) : Int) := rfl
theorem ln_64 : (64 : Int32) = zi ((64 : Nat) : Int) := rfl
theorem ln_65 : (65 : Int32) = zi ((65 : Nat) : Int) := rfl
theorem ln_66 : (66 : Int32) = zi ((66 : Nat) : Int) := rfl
theorem ln_67 : (67 : Int32) = zi ((67 : Nat) : Int) := rfl
theorem ln_68 : (68 : Int32) = zi ((68 : Nat) : Int) := rfl
theorem ln_69 : (69 : Int32) = zi ((69 : Nat) : Int) := rfl
theorem ln_70 : (70 : Int32) = zi ((70 : Nat) : Int) := rfl
theorem ln_71 : (71 : Int32) = zi ((71 : Nat) : Int) := rfl
theorem ln_72 : (72 : Int32) = zi ((72 : Nat) : Int) := rfl
theorem ln_73 : (73 : Int32) = zi ((73 : Nat) : Int) := rfl
theorem ln_74 : (74 : Int32) = zi ((74 : Nat) : Int) := rfl
theorem ln_75 : (75 : Int32) = zi ((75 : Nat) : Int) := rfl
theorem ln_76 : (76 : Int32) = zi ((76 : Nat) : Int) := rfl
theorem ln_77 : (77 : Int32) = zi ((77 : Nat) : Int) := rfl
theorem ln_78 : (78 : Int32) = zi ((78 : Nat) : Int) := rfl
theorem ln_79 : (79 : Int32) = zi ((79 : Nat) : Int) := rfl
theorem ln_80 : (80 : Int32) = zi ((80 : Nat) : Int) := rfl
theorem ln_81 : (81 : Int32) = zi ((81 : Nat) : Int) := rfl
theorem ln_82 : (82 : Int32) = zi ((82 : Nat) : Int) := rfl
theorem ln_83 : (83 : Int32) = zi ((83 : Nat) : Int) := rfl
theorem ln_84 : (84 : Int32) = zi ((84 : Nat) : Int) := rfl
theorem ln_85 : (85 : Int32) = zi ((85 : Nat) : Int) := rfl
theorem ln_86 : (86 : Int32) = zi ((86 : Nat) : Int) := rfl
theorem ln_87 : (87 : Int32) = zi ((87 : Nat) : Int) := rfl
theorem ln_88 : (88 : Int32) = zi ((88 : Nat) : Int) := rfl
theorem ln_98 : (98 : Int32) = zi ((98 : Nat) : Int) := rfl
theorem ln_100 : (100 : Int32) = zi ((100 : Nat) : Int) := rfl
theorem ln_101 : (101 : Int32) = zi ((101 : Nat) : Int) := rfl
theorem ln_103 : (103 : Int32) = zi ((103 : Nat) : Int) := rfl
theorem ln_104 : (104 : Int32) = zi ((104 : Nat) : Int) := rfl
theorem ln_109 : (109 : Int32) = zi ((109 : Nat) : Int) := rfl
theorem ln_115 : (115 : Int32) = zi ((115 : Nat) : Int) := rfl
theorem ln_127 : (127 : Int32) = zi ((127 : Nat) : Int) := rfl
theorem ln_160 : (160 : Int32) = zi ((160 : Nat) : Int) := rfl
theorem ln_1023 : (1023 : Int32) = zi ((1023 : Nat) : Int) := rfl
theorem ln_1024 : (1024 : Int32) = zi ((1024 : Nat) : Int) := rfl
theorem ln_1280 : (1280 : Int32) = zi ((1280 : Nat) : Int) := rfl
theorem ln_8184 : (8184 : Int32) = zi ((8184 : Nat) : Int) := rfl
theorem ln_12345 : (12345 : Int32) = zi ((12345 : Nat) : Int) := rfl
theorem ln_1103515245 : (1103515245 : Int32) = zi ((1103515245 : Nat) : Int) := rfl
/-! Int64 -/
def zw (a : Nat) : Int64 := Int64.ofNat a
theorem zw_toBV (n : Nat) : (zw n).toBitVec = BitVec.ofNat 64 n := rfl
theorem zw_and {a b : Nat} (ha : a < 2 ^ 63) (hb : b < 2 ^ 63) : zw a &&& zw b = zw (a &&& b) := by
  apply Int64.toBitVec_inj.mp
  rw [Int64.toBitVec_and, zw_toBV, zw_toBV, zw_toBV, BitVec.ofNat_and]
theorem zw_or {a b : Nat} (ha : a < 2 ^ 63) (hb : b < 2 ^ 63) : zw a ||| zw b = zw (a ||| b) := by
  apply Int64.toBitVec_inj.mp
  rw [Int64.toBitVec_or, zw_toBV, zw_toBV, zw_toBV, BitVec.ofNat_or]
theorem zw_xor {a b : Nat} (ha : a < 2 ^ 63) (hb : b < 2 ^ 63) : zw a ^^^ zw b = zw (a ^^^ b) := by
  apply Int64.toBitVec_inj.mp
  rw [Int64.toBitVec_xor, zw_toBV, zw_toBV, zw_toBV, BitVec.ofNat_xor]
theorem zw_inj {a b : Nat} (ha : a < 2 ^ 64) (hb : b < 2 ^ 64) : zw a = zw b ↔ a = b := by
  refine ⟨fun h => ?_, fun h => by rw [h]⟩
  have h1 := congrArg (fun x => x.toBitVec.toNat) h
  simp only [zw_toBV, BitVec.toNat_ofNat] at h1
  rwa [Nat.mod_eq_of_lt (by omega), Nat.mod_eq_of_lt (by omega)] at h1
theorem zw_amt {h : Nat} (hh : h < 64) : (((zi h).toInt64 &&& 63 : Int64).toBitVec.smod 64#64).toNat = h := by
  have key : ∀ h : Fin 64, (((zi (h.val : Nat)).toInt64 &&& 63 : Int64).toBitVec.smod 64#64).toNat = h.val := by decide +kernel
  exact key ⟨h, hh⟩
theorem zw_shr {a h : Nat} (ha : a < 2 ^ 63) (hh : h < 64) : jlshr (zw a) (zi h) = zw (a >>> h) := by
  apply Int64.toBitVec_inj.mp
  unfold jlshr
  rw [Int64.toBitVec_shiftRight, zw_toBV, zw_toBV]
  show BitVec.sshiftRight _ ((((zi h).toInt64 &&& 63 : Int64).toBitVec.smod 64#64).toNat) = _
  rw [zw_amt hh]
  have hm : (BitVec.ofNat 64 a).msb = false := by
    rw [BitVec.msb_eq_decide]
    simp only [BitVec.toNat_ofNat, decide_eq_false_iff_not]
    have : a % 2 ^ 64 = a := Nat.mod_eq_of_lt (by omega)
    omega
  rw [BitVec.sshiftRight_eq_of_msb_false hm]
  apply BitVec.eq_of_toNat_eq
  rw [BitVec.toNat_ushiftRight, BitVec.toNat_ofNat, BitVec.toNat_ofNat, Nat.mod_eq_of_lt (by omega), Nat.mod_eq_of_lt (Nat.lt_of_le_of_lt (Nat.shiftRight_le a h) (by omega))]
theorem zw_shl1 {h : Nat} (hh : h < 63) : jlshl 1 (zi h) = zw (2 ^ h) := by
  have key : ∀ h : Fin 63, jlshl 1 (zi (h.val : Nat)) = zw (2 ^ h.val) := by decide +kernel
  exact key ⟨h, hh⟩
theorem lg_cmp_0 {x : Int64} : lg_cmp x 0 = 0 ↔ x = 0 := by
  unfold lg_cmp
  split
  · rename_i h
    refine ⟨fun q => absurd q (by decide), fun q => ?_⟩
    subst q
    exact absurd h (by decide)
  · rename_i h
    split
    · rename_i h2
      exact ⟨fun _ => h2, fun _ => rfl⟩
    · rename_i h2
      exact ⟨fun q => absurd q (by decide), fun q => absurd q h2⟩
