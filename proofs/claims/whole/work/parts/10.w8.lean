/-! Long.bitCount, by bytes -/
theorem zw_add (a b : Nat) : zw a + zw b = zw (a + b) := by
  apply Int64.toBitVec_inj.mp
  rw [Int64.toBitVec_add, zw_toBV, zw_toBV, zw_toBV, BitVec.ofNat_add]
theorem zw_sub {a b : Nat} (h : b ≤ a) (ha : a < 2 ^ 63) : zw a - zw b = zw (a - b) := by
  apply Int64.toBitVec_inj.mp
  rw [Int64.toBitVec_sub, zw_toBV, zw_toBV, zw_toBV]
  apply BitVec.eq_of_toNat_eq
  rw [BitVec.toNat_sub, BitVec.toNat_ofNat, BitVec.toNat_ofNat, BitVec.toNat_ofNat]
  omega
theorem zw_ushr {a k : Nat} (ha : a < 2 ^ 63) {y : Int32} (hk : ((y.toInt64.toUInt64 &&& Int64.toUInt64 63).toBitVec % 64).toNat = k) : jlushr (zw a) y = zw (a >>> k) := by
  apply Int64.toBitVec_inj.mp
  unfold jlushr
  rw [zw_toBV]
  show (((zw a).toUInt64 >>> (y.toInt64.toUInt64 &&& Int64.toUInt64 63)).toBitVec) = _
  rw [UInt64.toBitVec_shiftRight]
  apply BitVec.eq_of_toNat_eq
  show ((zw a).toBitVec >>> ((y.toInt64.toUInt64 &&& Int64.toUInt64 63).toBitVec % 64).toNat).toNat = _
  rw [hk, BitVec.toNat_ushiftRight, zw_toBV, BitVec.toNat_ofNat, BitVec.toNat_ofNat, Nat.mod_eq_of_lt (show a < 2 ^ 64 by omega), Nat.mod_eq_of_lt (Nat.lt_of_le_of_lt (Nat.shiftRight_le a k) (by omega))]
theorem and_chunk {a m b M : Nat} (ha : a < 256) (hm : m < 256) : (256 * b + a) &&& (256 * M + m) = 256 * (b &&& M) + (a &&& m) := by
  have ham : a &&& m < 2 ^ 8 := Nat.lt_of_le_of_lt Nat.and_le_left ha
  apply Nat.eq_of_testBit_eq
  intro i
  rw [Nat.testBit_and, show (256 : Nat) = 2 ^ 8 from rfl, Nat.testBit_two_pow_mul_add _ ha, Nat.testBit_two_pow_mul_add _ hm, Nat.testBit_two_pow_mul_add _ ham]
  split <;> rw [Nat.testBit_and]
def mk6 (a b c d e f : Nat) : Nat := 256 * (256 * (256 * (256 * (256 * (256 * 0 + f) + e) + d) + c) + b) + a
theorem and6 {a b c d e f m M : Nat} (ha : a < 256) (hb : b < 256) (hc : c < 256) (hd : d < 256) (he : e < 256) (hf : f < 256) (hm : m < 256) : mk6 a b c d e f &&& (256 * (256 * (256 * (256 * (256 * (256 * M + m) + m) + m) + m) + m) + m) = mk6 (a &&& m) (b &&& m) (c &&& m) (d &&& m) (e &&& m) (f &&& m) := by
  unfold mk6
  rw [and_chunk ha hm, and_chunk hb hm, and_chunk hc hm, and_chunk hd hm, and_chunk he hm, and_chunk hf hm, Nat.zero_and]
def e1 (a : Nat) : Nat := a - ((a / 2) &&& 85)
def e2 (d : Nat) : Nat := (d &&& 51) + ((d / 4) &&& 51)
def pc8 (a : Nat) : Nat := bcnt a.testBit 8
theorem st1 : ∀ a, a < 256 → ∀ e, e < 2 → ((a / 2 + 128 * e) &&& 85) = (a / 2) &&& 85 ∧ (a / 2) &&& 85 ≤ a := by decide +kernel
theorem st2 : ∀ a, a < 256 → ∀ e, e < 4 → ((a / 4 + 64 * e) &&& 51) = (a / 4) &&& 51 := by decide +kernel
theorem st3 : ∀ a, a < 256 → ∀ e, e < 16 → ((e2 (e1 a) + e2 (e1 a) / 16 + 16 * e) &&& 15) = pc8 a := by decide +kernel
theorem st4 : ∀ a, a < 256 → e1 a < 256 ∧ e2 (e1 a) ≤ 68 ∧ e2 (e1 a) % 16 ≤ 4 ∧ pc8 a ≤ 8 := by decide +kernel
theorem low7 (n : Nat) : Int64.toInt32 (zw n) &&& 127 = zi (n % 128 : Nat) := by
  apply Int32.toBitVec_inj.mp
  rw [Int32.toBitVec_and, zi_toBV _ (by omega)]
  apply BitVec.eq_of_toNat_eq
  rw [BitVec.toNat_and, BitVec.toNat_ofNat]
  have e : (zw n).toInt32.toBitVec = (zw n).toBitVec.setWidth 32 := by
    rw [Int64.toBitVec_toInt32]
    exact BitVec.signExtend_eq_setWidth_of_le _ (by decide)
  rw [e, show (Int32.toBitVec 127).toNat = 127 from rfl, zw_toBV, BitVec.toNat_setWidth, BitVec.toNat_ofNat, show (127 : Nat) = 2 ^ 7 - 1 from rfl, Nat.and_two_pow_sub_one_eq_mod]
  omega
theorem bcnt_split (n : Nat) : ∀ k, bcnt n.testBit (8 + k) = pc8 (n % 256) + bcnt (n / 256).testBit k
  | 0 => by
    refine Eq.trans ?_ (Nat.add_zero _).symm
    exact bcnt_congr 8 (fun i hi => by rw [show (256 : Nat) = 2 ^ 8 from rfl, Nat.testBit_mod_two_pow, decide_eq_true hi, Bool.true_and])
  | k + 1 => by
    rw [← Nat.add_assoc, bcnt_succ, bcnt_split n k, bcnt_succ, show n / 256 = n >>> 8 from (Nat.shiftRight_eq_div_pow n 8).symm, Nat.testBit_shiftRight]
    omega
theorem lbc6 {a b c d e f : Nat} (ha : a < 256) (hb : b < 256) (hc : c < 256) (hd : d < 256) (he : e < 256) (hf : f < 32) : s_J13_bitCount_95d88 (zw (mk6 a b c d e f)) = some (zi (pc8 a + pc8 b + pc8 c + pc8 d + pc8 e + pc8 f : Nat)) := by
  have hf' : f < 256 := by omega
  unfold s_J13_bitCount_95d88
  have hx : mk6 a b c d e f < 2 ^ 63 := by unfold mk6; omega
  have v1 : mk6 a b c d e f / 2 = mk6 (a / 2 + 128 * (b % 2)) (b / 2 + 128 * (c % 2)) (c / 2 + 128 * (d % 2)) (d / 2 + 128 * (e % 2)) (e / 2 + 128 * (f % 2)) (f / 2 + 128 * 0) := by unfold mk6; omega
  have w1 : (mk6 a b c d e f >>> 1) &&& 6148914691236517205 = mk6 ((a / 2) &&& 85) ((b / 2) &&& 85) ((c / 2) &&& 85) ((d / 2) &&& 85) ((e / 2) &&& 85) ((f / 2) &&& 85) := by
    rw [Nat.shiftRight_eq_div_pow, show 2 ^ 1 = 2 from rfl, v1, show (6148914691236517205 : Nat) = 256 * (256 * (256 * (256 * (256 * (256 * 21845 + 85) + 85) + 85) + 85) + 85) + 85 from rfl, and6 (by omega) (by omega) (by omega) (by omega) (by omega) (by omega) (by omega), (st1 a ha _ (Nat.mod_lt _ (by omega))).1, (st1 b hb _ (Nat.mod_lt _ (by omega))).1, (st1 c hc _ (Nat.mod_lt _ (by omega))).1, (st1 d hd _ (Nat.mod_lt _ (by omega))).1, (st1 e he _ (Nat.mod_lt _ (by omega))).1, (st1 f hf' 0 (by omega)).1]
  have la := (st1 a ha 0 (by omega)).2
  have lb := (st1 b hb 0 (by omega)).2
  have lc := (st1 c hc 0 (by omega)).2
  have ld := (st1 d hd 0 (by omega)).2
  have le := (st1 e he 0 (by omega)).2
  have lf := (st1 f hf' 0 (by omega)).2
  have x1 : mk6 a b c d e f - mk6 ((a / 2) &&& 85) ((b / 2) &&& 85) ((c / 2) &&& 85) ((d / 2) &&& 85) ((e / 2) &&& 85) ((f / 2) &&& 85) = mk6 (e1 a) (e1 b) (e1 c) (e1 d) (e1 e) (e1 f) := by
    unfold mk6 e1
    generalize (a / 2) &&& 85 = A at *
    generalize (b / 2) &&& 85 = B at *
    generalize (c / 2) &&& 85 = C at *
    generalize (d / 2) &&& 85 = D at *
    generalize (e / 2) &&& 85 = E at *
    generalize (f / 2) &&& 85 = F at *
    omega
  have y1 : mk6 ((a / 2) &&& 85) ((b / 2) &&& 85) ((c / 2) &&& 85) ((d / 2) &&& 85) ((e / 2) &&& 85) ((f / 2) &&& 85) ≤ mk6 a b c d e f := by
    unfold mk6
    omega
  obtain ⟨a1, a2, a3, a4⟩ := st4 a ha
  obtain ⟨b1, b2, b3, b4⟩ := st4 b hb
  obtain ⟨c1, c2, c3, c4⟩ := st4 c hc
  obtain ⟨d1, d2, d3, d4⟩ := st4 d hd
  obtain ⟨e1', e2', e3, e4⟩ := st4 e he
  obtain ⟨f1, f2, f3, f4⟩ := st4 f hf'
  rw [zw_ushr (k := 1) hx (by decide), show (6148914691236517205 : Int64) = zw 6148914691236517205 from rfl, zw_and (Nat.lt_of_le_of_lt (Nat.shiftRight_le _ _) hx) (by decide), w1, zw_sub y1 hx, x1, zlet_eq]
  have hx1 : mk6 (e1 a) (e1 b) (e1 c) (e1 d) (e1 e) (e1 f) < 2 ^ 63 := by unfold mk6; omega
  have v2 : ∀ A B C D E F : Nat, A < 256 → B < 256 → C < 256 → D < 256 → E < 256 → F < 256 → mk6 A B C D E F / 4 = mk6 (A / 4 + 64 * (B % 4)) (B / 4 + 64 * (C % 4)) (C / 4 + 64 * (D % 4)) (D / 4 + 64 * (E % 4)) (E / 4 + 64 * (F % 4)) (F / 4 + 64 * 0) := by intro A B C D E F _ _ _ _ _ _; unfold mk6; omega
  have w2 : (mk6 (e1 a) (e1 b) (e1 c) (e1 d) (e1 e) (e1 f) >>> 2) &&& 3689348814741910323 = mk6 ((e1 a / 4) &&& 51) ((e1 b / 4) &&& 51) ((e1 c / 4) &&& 51) ((e1 d / 4) &&& 51) ((e1 e / 4) &&& 51) ((e1 f / 4) &&& 51) := by
    rw [Nat.shiftRight_eq_div_pow, show 2 ^ 2 = 4 from rfl, v2 _ _ _ _ _ _ a1 b1 c1 d1 e1' f1, show (3689348814741910323 : Nat) = 256 * (256 * (256 * (256 * (256 * (256 * 13107 + 51) + 51) + 51) + 51) + 51) + 51 from rfl, and6 (by omega) (by omega) (by omega) (by omega) (by omega) (by omega) (by omega), st2 _ a1 _ (Nat.mod_lt _ (by omega)), st2 _ b1 _ (Nat.mod_lt _ (by omega)), st2 _ c1 _ (Nat.mod_lt _ (by omega)), st2 _ d1 _ (Nat.mod_lt _ (by omega)), st2 _ e1' _ (Nat.mod_lt _ (by omega)), st2 _ f1 0 (by omega)]
  have w3 : mk6 (e1 a) (e1 b) (e1 c) (e1 d) (e1 e) (e1 f) &&& 3689348814741910323 = mk6 (e1 a &&& 51) (e1 b &&& 51) (e1 c &&& 51) (e1 d &&& 51) (e1 e &&& 51) (e1 f &&& 51) := by
    rw [show (3689348814741910323 : Nat) = 256 * (256 * (256 * (256 * (256 * (256 * 13107 + 51) + 51) + 51) + 51) + 51) + 51 from rfl, and6 a1 b1 c1 d1 e1' f1 (by omega)]
  have x2 : mk6 (e1 a &&& 51) (e1 b &&& 51) (e1 c &&& 51) (e1 d &&& 51) (e1 e &&& 51) (e1 f &&& 51) + mk6 ((e1 a / 4) &&& 51) ((e1 b / 4) &&& 51) ((e1 c / 4) &&& 51) ((e1 d / 4) &&& 51) ((e1 e / 4) &&& 51) ((e1 f / 4) &&& 51) = mk6 (e2 (e1 a)) (e2 (e1 b)) (e2 (e1 c)) (e2 (e1 d)) (e2 (e1 e)) (e2 (e1 f)) := by
    unfold mk6 e2
    omega
  rw [zw_ushr (k := 2) hx1 (by decide), show (3689348814741910323 : Int64) = zw 3689348814741910323 from rfl, zw_and (Nat.lt_of_le_of_lt (Nat.shiftRight_le _ _) hx1) (by decide), zw_and hx1 (by decide), w2, w3, zw_add, x2, zlet_eq]
  have s3a := st3 a ha
  have s3b := st3 b hb
  have s3c := st3 c hc
  have s3d := st3 d hd
  have s3e := st3 e he
  have s3f := st3 f hf'
  generalize e2 (e1 a) = A at *
  generalize e2 (e1 b) = B at *
  generalize e2 (e1 c) = C at *
  generalize e2 (e1 d) = D at *
  generalize e2 (e1 e) = E at *
  generalize e2 (e1 f) = F at *
  clear la lb lc ld le lf x1 y1 w1 w2 w3 x2 v1
  have hx2 : mk6 A B C D E F < 2 ^ 56 := by unfold mk6; omega
  have v3 : mk6 A B C D E F + mk6 A B C D E F / 16 = mk6 (A + A / 16 + 16 * (B % 16)) (B + B / 16 + 16 * (C % 16)) (C + C / 16 + 16 * (D % 16)) (D + D / 16 + 16 * (E % 16)) (E + E / 16 + 16 * (F % 16)) (F + F / 16 + 16 * 0) := by unfold mk6; omega
  have w4 : (mk6 A B C D E F + mk6 A B C D E F >>> 4) &&& 1085102592571150095 = mk6 (pc8 a) (pc8 b) (pc8 c) (pc8 d) (pc8 e) (pc8 f) := by
    rw [Nat.shiftRight_eq_div_pow, show 2 ^ 4 = 16 from rfl, v3, show (1085102592571150095 : Nat) = 256 * (256 * (256 * (256 * (256 * (256 * 3855 + 15) + 15) + 15) + 15) + 15) + 15 from rfl, and6 (by omega) (by omega) (by omega) (by omega) (by omega) (by omega) (by omega), s3a _ (Nat.mod_lt _ (by omega)), s3b _ (Nat.mod_lt _ (by omega)), s3c _ (Nat.mod_lt _ (by omega)), s3d _ (Nat.mod_lt _ (by omega)), s3e _ (Nat.mod_lt _ (by omega)), s3f 0 (by omega)]
  rw [zw_ushr (k := 4) (by omega) (by decide), zw_add, show (1085102592571150095 : Int64) = zw 1085102592571150095 from rfl, zw_and (by rw [Nat.shiftRight_eq_div_pow]; omega) (by decide), w4, zlet_eq]
  generalize pc8 a = p at *
  generalize pc8 b = q at *
  generalize pc8 c = s at *
  generalize pc8 d = t at *
  generalize pc8 e = u at *
  generalize pc8 f = w at *
  clear s3a s3b s3c s3d s3e s3f w4 v3
  have z1 : mk6 p q s t u w + mk6 p q s t u w >>> 8 = mk6 (p + q) (q + s) (s + t) (t + u) (u + w) w := by
    rw [Nat.shiftRight_eq_div_pow]; unfold mk6; omega
  have z2 : mk6 (p + q) (q + s) (s + t) (t + u) (u + w) w + mk6 (p + q) (q + s) (s + t) (t + u) (u + w) w >>> 16 = mk6 (p + q + (s + t)) (q + s + (t + u)) (s + t + (u + w)) (t + u + w) (u + w) w := by
    rw [Nat.shiftRight_eq_div_pow]; unfold mk6; omega
  have z3 : (mk6 (p + q + (s + t)) (q + s + (t + u)) (s + t + (u + w)) (t + u + w) (u + w) w + mk6 (p + q + (s + t)) (q + s + (t + u)) (s + t + (u + w)) (t + u + w) (u + w) w >>> 32) % 128 = p + q + s + t + u + w := by
    have z4 : mk6 (p + q + (s + t)) (q + s + (t + u)) (s + t + (u + w)) (t + u + w) (u + w) w / 4294967296 = 256 * w + (u + w) := by clear z1 z2; unfold mk6; omega
    rw [Nat.shiftRight_eq_div_pow, show 2 ^ 32 = 4294967296 from rfl, z4]
    clear z1 z2 z4
    unfold mk6
    omega
  have hz0 : mk6 p q s t u w < 2 ^ 63 := by unfold mk6; omega
  have hz1 : mk6 (p + q) (q + s) (s + t) (t + u) (u + w) w < 2 ^ 63 := by unfold mk6; omega
  have hz2 : mk6 (p + q + (s + t)) (q + s + (t + u)) (s + t + (u + w)) (t + u + w) (u + w) w < 2 ^ 63 := by unfold mk6; omega
  rw [zw_ushr (k := 8) hz0 (by decide), zw_add, z1, zlet_eq, zw_ushr (k := 16) hz1 (by decide), zw_add, z2, zlet_eq, zw_ushr (k := 32) hz2 (by decide), zw_add, zlet_eq, low7, z3]
theorem lbc {n : Nat} (hn : n < 2 ^ 45) : s_J13_bitCount_95d88 (zw n) = some (zi (bcnt n.testBit 45 : Nat)) := by
  have e : n = mk6 (n % 256) (n / 256 % 256) (n / 65536 % 256) (n / 16777216 % 256) (n / 4294967296 % 256) (n / 1099511627776) := by unfold mk6; omega
  have h := lbc6 (a := n % 256) (b := n / 256 % 256) (c := n / 65536 % 256) (d := n / 16777216 % 256) (e := n / 4294967296 % 256) (f := n / 1099511627776) (by omega) (by omega) (by omega) (by omega) (by omega) (by omega)
  rw [← e] at h
  rw [h]
  refine congrArg (fun q : Nat => some (zi q)) ?_
  have s1 := bcnt_split n 37
  have s2 := bcnt_split (n / 256) 29
  have s3 := bcnt_split (n / 256 / 256) 21
  have s4 := bcnt_split (n / 256 / 256 / 256) 13
  have s5 := bcnt_split (n / 256 / 256 / 256 / 256) 5
  have g1 : n / 256 / 256 = n / 65536 := by omega
  have g2 : n / 65536 / 256 = n / 16777216 := by omega
  have g3 : n / 16777216 / 256 = n / 4294967296 := by omega
  have g4 : n / 4294967296 / 256 = n / 1099511627776 := by omega
  rw [g1] at s2 s3 s4 s5
  rw [g2] at s3 s4 s5
  rw [g3] at s4 s5
  rw [g4] at s5
  have hf : n / 1099511627776 < 32 := by omega
  have last : ∀ f, f < 32 → pc8 f = bcnt (Nat.testBit f) 5 := by decide
  have hl := last _ hf
  simp only [Nat.reduceAdd] at s1 s2 s3 s4 s5
  omega
