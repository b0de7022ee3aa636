/-! THE PURE MACHINE: storage classes (a class's objects, or one array field of it), memory as functions, micro steps as weakest preconditions -/
abbrev zMem : Type := (Nat → Nat → Nat → Int32) × (Nat → Nat → Nat → Int64)
abbrev zWM : Type := zMem × zMem
abbrev zPV : Type := Int32 ⊕ Int64 ⊕ (Nat × Nat)
abbrev zSt : Type := List (Option zPV) × List zPV × zWM
abbrev zOp : Type := Instr × Nat × zPV
abbrev pI (x : Int32) : zPV := .inl x
abbrev pL (x : Int64) : zPV := .inr (.inl x)
abbrev pR (c j : Nat) : zPV := .inr (.inr (c, j))
def zs {α : Type} (f : Nat → Nat → α) (c j : Nat) (g : α) : Nat → Nat → α := fun c' => if c' = c then (fun j' => if j' = j then g else f c j') else f c'
def zp {α : Type} (f : Nat → α) (k : Nat) (x : α) : Nat → α := fun j => if j = k then x else f j
/-- one int, one long, a whole row of a memory -/
def wI (m : zMem) (c j k : Nat) (x : Int32) : zMem := (zs m.1 c j (zp (m.1 c j) k x), m.2)
def wL (m : zMem) (c j k : Nat) (x : Int64) : zMem := (m.1, zs m.2 c j (zp (m.2 c j) k x))
def wIs (m : zMem) (c j : Nat) (g : Nat → Int32) : zMem := (zs m.1 c j g, m.2)
def wLs (m : zMem) (c j : Nat) (g : Nat → Int64) : zMem := (m.1, zs m.2 c j g)
def rdI (M : zWM) (c j : Nat) : Nat → Int32 := bif Nat.ble 64 c then M.2.1 c j else M.1.1 c j
def rdL (M : zWM) (c j : Nat) : Nat → Int64 := bif Nat.ble 64 c then M.2.2 c j else M.1.2 c j
def wrI (M : zWM) (c j : Nat) (g : Nat → Int32) : zWM := bif Nat.ble 64 c then (M.1, wIs M.2 c j g) else (wIs M.1 c j g, M.2)
def wrL (M : zWM) (c j : Nat) (g : Nat → Int64) : zWM := bif Nat.ble 64 c then (M.1, wLs M.2 c j g) else (wLs M.1 c j g, M.2)
/-- an index, and whether it is in -/
abbrev ix (i : Int32) : Nat := i.toNatClampNeg
def inb (i : Int32) (n : Nat) : Bool := Nat.blt i.toNatClampNeg n && decide (¬ i < 0)
def jushr (x y : Int32) : Int32 := (x.toUInt32 >>> (y.toUInt32 &&& Int32.toUInt32 31)).toInt32
def jshl (x y : Int32) : Int32 := x <<< (y &&& 31)
def jshr (x y : Int32) : Int32 := x >>> (y &&& 31)
def jlushr (x : Int64) (y : Int32) : Int64 := (x.toUInt64 >>> (y.toInt64.toUInt64 &&& Int64.toUInt64 63)).toInt64
def jlshl (x : Int64) (y : Int32) : Int64 := x <<< (y.toInt64 &&& 63)
def jlshr (x : Int64) (y : Int32) : Int64 := x >>> (y.toInt64 &&& 63)
def jrem (x y : Int32) : Int32 := x - x / y * y
def jmax (x y : Int32) : Int32 := if x < y then y else x
def jmin (x y : Int32) : Int32 := if y < x then y else x
def jb (x : Int32) : Int32 := x.toInt8.toInt32
def js (x : Int32) : Int32 := x.toInt16.toInt32
def zkd (c : Nat) : Nat := bif Nat.ble 64 c then [0, 1, 1, 1, 1, 1, 1, 1, 1, 1, 1, 2, 2, 1, 1, 1, 1, 1, 1, 1, 1, 1, 1, 1, 1].getD (c - 64) 9 else [0, 0, 1, 1, 1, 1, 1, 3, 0, 2, 0, 1, 1, 1, 2, 2, 2, 1, 0, 0, 0, 1, 1].getD c 9
def zcnt (c : Nat) : Nat := bif Nat.ble 64 c then [1, 1, 1, 1, 1, 1, 1, 1, 1, 1, 1, 1, 1, 1, 1, 1, 1, 1, 1, 1, 1, 1, 1, 1, 1].getD (c - 64) 0 else [1, 3, 3, 3, 3, 3, 3, 1, 8, 8, 1, 1, 1, 1, 1, 1, 1, 1, 1, 1, 1, 1, 1].getD c 0
def zlen (c : Nat) : Nat := bif Nat.ble 64 c then [42, 8, 10, 10, 10, 10, 10, 8, 8, 8, 8, 1280, 160, 36, 3, 60, 60, 45, 45, 5, 5, 10, 1024, 45, 20].getD (c - 64) 0 else [11, 11, 10, 10, 10, 10, 10, 8, 3, 160, 10, 45, 45, 45, 45, 45, 45, 1024, 2, 1, 5, 20, 8].getD c 0
def zci (c : Nat) : Nat := bif Nat.ble 64 c then [7, 0, 0, 0, 0, 0, 0, 0, 0, 0, 0, 0, 0, 0, 0, 0, 0, 0, 0, 0, 0, 0, 0, 0, 0].getD (c - 64) 0 else [6, 5, 0, 0, 0, 0, 0, 0, 4, 0, 2, 0, 0, 0, 0, 0, 0, 0, 1, 3, 0, 0, 0].getD c 0
def zbase (c : Nat) : Nat := bif Nat.ble 64 c then [49, 50, 51, 52, 53, 54, 55, 56, 57, 58, 59, 60, 61, 62, 63, 64, 65, 66, 67, 68, 69, 70, 71, 72, 73].getD (c - 64) 0 else [0, 1, 4, 7, 10, 13, 16, 19, 20, 28, 36, 37, 38, 39, 40, 41, 42, 43, 44, 45, 46, 47, 48].getD c 0
def zfk (c k : Nat) : Nat := bif Nat.beq c 0 then [2, 2, 2, 0, 2, 2, 2, 2, 2, 2, 0].getD k 9 else bif Nat.beq c 1 then [2, 2, 2, 2, 2, 0, 0, 0, 0, 0, 0].getD k 9 else bif Nat.beq c 8 then [2, 0, 0].getD k 9 else bif Nat.beq c 10 then [2, 2, 2, 2, 2, 2, 2, 0, 0, 1].getD k 9 else bif Nat.beq c 18 then [1, 0].getD k 9 else bif Nat.beq c 19 then [0].getD k 9 else bif Nat.beq c 20 then [2, 0, 0, 0, 0].getD k 9 else bif Nat.beq c 64 then [0, 0, 0, 0, 0, 0, 0, 2, 2, 2, 2, 2, 2, 2, 2, 2, 2, 2, 2, 2, 2, 0, 0, 0, 0, 0, 2, 2, 2, 2, 0, 2, 2, 0, 0, 2, 2, 0, 2, 2, 0, 0].getD k 9 else 9
def zrc (c k : Nat) : Nat := bif Nat.beq c 0 then [1, 1, 1, 0, 7, 10, 18, 19, 20, 22, 0].getD k 0 else bif Nat.beq c 1 then [2, 3, 4, 5, 6, 0, 0, 0, 0, 0, 0].getD k 0 else bif Nat.beq c 8 then [9, 0, 0].getD k 0 else bif Nat.beq c 10 then [11, 12, 13, 14, 15, 16, 17, 0, 0, 0].getD k 0 else bif Nat.beq c 18 then [0, 0].getD k 0 else bif Nat.beq c 19 then [0].getD k 0 else bif Nat.beq c 20 then [21, 0, 0, 0, 0].getD k 0 else bif Nat.beq c 64 then [0, 0, 0, 0, 0, 0, 0, 65, 66, 67, 68, 69, 70, 71, 72, 73, 74, 75, 76, 77, 78, 0, 0, 0, 0, 0, 79, 80, 81, 82, 0, 83, 84, 0, 0, 85, 86, 0, 87, 88, 0, 0].getD k 0 else 0
def zrj (c k : Nat) : Nat := bif Nat.beq c 0 then [0, 1, 2, 0, 0, 0, 0, 0, 0, 99, 0].getD k 0 else bif Nat.beq c 1 then [99, 99, 99, 99, 99, 0, 0, 0, 0, 0, 0].getD k 0 else bif Nat.beq c 8 then [99, 0, 0].getD k 0 else bif Nat.beq c 10 then [99, 99, 99, 99, 99, 99, 99, 0, 0, 0].getD k 0 else bif Nat.beq c 18 then [0, 0].getD k 0 else bif Nat.beq c 19 then [0].getD k 0 else bif Nat.beq c 20 then [99, 0, 0, 0, 0].getD k 0 else bif Nat.beq c 64 then [0, 0, 0, 0, 0, 0, 0, 99, 99, 99, 99, 99, 99, 99, 99, 99, 99, 99, 99, 99, 99, 0, 0, 0, 0, 0, 99, 99, 99, 99, 0, 99, 99, 0, 0, 99, 99, 0, 99, 99, 0, 0].getD k 0 else 0
def zrt (c j k : Nat) : Nat × Nat := (zrc c k, bif Nat.beq (zrj c k) 99 then j else zrj c k)
def zbz (c k : Nat) : Bool := (Nat.beq c 0 && Nat.beq k 3) || (Nat.beq c 64 && Nat.beq k 41)
def zhs : List (Nat × Nat) := [(0, 0), (1, 0), (1, 1), (1, 2), (2, 0), (2, 1), (2, 2), (3, 0), (3, 1), (3, 2), (4, 0), (4, 1), (4, 2), (5, 0), (5, 1), (5, 2), (6, 0), (6, 1), (6, 2), (7, 0), (8, 0), (8, 1), (8, 2), (8, 3), (8, 4), (8, 5), (8, 6), (8, 7), (9, 0), (9, 1), (9, 2), (9, 3), (9, 4), (9, 5), (9, 6), (9, 7), (10, 0), (11, 0), (12, 0), (13, 0), (14, 0), (15, 0), (16, 0), (17, 0), (18, 0), (19, 0), (20, 0), (21, 0), (22, 0), (64, 0), (65, 0), (66, 0), (67, 0), (68, 0), (69, 0), (70, 0), (71, 0), (72, 0), (73, 0), (74, 0), (75, 0), (76, 0), (77, 0), (78, 0), (79, 0), (80, 0), (81, 0), (82, 0), (83, 0), (84, 0), (85, 0), (86, 0), (87, 0), (88, 0)]
def zpos (c j : Nat) : Nat := zbase c + j
def zLN : List Int32 := [1, 3, 5, 11, 17, 37, 81]
def zSL : List Nat := [5, 5, 3, 3, 4, 4]
def zSB : List (List Int32) := [[115, 101, 97, 116, 115], [103, 117, 101, 115, 116], [98, 97, 114], [104, 97, 100], [101, 121, 101, 115], [109, 111, 118, 101]]
def zN (o : Nat) : String := bif Nat.beq o 0 then RX0 else bif Nat.beq o 1 then RX1 else bif Nat.beq o 2 then RX2 else bif Nat.beq o 3 then RX3 else bif Nat.beq o 4 then RX4 else bif Nat.beq o 5 then RX5 else bif Nat.beq o 6 then RX6 else bif Nat.beq o 7 then RX7 else bif Nat.beq o 8 then RL else bif Nat.beq o 9 then RJ6 else bif Nat.beq o 10 then RJ13 else ""
def zT (c : Nat) : u_T := bif Nat.beq c 0 then TX6 else bif Nat.beq c 1 then TX5 else bif Nat.beq c 8 then TX4 else bif Nat.beq c 10 then TX2 else bif Nat.beq c 18 then TX1 else bif Nat.beq c 19 then TX3 else bif Nat.beq c 20 then TX0 else bif Nat.beq c 64 then TX7 else TX0
def zR (c : Nat) : String := bif Nat.beq c 0 then RX6 else bif Nat.beq c 1 then RX5 else bif Nat.beq c 8 then RX4 else bif Nat.beq c 10 then RX2 else bif Nat.beq c 18 then RX1 else bif Nat.beq c 19 then RX3 else bif Nat.beq c 20 then RX0 else bif Nat.beq c 64 then RX7 else RX0
/-- field links: owner, pool index, class, field, place in lw_tbl -/
def zFL : List (Nat × Nat × Nat × Nat × Nat) := [(5, 9, 1, 0, 122), (6, 151, 1, 0, 123), (5, 15, 1, 1, 124), (6, 154, 1, 1, 125), (3, 119, 1, 1, 126), (5, 18, 1, 2, 127), (6, 157, 1, 2, 128), (5, 21, 1, 3, 129), (3, 57, 1, 3, 130), (6, 163, 1, 3, 131), (5, 24, 1, 4, 132), (3, 67, 1, 4, 133), (6, 160, 1, 4, 134), (5, 27, 1, 5, 135), (3, 96, 1, 5, 136), (6, 135, 1, 5, 137), (5, 31, 1, 6, 138), (2, 45, 1, 6, 139), (3, 28, 1, 6, 140), (6, 132, 1, 6, 141), (5, 34, 1, 7, 142), (3, 116, 1, 7, 143), (6, 176, 1, 7, 144), (5, 37, 1, 8, 145), (6, 332, 1, 8, 146), (5, 40, 1, 9, 147), (6, 354, 1, 9, 148), (5, 43, 1, 10, 149), (6, 338, 1, 10, 150), (2, 9, 10, 0, 183), (6, 376, 10, 0, 184), (2, 15, 10, 1, 185), (6, 379, 10, 1, 186), (2, 18, 10, 2, 187), (2, 21, 10, 3, 188), (2, 25, 10, 4, 189), (1, 35, 10, 4, 190), (2, 28, 10, 5, 191), (6, 237, 10, 5, 192), (2, 31, 10, 6, 193), (2, 34, 10, 7, 194), (6, 214, 10, 7, 195), (2, 38, 10, 8, 196), (6, 257, 10, 8, 197), (2, 41, 10, 9, 198), (1, 9, 18, 0, 227), (6, 282, 18, 0, 228), (1, 15, 18, 1, 229), (6, 291, 18, 1, 230), (3, 9, 19, 0, 242), (6, 187, 19, 0, 243), (0, 9, 20, 0, 253), (0, 15, 20, 1, 254), (6, 357, 20, 1, 255), (0, 19, 20, 2, 256), (0, 22, 20, 3, 257), (0, 25, 20, 4, 258), (4, 9, 8, 0, 275), (6, 105, 8, 0, 276), (4, 15, 8, 1, 277), (6, 98, 8, 1, 278), (4, 19, 8, 2, 279), (3, 19, 8, 2, 280), (6, 294, 8, 2, 281), (6, 10, 0, 0, 289), (6, 16, 0, 1, 290), (6, 19, 0, 2, 291), (6, 22, 0, 3, 292), (6, 28, 0, 4, 293), (6, 35, 0, 5, 294), (6, 42, 0, 6, 295), (6, 49, 0, 7, 296), (6, 56, 0, 8, 297), (6, 60, 0, 9, 298), (6, 64, 0, 10, 299), (7, 93, 64, 0, 1020), (7, 7, 64, 1, 1021), (7, 141, 64, 2, 1022), (7, 183, 64, 3, 1023), (7, 186, 64, 4, 1024), (7, 13, 64, 5, 1025), (7, 16, 64, 6, 1026), (7, 19, 64, 7, 1027), (7, 23, 64, 8, 1028), (7, 26, 64, 9, 1029), (7, 29, 64, 10, 1030), (7, 32, 64, 11, 1031), (7, 35, 64, 12, 1032), (7, 38, 64, 13, 1033), (7, 41, 64, 14, 1034), (7, 44, 64, 15, 1035), (7, 47, 64, 16, 1036), (7, 50, 64, 17, 1037), (7, 54, 64, 18, 1038), (7, 57, 64, 19, 1039), (7, 60, 64, 20, 1040), (7, 153, 64, 21, 1041), (7, 147, 64, 22, 1042), (7, 150, 64, 23, 1043), (7, 156, 64, 24, 1044), (7, 144, 64, 25, 1045), (7, 63, 64, 26, 1046), (7, 66, 64, 27, 1047), (7, 69, 64, 28, 1048), (7, 72, 64, 29, 1049), (7, 222, 64, 30, 1050), (7, 75, 64, 31, 1051), (7, 78, 64, 32, 1052), (7, 231, 64, 33, 1053), (7, 234, 64, 34, 1054), (7, 81, 64, 35, 1055), (7, 84, 64, 36, 1056), (7, 262, 64, 37, 1057), (7, 87, 64, 38, 1058), (7, 90, 64, 39, 1059), (7, 296, 64, 40, 1060), (7, 312, 64, 41, 1061)]
def zCI : List (Nat × Nat × Int32 × Nat) := [(9, 265, 1431655765, 456), (9, 266, 858993459, 457), (9, 267, 252645135, 458), (5, 121, 1103515245, 947), (7, 292, 1103515245, 1507)]
def zCL : List (Nat × Nat × Int64 × Nat) := [(2, 96, -1, 737), (10, 314, 6148914691236517205, 745), (10, 316, 3689348814741910323, 746), (10, 318, 1085102592571150095, 747), (1, 39, -1, 866), (8, 18, 4294967295, 1548)]
def zSX : List (Nat × Nat) := [(33, 3), (46, 3), (51, 3), (65, 3), (70, 3), (75, 3)]
def zMX : List (Nat × Nat × Nat × Nat) := [(4, 22, 1, 338), (4, 28, 0, 341), (5, 81, 0, 659), (5, 86, 1, 678), (2, 126, 1, 785), (6, 246, 0, 794), (2, 115, 0, 808)]
def zAC : List (Nat × Nat × Nat) := [(6, 109, 381), (5, 46, 520)]
/-- what an op's aux must be -/
def zaux (o : Nat) : Instr → zPV → Bool
  | .iconst n, .inl x => decide (Int32.ofInt n = x)
  | .bipush n, .inl x => decide ((Int8.ofInt n).toInt32 = x)
  | .sipush n, .inl x => decide ((Int16.ofInt n).toInt32 = x)
  | .iinc _ n, .inl x => decide (Int32.ofInt n = x)
  | .lconst n, .inr (.inl y) => decide (Int64.ofNat (n : Nat) = y)
  | .ldc i, .inl x => zCI.any (fun q => Nat.beq q.1 o && (Nat.beq q.2.1 i && decide (q.2.2.1 = x)))
  | .ldc i, .inr (.inr (_, k)) => Nat.beq o 3 && (Nat.blt k 6 && Nat.beq ([33, 46, 51, 65, 70, 75].getD k 0) i)
  | .ldc_w i, .inl x => zCI.any (fun q => Nat.beq q.1 o && (Nat.beq q.2.1 i && decide (q.2.2.1 = x)))
  | .ldc2_w i, .inr (.inl y) => zCL.any (fun q => Nat.beq q.1 o && (Nat.beq q.2.1 i && decide (q.2.2.1 = y)))
  | .getfield i, .inr (.inr (c, k)) => zFL.any (fun q => Nat.beq q.1 o && (Nat.beq q.2.1 i && (Nat.beq q.2.2.1 c && Nat.beq q.2.2.2.1 k)))
  | .putfield i, .inr (.inr (c, k)) => zFL.any (fun q => Nat.beq q.1 o && (Nat.beq q.2.1 i && (Nat.beq q.2.2.1 c && Nat.beq q.2.2.2.1 k)))
  | .getstatic i, _ => (Nat.beq o 5 && Nat.beq i 52) || (Nat.beq o 0 && Nat.beq i 32)
  | .invokestatic i, .inr (.inr (200, k)) => zMX.any (fun q => Nat.beq q.1 o && (Nat.beq q.2.1 i && Nat.beq q.2.2.1 k))
  | .invokestatic i, .inr (.inr (201, _)) => zAC.any (fun q => Nat.beq q.1 o && Nat.beq q.2.1 i)
  | .invokestatic _, _ => false
  | .getfield _, _ => false
  | .putfield _, _ => false
  | .iconst _, _ => false
  | .bipush _, _ => false
  | .sipush _, _ => false
  | .iinc _ _, _ => false
  | .lconst _, _ => false
  | .ldc _, _ => false
  | .ldc_w _, _ => false
  | .ldc2_w _, _ => false
  | _, _ => true
def zil : Instr → Nat
  | .bipush _ => 2
  | .sipush _ => 3
  | .ldc _ => 2
  | .ldc_w _ => 3
  | .ldc2_w _ => 3
  | .iload _ => 2
  | .lload _ => 2
  | .aload _ => 2
  | .istore _ => 2
  | .lstore _ => 2
  | .astore _ => 2
  | .iinc _ _ => 3
  | .getfield _ => 3
  | .putfield _ => 3
  | .getstatic _ => 3
  | .invokestatic _ => 3
  | _ => 1
def zlenB : List zOp → Nat
  | [] => 0
  | q :: r => q.2.1 + zlenB r
def zcode (o : Nat) (b : ByteArray) : Nat → List zOp → Bool
  | _, [] => true
  | pc, q :: r => decide (decode b pc = .ok (q.1, q.2.1)) && (Nat.beq q.2.1 (zil q.1) && zaux o q.1 q.2.2 && zcode o b (pc + q.2.1) r)
/-! the steps -/
def zpush (x : zPV) (s : zSt) (K : zSt → Prop) : Prop := K (s.1, x :: s.2.1, s.2.2)
def zldI (k : Nat) (s : zSt) (K : zSt → Prop) : Prop := match s.1.getD k none with
  | some (.inl x) => K (s.1, .inl x :: s.2.1, s.2.2)
  | _ => False
def zldL (k : Nat) (s : zSt) (K : zSt → Prop) : Prop := match s.1.getD k none with
  | some (.inr (.inl x)) => K (s.1, .inr (.inl x) :: s.2.1, s.2.2)
  | _ => False
def zldR (k : Nat) (s : zSt) (K : zSt → Prop) : Prop := match s.1.getD k none with
  | some (.inr (.inr q)) => K (s.1, .inr (.inr q) :: s.2.1, s.2.2)
  | _ => False
def zis2 : Option zPV → Bool
  | some (.inr (.inl _)) => true
  | _ => false
def zclr (L : List (Option zPV)) (i : Nat) : List (Option zPV) := match i with
  | 0 => L
  | j + 1 => bif zis2 (L.getD j none) then L.set j none else L
def zst1 (L : List (Option zPV)) (i : Nat) (v : zPV) : List (Option zPV) := (zclr L i).set i (some v)
def zst2 (L : List (Option zPV)) (i : Nat) (v : zPV) : List (Option zPV) := ((zclr L i).set i (some v)).set (i + 1) none
def zstI (k : Nat) (s : zSt) (K : zSt → Prop) : Prop := match s.2.1 with
  | .inl x :: st => Nat.blt k s.1.length = true ∧ K (zst1 s.1 k (.inl x), st, s.2.2)
  | _ => False
def zstL (k : Nat) (s : zSt) (K : zSt → Prop) : Prop := match s.2.1 with
  | .inr (.inl x) :: st => Nat.blt (k + 1) s.1.length = true ∧ K (zst2 s.1 k (.inr (.inl x)), st, s.2.2)
  | _ => False
def zstR (k : Nat) (s : zSt) (K : zSt → Prop) : Prop := match s.2.1 with
  | .inr (.inr x) :: st => Nat.blt k s.1.length = true ∧ K (zst1 s.1 k (.inr (.inr x)), st, s.2.2)
  | _ => False
def zinc (k : Nat) (a : zPV) (s : zSt) (K : zSt → Prop) : Prop := match a, s.1.getD k none with
  | .inl y, some (.inl x) => Nat.blt k s.1.length = true ∧ K (zst1 s.1 k (.inl (x + y)), s.2.1, s.2.2)
  | _, _ => False
def z2I (op : Int32 → Int32 → Int32) (s : zSt) (K : zSt → Prop) : Prop := match s.2.1 with
  | .inl y :: .inl x :: st => K (s.1, .inl (op x y) :: st, s.2.2)
  | _ => False
def z2D (op : Int32 → Int32 → Int32) (s : zSt) (K : zSt → Prop) : Prop := match s.2.1 with
  | .inl y :: .inl x :: st => ¬ y = 0 ∧ K (s.1, .inl (op x y) :: st, s.2.2)
  | _ => False
def z1I (op : Int32 → Int32) (s : zSt) (K : zSt → Prop) : Prop := match s.2.1 with
  | .inl x :: st => K (s.1, .inl (op x) :: st, s.2.2)
  | _ => False
def z2L (op : Int64 → Int64 → Int64) (s : zSt) (K : zSt → Prop) : Prop := match s.2.1 with
  | .inr (.inl y) :: .inr (.inl x) :: st => K (s.1, .inr (.inl (op x y)) :: st, s.2.2)
  | _ => False
def zLI (op : Int64 → Int32 → Int64) (s : zSt) (K : zSt → Prop) : Prop := match s.2.1 with
  | .inl y :: .inr (.inl x) :: st => K (s.1, .inr (.inl (op x y)) :: st, s.2.2)
  | _ => False
def zcmp (s : zSt) (K : zSt → Prop) : Prop := match s.2.1 with
  | .inr (.inl y) :: .inr (.inl x) :: st => K (s.1, .inl (lg_cmp x y) :: st, s.2.2)
  | _ => False
def zi2l (s : zSt) (K : zSt → Prop) : Prop := match s.2.1 with
  | .inl x :: st => K (s.1, .inr (.inl x.toInt64) :: st, s.2.2)
  | _ => False
def zl2i (s : zSt) (K : zSt → Prop) : Prop := match s.2.1 with
  | .inr (.inl x) :: st => K (s.1, .inl x.toInt32 :: st, s.2.2)
  | _ => False
def zcat : zPV → Bool
  | .inr (.inl _) => true
  | _ => false
def zdup (s : zSt) (K : zSt → Prop) : Prop := match s.2.1 with
  | v :: st => zcat v = false ∧ K (s.1, v :: v :: st, s.2.2)
  | _ => False
def zdupx (s : zSt) (K : zSt → Prop) : Prop := match s.2.1 with
  | v :: u :: st => (zcat v || zcat u) = false ∧ K (s.1, v :: u :: v :: st, s.2.2)
  | _ => False
def zdup2 (s : zSt) (K : zSt → Prop) : Prop := match s.2.1 with
  | v :: u :: st => (zcat v || zcat u) = false ∧ K (s.1, v :: u :: v :: u :: st, s.2.2)
  | _ => False
def zpop (s : zSt) (K : zSt → Prop) : Prop := match s.2.1 with
  | v :: st => zcat v = false ∧ K (s.1, st, s.2.2)
  | _ => False
def zpop2 (s : zSt) (K : zSt → Prop) : Prop := match s.2.1 with
  | v :: st => zcat v = true ∧ K (s.1, st, s.2.2)
  | _ => False
/-- a field's value -/
def zfv (M : zWM) (c j k : Nat) : zPV := match zfk c k with
  | 0 => .inl (rdI M c j k)
  | 1 => .inr (.inl (rdL M c j k))
  | _ => .inr (.inr (zrt c j k))
def zget (a : zPV) (s : zSt) (K : zSt → Prop) : Prop := match a, s.2.1 with
  | .inr (.inr (c, k)), .inr (.inr (c', j)) :: st => (Nat.beq c' c && (Nat.beq (zkd c) 0 && Nat.blt k (zlen c))) = true ∧ Nat.blt j (zcnt c') = true ∧ K (s.1, zfv s.2.2 c' j k :: st, s.2.2)
  | _, _ => False
def zput (a : zPV) (s : zSt) (K : zSt → Prop) : Prop := match a, s.2.1 with
  | .inr (.inr (c, k)), .inl x :: .inr (.inr (c', j)) :: st => (Nat.beq c' c && (Nat.beq (zkd c) 0 && (Nat.blt k (zlen c) && Nat.beq (zfk c k) 0))) = true ∧ Nat.blt j (zcnt c') = true ∧ (bif zbz c k then x = 0 ∨ x = 1 else True) ∧ K (s.1, st, wrI s.2.2 c' j (zp (rdI s.2.2 c' j) k x))
  | .inr (.inr (c, k)), .inr (.inl x) :: .inr (.inr (c', j)) :: st => (Nat.beq c' c && (Nat.beq (zkd c) 0 && (Nat.blt k (zlen c) && Nat.beq (zfk c k) 1))) = true ∧ Nat.blt j (zcnt c') = true ∧ K (s.1, st, wrL s.2.2 c' j (zp (rdL s.2.2 c' j) k x))
  | _, _ => False
abbrev zScr : Type := Bool × Nat × (Nat → Int32)
def ziald (z : zScr) (s : zSt) (K : zSt → Prop) : Prop := match s.2.1 with
  | .inl i :: .inr (.inr (c, j)) :: st =>
    bif Nat.beq c 60 then Nat.beq j 0 = true ∧ inb i 7 = true ∧ K (s.1, .inl (zLN.getD (ix i) 0) :: st, s.2.2)
    else bif Nat.beq c 63 then Nat.beq j 0 = true ∧ z.1 = true ∧ inb i z.2.1 = true ∧ K (s.1, .inl (z.2.2 (ix i)) :: st, s.2.2)
    else Nat.beq (zkd c) 1 = true ∧ Nat.blt j (zcnt c) = true ∧ inb i (zlen c) = true ∧ K (s.1, .inl (rdI s.2.2 c j (ix i)) :: st, s.2.2)
  | _ => False
def zlald (s : zSt) (K : zSt → Prop) : Prop := match s.2.1 with
  | .inl i :: .inr (.inr (c, j)) :: st => Nat.beq (zkd c) 2 = true ∧ Nat.blt j (zcnt c) = true ∧ inb i (zlen c) = true ∧ K (s.1, .inr (.inl (rdL s.2.2 c j (ix i))) :: st, s.2.2)
  | _ => False
def zaald (s : zSt) (K : zSt → Prop) : Prop := match s.2.1 with
  | .inl i :: .inr (.inr (c, j)) :: st => (Nat.beq c 7 && Nat.beq j 0) = true ∧ inb i 8 = true ∧ K (s.1, .inr (.inr (8, ix i)) :: st, s.2.2)
  | _ => False
def ziast (s : zSt) (K : zSt → Prop) : Prop := match s.2.1 with
  | .inl x :: .inl i :: .inr (.inr (c, j)) :: st => Nat.beq (zkd c) 1 = true ∧ Nat.blt j (zcnt c) = true ∧ inb i (zlen c) = true ∧ K (s.1, st, wrI s.2.2 c j (zp (rdI s.2.2 c j) (ix i) x))
  | _ => False
def zlast (s : zSt) (K : zSt → Prop) : Prop := match s.2.1 with
  | .inr (.inl x) :: .inl i :: .inr (.inr (c, j)) :: st => Nat.beq (zkd c) 2 = true ∧ Nat.blt j (zcnt c) = true ∧ inb i (zlen c) = true ∧ K (s.1, st, wrL s.2.2 c j (zp (rdL s.2.2 c j) (ix i) x))
  | _ => False
def zalen (z : zScr) (s : zSt) (K : zSt → Prop) : Prop := match s.2.1 with
  | .inr (.inr (c, j)) :: st => (Nat.beq c 63 && Nat.beq j 0) = true ∧ z.1 = true ∧ K (s.1, .inl (Int32.ofNat z.2.1) :: st, s.2.2)
  | _ => False
/-- Math.max, min; System.arraycopy of ints, of longs -/
def zsys (a : zPV) (s : zSt) (K : zSt → Prop) : Prop := match a, s.2.1 with
  | .inr (.inr (200, k)), .inl y :: .inl x :: st => Nat.ble (st.length) 3 = true ∧ K (s.1, .inl (bif Nat.beq k 0 then jmax x y else jmin x y) :: st, s.2.2)
  | .inr (.inr (201, _)), .inl n :: .inl dp :: .inr (.inr (c1, j1)) :: .inl sp :: .inr (.inr (c0, j0)) :: st =>
    Nat.ble (st.length) 3 = true ∧ (Nat.blt j1 (zcnt c1) = true ∧ Nat.blt j0 (zcnt c0) = true) ∧ (decide (¬ n < 0) && (decide (¬ dp < 0) && decide (¬ sp < 0))) = true ∧ (Nat.ble (ix sp + ix n) (zlen c0) = true ∧ Nat.ble (ix dp + ix n) (zlen c1) = true) ∧
    (bif Nat.beq (zkd c0) 1 then Nat.beq (zkd c1) 1 = true ∧ K (s.1, st, wrI s.2.2 c1 j1 (va_cpy (rdI s.2.2 c0 j0) (rdI s.2.2 c1 j1) (ix sp) (ix dp) (ix n)))
     else Nat.beq (zkd c0) 2 = true ∧ Nat.beq (zkd c1) 2 = true ∧ K (s.1, st, wrL s.2.2 c1 j1 (va_cpy (rdL s.2.2 c0 j0) (rdL s.2.2 c1 j1) (ix sp) (ix dp) (ix n))))
  | _, _ => False
def zw1 (z : zScr) (i : Instr) (a : zPV) (s : zSt) (K : zSt → Prop) : Prop := match i with
  | .iconst _ => zpush a s K
  | .bipush _ => zpush a s K
  | .sipush _ => zpush a s K
  | .lconst _ => zpush a s K
  | .ldc _ => zpush (match a with | .inr (.inr q) => .inr (.inr (61, q.2)) | v => v) s K
  | .ldc_w _ => zpush a s K
  | .ldc2_w _ => zpush a s K
  | .iload_n k => zldI k s K
  | .iload k => zldI k s K
  | .lload_n k => zldL k s K
  | .lload k => zldL k s K
  | .aload_n k => zldR k s K
  | .aload k => zldR k s K
  | .istore_n k => zstI k s K
  | .istore k => zstI k s K
  | .lstore_n k => zstL k s K
  | .lstore k => zstL k s K
  | .astore_n k => zstR k s K
  | .astore k => zstR k s K
  | .iinc k _ => zinc k a s K
  | .dup => zdup s K
  | .dup_x1 => zdupx s K
  | .dup2 => zdup2 s K
  | .pop => zpop s K
  | .pop2 => zpop2 s K
  | .iadd => z2I (· + ·) s K
  | .isub => z2I (· - ·) s K
  | .imul => z2I (· * ·) s K
  | .iand => z2I (· &&& ·) s K
  | .ior => z2I (· ||| ·) s K
  | .ixor => z2I (· ^^^ ·) s K
  | .ishl => z2I jshl s K
  | .ishr => z2I jshr s K
  | .iushr => z2I jushr s K
  | .idiv => z2D (· / ·) s K
  | .irem => z2D jrem s K
  | .ineg => z1I (- ·) s K
  | .i2b => z1I jb s K
  | .i2s => z1I js s K
  | .ladd => z2L (· + ·) s K
  | .lsub => z2L (· - ·) s K
  | .land => z2L (· &&& ·) s K
  | .lor => z2L (· ||| ·) s K
  | .lxor => z2L (· ^^^ ·) s K
  | .lshl => zLI jlshl s K
  | .lshr => zLI jlshr s K
  | .lushr => zLI jlushr s K
  | .lcmp => zcmp s K
  | .i2l => zi2l s K
  | .l2i => zl2i s K
  | .getfield _ => zget a s K
  | .putfield _ => zput a s K
  | .getstatic _ => zpush (.inr (.inr (60, 0))) s K
  | .iaload => ziald z s K
  | .laload => zlald s K
  | .aaload => zaald s K
  | .iastore => ziast s K
  | .lastore => zlast s K
  | .arraylength => zalen z s K
  | .invokestatic _ => zsys a s K
  | _ => False
def zwB (z : zScr) : List zOp → zSt → (zSt → Prop) → Prop
  | [], s, K => K s
  | q :: r, s, K => zw1 z q.1 q.2.2 s (fun s' => zwB z r s' K)
