section ZSTR0
variable {w : zWd} {f : zFr} {o nL d pc : Nat} {cc : ByteArray} {L : List (Option zPV)} {st : List zPV} {M : zWM} {idx k : Nat} {x i : Int32}
theorem zlenS (hF : zFOK w f o cc nL d) (hlk : Cond.methodLink (zN o) idx yJ0_length_8abf5 ∈ zGW) (hd : zj cc pc 20 idx = true) (hk : Nat.blt k 6 = true) (hroom : Nat.ble (zsum st) 8 = true) (hg : Nat.blt 5 d = true) (h : s_J0_length_8abf5 k = some x) (kk : zG w f nL (pc + 3) (L, .inl x :: st, M)) : zG w f nL pc (L, .inr (.inr (61, k)) :: st, M) := by
  sorry
theorem zchrS (hF : zFOK w f o cc nL d) (hlk : Cond.methodLink (zN o) idx yJ0_charAt_5068e ∈ zGW) (hd : zj cc pc 20 idx = true) (hk : Nat.blt k 6 = true) (hroom : Nat.ble (zsum st) 8 = true) (hg : Nat.blt 5 d = true) (h : s_J0_charAt_5068e k i = some x) (kk : zG w f nL (pc + 3) (L, .inl x :: st, M)) : zG w f nL pc (L, .inl i :: .inr (.inr (61, k)) :: st, M) := by
  sorry
end ZSTR0
