/-! the law, from its entry to its loop -/
section LAWS
variable {p : Program} {l : Launch} {e : Env} {s : State} {m : MethodId} {below : List Frame} {meth : Method} {c : Code} {b L : Nat} {xs : Nat → Int32}
theorem law_has {ad : Nat → Nat → Nat} {ls : Array Slot} {nq mq : Nat} (h63 : ad 63 0 = b) (h0 : ad 0 0 = nq) (h64 : ad 64 0 = mq) (hl : lv_has ls 4 [(3, .int 0), (2, .ref mq), (1, .ref nq), (0, .ref b)]) : zLH ad ls 4 [some (pR 63 0), some (pR 0 0), some (pR 64 0), some (pI (zi (0 : Nat)))] := by
  refine ⟨hl.1, hl.2.1, fun j v hj => ?_⟩
  match j, hj with
  | 0, hj =>
    have hv : pR 63 0 = v := Option.some.inj hj
    subst hv
    show ls[0]? = some (.val (.ref (ad 63 0)))
    rw [h63]
    exact lv_at hl 3 rfl
  | 1, hj =>
    have hv : pR 0 0 = v := Option.some.inj hj
    subst hv
    show ls[1]? = some (.val (.ref (ad 0 0)))
    rw [h0]
    exact lv_at hl 2 rfl
  | 2, hj =>
    have hv : pR 64 0 = v := Option.some.inj hj
    subst hv
    show ls[2]? = some (.val (.ref (ad 64 0)))
    rw [h64]
    exact lv_at hl 1 rfl
  | 3, hj =>
    have hv : pI (zi (0 : Nat)) = v := Option.some.inj hj
    subst hv
    exact lv_at hl 0 rfl
  | j + 4, hj => exact absurd hj (by show ¬ (none : Option zPV) = some v; exact fun h => by cases h)
set_option maxHeartbeats 4000000 in
set_option maxRecDepth 100000 in
theorem law_from {D : va_G} {t : cT3} {tL : Nat} {aK aV : Nat → Nat} {nq mq : Nat} {nu mu : Nat → Nat} {H : Heap} {locs : List Loc} {ls : Array Slot} (hL : L ≤ 3072) (C0 : lw_At p s m meth c b L xs) (hsp : ∀ ad : Nat → Nat → Nat, ad 60 0 = tL → ad 61 = aK → ad 62 = aV → zSP (D, t, ad, fun q => s.heap.size ≤ q) s s.heap)
    (hP : va_P D vwCl (iW6 t nq nu ++ iW7 t mq mu) H) (hD : va_D (fun q : Nat => s.heap.size ≤ q) (iW6 t nq nu ++ iW7 t mq mu)) (hS : va_S (fun q : Nat => s.heap.size ≤ q) s.heap H locs) (hl : lv_has ls 4 [(3, .int 0), (2, .ref mq), (1, .ref nq), (0, .ref b)]) :
    W p l e room_1 s m #[Value.ref b] below meth c H locs 74 5776 (lw_Z below #[Value.ref b] s) (F0 m 18 ls []) := by
  obtain ⟨hx, hb, hr, hml, hown, hts, hX, hbl, hlocks, hgv⟩ := C0
  have hF : zFOK (D, t, iAd tL aK aV b nq nu mq mu, fun q => s.heap.size ≤ q) (lwF p l e s m below meth c b L 74 5776 xs) 8 code 4 800 :=
    ⟨hx, hb, hml, hown, fun x hx => hts x (i_in hx), hlocks, ⟨by decide, Nat.le_of_ble_eq_true rfl, Nat.le_of_ble_eq_true rfl, Nat.le_of_ble_eq_true rfl, Nat.le_of_ble_eq_true rfl⟩, hsp _ rfl rfl rfl, iD hD _, fun _ => ⟨hX, hbl, Nat.not_le.mpr hbl⟩⟩
  exact law_loop hF hr rfl (Nat.le_of_ble_eq_true rfl) (Nat.le_of_ble_eq_true rfl) hL L 0 iT iM.1 iM.2 (by omega) (by omega) iRel rfl H locs ls (iP hP) hS (law_has rfl rfl rfl hl)
set_option maxHeartbeats 4000000 in
set_option maxRecDepth 100000 in
theorem law_start (l : Launch) (hL : L ≤ 3072) (C0 : lw_At p s m meth c b L xs) : W p l e room_1 s m #[Value.ref b] below meth c s.heap [] 0 0 (lw_Z below #[Value.ref b] s) (entryFrame m ([Value.ref b] : List Value).toArray 4) := by
  obtain ⟨hx, hb, hr, hml, hown, hts, hX, hbl, hlocks, hgv⟩ := id C0
  obtain ⟨D, t, tL, aK, aV, hSt, hK, hsp⟩ := st_facts hts hgv
  have hF : cOK D t (fun q : Nat => s.heap.size ≤ q) p s m #[Value.ref b] c 8 4 code := ⟨hx, hb, hml, hown, fun x hx => hts x (i_in hx), hK, fun q h => h, hSt⟩
  have hP : va_P D vwCl [] s.heap := fun k q h => by simp at h
  have hD : va_D (fun q : Nat => s.heap.size ≤ q) [] := ⟨fun i j p q h => by simp at h, fun k q h => by simp at h⟩
  have hS : va_S (fun q : Nat => s.heap.size ≤ q) s.heap s.heap [] := va_S.rf
  have hl := lv_entry ([.ref b]) (n := 4) (Nat.le_of_ble_eq_true rfl)
  rw [lg_entry_eq]
  generalize (lg_sl ([.ref b]) ++ List.replicate (4 - (lg_sl ([.ref b])).length) Slot.unset).toArray = ls at hl ⊢
  have hl : lv_has ls 4 [(0, .ref b)] := hl
  refine c_new (c := 0) 3 1 11 tyX6 hF rfl (fun k hk => tyX6_ok k hk) kK8_7 kS6 kT6 hP hD hS rfl rfl rfl rfl rfl (by decide +kernel) (fun nq H hP hD hS => ?_)
  refine lv_dup hF.1 hF.2.1 (by decide +kernel) rfl ?_
  refine c_call 7 49 2846 hF (c_X6 l D t) kC6 kT6 kLL9 kM6 rfl (by decide +kernel) hP hD hS hl.1 ⟨rfl, rfl⟩ (Nat.le_of_ble_eq_true rfl) rfl rfl rfl rfl rfl (by decide +kernel) (fun nu H locs hP hD hS => ?_)
  refine lv_astore_n (k := 1) (i := 1) (lv' := [(1, .ref nq), (0, .ref b)]) hF.1 hF.2.1 (by decide +kernel) rfl hl (by decide) rfl (fun ls hl => ?_)
  refine c_new (c := 64) 11 50 2888 tyX7 hF rfl (fun k hk => tyX7_ok k hk) kK8_10 kS7 kT7 hP hD hS rfl rfl rfl rfl rfl (by decide +kernel) (fun mq H hP hD hS => ?_)
  refine lv_dup hF.1 hF.2.1 (by decide +kernel) rfl ?_
  refine c_call 15 74 5776 hF (c_X7 l D t) kC7 kT7 kLL12 kM7 rfl (by decide +kernel) hP hD hS hl.1 ⟨rfl, rfl⟩ (Nat.le_of_ble_eq_true rfl) rfl rfl rfl rfl rfl (by decide +kernel) (fun mu H locs hP hD hS => ?_)
  refine lv_astore_n (k := 2) (i := 2) (lv' := [(2, .ref mq), (1, .ref nq), (0, .ref b)]) hF.1 hF.2.1 (by decide +kernel) rfl hl (by decide) rfl (fun ls hl => ?_)
  refine lv_iconst (v := 0) hF.1 hF.2.1 (n := 0) (by decide +kernel) (by decide) ?_
  refine lv_istore_n (k := 3) (i := 3) (lv' := [(3, .int 0), (2, .ref mq), (1, .ref nq), (0, .ref b)]) hF.1 hF.2.1 (by decide +kernel) rfl hl (by decide) rfl (fun ls hl => ?_)
  exact law_from hL C0 hsp hP hD hS hl
end LAWS
