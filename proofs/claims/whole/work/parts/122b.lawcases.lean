set_option maxHeartbeats 4000000 in
set_option maxRecDepth 100000 in
theorem law_case4 {p : Program} {l : Launch} {e : Env} {s : State} {m : MethodId} {below : List Frame} {meth : Method} {c : Code} {b L : Nat} {xs : Nat → Int32} {ad : Nat → Nat} (hL : L ≤ 2048) (hst : l.stackTraces = false) (dC : Nat → ClassId) (dI : Nat → Nat → Nat) (cI cZ cR cJ : ClassId) (hG : GG dC dI cI cZ cR cJ s) (hZU : vx_Zq Bundle.tN "UNASSIGNED_STACK" Bundle.steD (fun q : Nat => s.heap.size ≤ q) s s.heap) (hZN : vx_Zq Bundle.tN "SUPPRESSED_SENTINEL" Bundle.listD (fun q : Nat => s.heap.size ≤ q) s s.heap) (C0 : lw_At p s m meth c b L xs) (N : Nat) (n : Nat) (ih : ∀ (i : Int32) (S : LSt9) (H : Heap) (locs : List Loc) (cells slots : Nat) (_ : cells + n ≤ 601024) (_ : slots + 6 * n ≤ 7293034) (_ : va_P (dC, dI) vwCl (LW cI cZ cR cJ ad S) H) (_ : va_D (fun q : Nat => s.heap.size ≤ q) (LW cI cZ cR cJ ad S)) (_ : va_S (fun q : Nat => s.heap.size ≤ q) s.heap H locs) (ls : Array Slot) (_ : lv_has ls 7 [(0, .ref b), (1, .ref (ad 0)), (2, .ref (ad 51)), (3, .ref (ad 62)), (4, .int i)]), fL N xs L n i S = some () → W p l e room_1 s m #[Value.ref b] below meth c H locs cells slots (lw_Z below #[Value.ref b] s) (F0 m 23 ls [])) (i : Int32) (S : LSt9) (H : Heap) (locs : List Loc) (cells slots : Nat) (hcl : cells + (n + 1) ≤ 601024) (hsl : slots + 6 * (n + 1) ≤ 7293034) (hP : va_P (dC, dI) vwCl (LW cI cZ cR cJ ad S) H) (hD : va_D (fun q : Nat => s.heap.size ≤ q) (LW cI cZ cR cJ ad S)) (hS : va_S (fun q : Nat => s.heap.size ≤ q) s.heap H locs) (ls : Array Slot) (hl : lv_has ls 7 [(0, .ref b), (1, .ref (ad 0)), (2, .ref (ad 51)), (3, .ref (ad 62)), (4, .int i)]) (hf : fC4 N xs L (fun i S => fL N xs L n i S) i S = some ()) : W p l e room_1 s m #[Value.ref b] below meth c H locs cells slots (lw_Z below #[Value.ref b] s) (F0 m 337 ls []) := by
  obtain ⟨hx, hb, hr, hml, hown, hts, hX, hbl, hlocks, hgv⟩ := C0
  have hown : s.vm.findClass RL = some m.cls := hown
  have hts := fun w h => hts w (wsL_law_in w h)
  have hAz : ∀ q : Nat, s.heap.size ≤ q → (fun q : Nat => s.heap.size ≤ q) q := fun _ h => h
  have hbA : ¬ (fun q : Nat => s.heap.size ≤ q) b := Nat.not_le.mpr hbl
  have hK := hG.1
  unfold fC4 at hf
  refine lv_aload_n hx hb dL_law_337 rfl (lv_at hl 1 rfl) ?_
  refine lv_aload_n hx hb dL_law_338 rfl (lv_at hl 0 rfl) ?_
  refine lv_iload hx hb dL_law_339 (lv_at hl 4 rfl) ?_
  refine lv_iconst (v := (1 : Int32)) hx hb dL_law_341 (by decide) ?_
  refine lv_iadd hx hb dL_law_342 ?_
  have hi1 := (gd_some hf).1
  replace hf := (gd_some hf).2
  refine va_sld hx hb hX hbl hbA hS hi1 dL_law_343 ?_
  refine lv_i2l (v := (xs (i + (1 : Int32)).toNatClampNeg).toInt64) hx hb dL_law_344 rfl ?_
  refine lv_bipush (v := (32 : Int32)) hx hb dL_law_345 (by decide) ?_
  refine lv_lshl (v := ((xs (i + (1 : Int32)).toNatClampNeg).toInt64) <<< (((32 : Int32)).toInt64 &&& 63)) hx hb dL_law_347 rfl ?_
  refine lv_aload_n hx hb dL_law_348 rfl (lv_at hl 0 rfl) ?_
  refine lv_iload hx hb dL_law_349 (lv_at hl 4 rfl) ?_
  refine lv_iconst (v := (2 : Int32)) hx hb dL_law_351 (by decide) ?_
  refine lv_iadd hx hb dL_law_352 ?_
  have hi2 := (gd_some hf).1
  replace hf := (gd_some hf).2
  refine va_sld hx hb hX hbl hbA hS hi2 dL_law_353 ?_
  refine lv_i2l (v := (xs (i + (2 : Int32)).toNatClampNeg).toInt64) hx hb dL_law_354 rfl ?_
  refine lv_ldc2 (v := (4294967295 : Int64)) hx hb hown (hts (.constantLong RL 91 (4294967295)) (by decide +kernel)) dL_law_355 ?_
  refine lv_land hx hb dL_law_358 ?_
  refine lv_lor hx hb dL_law_359 ?_
  obtain ⟨o3, ho3, hf⟩ := Option.bind_eq_some_iff.mp hf
  have hFc := hF_all hD hS hAz
  refine va_calli (va_runV (As := [.long ((((xs (i + (1 : Int32)).toNatClampNeg).toInt64) <<< (((32 : Int32)).toInt64 &&& 63)) ||| (((xs (i + (2 : Int32)).toNatClampNeg).toInt64) &&& (4294967295 : Int64)))]) (rest := []) ⟨hx, hb, hml, hown, hts⟩ (C_X5_seal l dC dI cI cZ cR cJ ad S o3.2 (p_1 := (((xs (i + (1 : Int32)).toNatClampNeg).toInt64) <<< (((32 : Int32)).toInt64 &&& 63)) ||| (((xs (i + (2 : Int32)).toNatClampNeg).toInt64) &&& (4294967295 : Int64))) (N := N) (sz := H.size) (r0 := o3.1) ho3) (cwV 1 hts gL_law_X5_seal rfl rfl rfl (by decide +kernel) ⟨Nat.le_of_ble_eq_true rfl, Nat.le_of_ble_eq_true rfl⟩) ⟨wr_blind, va_recv hK hP (ci := 5) (q0 := 0) rfl rfl, wr_pre hP hG hD⟩ rfl rfl hl.1 rfl (lv_room (Nat.le_of_ble_eq_true rfl)) dL_law_360 ⟨by show _ ≤ 601024; omega, by show _ ≤ 7293034; omega⟩) hS (fun q _ h => hFc q h) hFc (fun r9 u9 t9 H1 locs ht9 hv9 hw9 hB9 hz9 hk9 hS => ?_)
  subst hw9
  rw [ht9] at hB9
  have hP := hB9
  have hD : va_D (fun q : Nat => s.heap.size ≤ q) (LW cI cZ cR cJ ad o3.2) := va_D_fst hD rfl
  generalize H1 = H at hP hS ⊢
  clear hFc hB9 hz9 hk9 hv9 ht9
  refine lv_aload_n hx hb dL_law_363 rfl (lv_at hl 2 rfl) ?_
  refine lv_aload_n hx hb dL_law_364 rfl (lv_at hl 0 rfl) ?_
  refine lv_iload hx hb dL_law_365 (lv_at hl 4 rfl) ?_
  refine lv_iconst (v := (1 : Int32)) hx hb dL_law_367 (by decide) ?_
  refine lv_iadd hx hb dL_law_368 ?_
  have hi4 := (gd_some hf).1
  replace hf := (gd_some hf).2
  refine va_sld hx hb hX hbl hbA hS hi4 dL_law_369 ?_
  refine lv_i2l (v := (xs (i + (1 : Int32)).toNatClampNeg).toInt64) hx hb dL_law_370 rfl ?_
  refine lv_bipush (v := (32 : Int32)) hx hb dL_law_371 (by decide) ?_
  refine lv_lshl (v := ((xs (i + (1 : Int32)).toNatClampNeg).toInt64) <<< (((32 : Int32)).toInt64 &&& 63)) hx hb dL_law_373 rfl ?_
  refine lv_aload_n hx hb dL_law_374 rfl (lv_at hl 0 rfl) ?_
  refine lv_iload hx hb dL_law_375 (lv_at hl 4 rfl) ?_
  refine lv_iconst (v := (2 : Int32)) hx hb dL_law_377 (by decide) ?_
  refine lv_iadd hx hb dL_law_378 ?_
  have hi5 := (gd_some hf).1
  replace hf := (gd_some hf).2
  refine va_sld hx hb hX hbl hbA hS hi5 dL_law_379 ?_
  refine lv_i2l (v := (xs (i + (2 : Int32)).toNatClampNeg).toInt64) hx hb dL_law_380 rfl ?_
  refine lv_ldc2 (v := (4294967295 : Int64)) hx hb hown (hts (.constantLong RL 91 (4294967295)) (by decide +kernel)) dL_law_381 ?_
  refine lv_land hx hb dL_law_384 ?_
  refine lv_lor hx hb dL_law_385 ?_
  obtain ⟨o6, ho6, hf⟩ := Option.bind_eq_some_iff.mp hf
  have hFc := hF_all hD hS hAz
  refine va_calli (va_runV (As := [.long ((((xs (i + (1 : Int32)).toNatClampNeg).toInt64) <<< (((32 : Int32)).toInt64 &&& 63)) ||| (((xs (i + (2 : Int32)).toNatClampNeg).toInt64) &&& (4294967295 : Int64)))]) (rest := [.int o3.1]) ⟨hx, hb, hml, hown, hts⟩ (C_X6_seal l dC dI cI cZ cR cJ ad o3.2 o6.2 (p_1 := (((xs (i + (1 : Int32)).toNatClampNeg).toInt64) <<< (((32 : Int32)).toInt64 &&& 63)) ||| (((xs (i + (2 : Int32)).toNatClampNeg).toInt64) &&& (4294967295 : Int64))) (N := N) (sz := H.size) (r0 := o6.1) ho6) (cwV 1 hts gL_law_X6_seal rfl rfl rfl (by decide +kernel) ⟨Nat.le_of_ble_eq_true rfl, Nat.le_of_ble_eq_true rfl⟩) ⟨wr_blind, va_recv hK hP (ci := 6) (q0 := 51) rfl rfl, wr_pre hP hG hD⟩ rfl rfl hl.1 rfl (lv_room (Nat.le_of_ble_eq_true rfl)) dL_law_386 ⟨by show _ ≤ 601024; omega, by show _ ≤ 7293034; omega⟩) hS (fun q _ h => hFc q h) hFc (fun r9 u9 t9 H1 locs ht9 hv9 hw9 hB9 hz9 hk9 hS => ?_)
  subst hw9
  rw [ht9] at hB9
  have hP := hB9
  have hD : va_D (fun q : Nat => s.heap.size ≤ q) (LW cI cZ cR cJ ad o6.2) := va_D_fst hD rfl
  generalize H1 = H at hP hS ⊢
  clear hFc hB9 hz9 hk9 hv9 ht9
  refine lv_icmp_eq (tgt := 1269) hx hb dL_law_389 (by decide) (fun hc => ?_) (fun hc => ?_)
  · replace hf := (if_pos hc).symm.trans hf
    refine lv_iinc (v := i + (4 : Int32)) (lv' := [(4, .int (i + (4 : Int32))), (0, .ref b), (1, .ref (ad 0)), (2, .ref (ad 51)), (3, .ref (ad 62))]) hx hb dL_law_1269 hl (k := 4) rfl rfl (by decide) rfl (fun ls hl => ?_)
    refine lv_goto (tgt := 23) hx hb dL_law_1272 (by decide) ?_
    exact ih (i + (4 : Int32)) o6.2 H locs _ _ (by omega) (by omega) hP hD hS ls (lv_sub hl [1, 2, 3, 4, 0] rfl) hf
  · replace hf := (if_neg hc).symm.trans hf
    refine lv_iconst (v := (0 : Int32)) hx hb dL_law_392 (by decide) ?_
    cases hf
set_option maxHeartbeats 4000000 in
set_option maxRecDepth 100000 in
theorem law_case5 {p : Program} {l : Launch} {e : Env} {s : State} {m : MethodId} {below : List Frame} {meth : Method} {c : Code} {b L : Nat} {xs : Nat → Int32} {ad : Nat → Nat} (hL : L ≤ 2048) (hst : l.stackTraces = false) (dC : Nat → ClassId) (dI : Nat → Nat → Nat) (cI cZ cR cJ : ClassId) (hG : GG dC dI cI cZ cR cJ s) (hZU : vx_Zq Bundle.tN "UNASSIGNED_STACK" Bundle.steD (fun q : Nat => s.heap.size ≤ q) s s.heap) (hZN : vx_Zq Bundle.tN "SUPPRESSED_SENTINEL" Bundle.listD (fun q : Nat => s.heap.size ≤ q) s s.heap) (C0 : lw_At p s m meth c b L xs) (N : Nat) (n : Nat) (ih : ∀ (i : Int32) (S : LSt9) (H : Heap) (locs : List Loc) (cells slots : Nat) (_ : cells + n ≤ 601024) (_ : slots + 6 * n ≤ 7293034) (_ : va_P (dC, dI) vwCl (LW cI cZ cR cJ ad S) H) (_ : va_D (fun q : Nat => s.heap.size ≤ q) (LW cI cZ cR cJ ad S)) (_ : va_S (fun q : Nat => s.heap.size ≤ q) s.heap H locs) (ls : Array Slot) (_ : lv_has ls 7 [(0, .ref b), (1, .ref (ad 0)), (2, .ref (ad 51)), (3, .ref (ad 62)), (4, .int i)]), fL N xs L n i S = some () → W p l e room_1 s m #[Value.ref b] below meth c H locs cells slots (lw_Z below #[Value.ref b] s) (F0 m 23 ls [])) (i : Int32) (S : LSt9) (H : Heap) (locs : List Loc) (cells slots : Nat) (hcl : cells + (n + 1) ≤ 601024) (hsl : slots + 6 * (n + 1) ≤ 7293034) (hP : va_P (dC, dI) vwCl (LW cI cZ cR cJ ad S) H) (hD : va_D (fun q : Nat => s.heap.size ≤ q) (LW cI cZ cR cJ ad S)) (hS : va_S (fun q : Nat => s.heap.size ≤ q) s.heap H locs) (ls : Array Slot) (hl : lv_has ls 7 [(0, .ref b), (1, .ref (ad 0)), (2, .ref (ad 51)), (3, .ref (ad 62)), (4, .int i)]) (hf : fC5 N xs L (fun i S => fL N xs L n i S) i S = some ()) : W p l e room_1 s m #[Value.ref b] below meth c H locs cells slots (lw_Z below #[Value.ref b] s) (F0 m 394 ls []) := by
  obtain ⟨hx, hb, hr, hml, hown, hts, hX, hbl, hlocks, hgv⟩ := C0
  have hown : s.vm.findClass RL = some m.cls := hown
  have hts := fun w h => hts w (wsL_law_in w h)
  have hAz : ∀ q : Nat, s.heap.size ≤ q → (fun q : Nat => s.heap.size ≤ q) q := fun _ h => h
  have hbA : ¬ (fun q : Nat => s.heap.size ≤ q) b := Nat.not_le.mpr hbl
  have hK := hG.1
  unfold fC5 at hf
  refine lv_aload_n hx hb dL_law_394 rfl (lv_at hl 1 rfl) ?_
  refine lv_aload_n hx hb dL_law_395 rfl (lv_at hl 0 rfl) ?_
  refine lv_iload hx hb dL_law_396 (lv_at hl 4 rfl) ?_
  refine lv_iconst (v := (1 : Int32)) hx hb dL_law_398 (by decide) ?_
  refine lv_iadd hx hb dL_law_399 ?_
  have hi1 := (gd_some hf).1
  replace hf := (gd_some hf).2
  refine va_sld hx hb hX hbl hbA hS hi1 dL_law_400 ?_
  refine lv_aload_n hx hb dL_law_401 rfl (lv_at hl 0 rfl) ?_
  refine lv_iload hx hb dL_law_402 (lv_at hl 4 rfl) ?_
  refine lv_iconst (v := (2 : Int32)) hx hb dL_law_404 (by decide) ?_
  refine lv_iadd hx hb dL_law_405 ?_
  have hi2 := (gd_some hf).1
  replace hf := (gd_some hf).2
  refine va_sld hx hb hX hbl hbA hS hi2 dL_law_406 ?_
  refine lv_aload_n hx hb dL_law_407 rfl (lv_at hl 0 rfl) ?_
  refine lv_iload hx hb dL_law_408 (lv_at hl 4 rfl) ?_
  refine lv_iconst (v := (3 : Int32)) hx hb dL_law_410 (by decide) ?_
  refine lv_iadd hx hb dL_law_411 ?_
  have hi3 := (gd_some hf).1
  replace hf := (gd_some hf).2
  refine va_sld hx hb hX hbl hbA hS hi3 dL_law_412 ?_
  refine lv_aload_n hx hb dL_law_413 rfl (lv_at hl 3 rfl) ?_
  obtain ⟨o4, ho4, hf⟩ := Option.bind_eq_some_iff.mp hf
  have hFc := hF_all hD hS hAz
  refine va_calli (vx_runSW (As := [.ref (ad 0), .int (xs (i + (1 : Int32)).toNatClampNeg), .int (xs (i + (2 : Int32)).toNatClampNeg), .int (xs (i + (3 : Int32)).toNatClampNeg), .ref (ad 62)]) (rest := []) ⟨hx, hb, hml, hown, hts⟩ (C_L_votes l hst dC dI cI cZ cR cJ ad S o4.2 (p_1 := xs (i + (1 : Int32)).toNatClampNeg) (p_2 := xs (i + (2 : Int32)).toNatClampNeg) (p_3 := xs (i + (3 : Int32)).toNatClampNeg) (N := N) (sz := H.size) (r0 := o4.1) ho4) (vx_cwSW 5 hts gL_law_L_votes rfl rfl rfl (by decide +kernel) ⟨Nat.le_of_ble_eq_true rfl, Nat.le_of_ble_eq_true rfl⟩) ⟨xr_blind, xr_pre hP hG hD hZU hZN hS hFc⟩ rfl rfl hl.1 rfl (lv_room (Nat.le_of_ble_eq_true rfl)) dL_law_414 ⟨by show _ ≤ 601024; omega, by show _ ≤ 7293034; omega⟩) hS (fun q _ h => hFc q h) hFc (fun r9 u9 t9 H1 locs ht9 hv9 hw9 hB9 hz9 hk9 hS => ?_)
  subst hw9
  rw [ht9] at hB9
  have hP := hB9
  have hD : va_D (fun q : Nat => s.heap.size ≤ q) (LW cI cZ cR cJ ad o4.2) := va_D_fst hD rfl
  generalize H1 = H at hP hS ⊢
  clear hFc hB9 hz9 hk9 hv9 ht9
  refine lv_istore (lv' := [(5, .int o4.1), (0, .ref b), (1, .ref (ad 0)), (2, .ref (ad 51)), (3, .ref (ad 62)), (4, .int i)]) hx hb dL_law_417 hl (by decide) rfl (fun ls hl => ?_)
  refine lv_aload_n hx hb dL_law_419 rfl (lv_at hl 3 rfl) ?_
  refine lv_aload_n hx hb dL_law_420 rfl (lv_at hl 1 rfl) ?_
  refine lv_iload hx hb dL_law_421 (lv_at hl 5 rfl) ?_
  refine lv_iconst (v := (1 : Int32)) hx hb dL_law_423 (by decide) ?_
  refine lv_iadd hx hb dL_law_424 ?_
  have hi5 := (gd_some hf).1
  replace hf := (gd_some hf).2
  refine va_sld hx hb hX hbl hbA hS hi5 dL_law_425 ?_
  refine lv_aload_n hx hb dL_law_426 rfl (lv_at hl 1 rfl) ?_
  refine lv_iload hx hb dL_law_427 (lv_at hl 5 rfl) ?_
  refine lv_iconst (v := (2 : Int32)) hx hb dL_law_429 (by decide) ?_
  refine lv_iadd hx hb dL_law_430 ?_
  have hi6 := (gd_some hf).1
  replace hf := (gd_some hf).2
  refine va_sld hx hb hX hbl hbA hS hi6 dL_law_431 ?_
  refine lv_aload_n hx hb dL_law_432 rfl (lv_at hl 1 rfl) ?_
  refine lv_iload hx hb dL_law_433 (lv_at hl 5 rfl) ?_
  refine lv_iconst (v := (3 : Int32)) hx hb dL_law_435 (by decide) ?_
  refine lv_iadd hx hb dL_law_436 ?_
  have hi7 := (gd_some hf).1
  replace hf := (gd_some hf).2
  refine va_sld hx hb hX hbl hbA hS hi7 dL_law_437 ?_
  obtain ⟨o8, ho8, hf⟩ := Option.bind_eq_some_iff.mp hf
  have hFc := hF_all hD hS hAz
  refine va_calli (va_runV (As := [.int (xs (i + (1 : Int32)).toNatClampNeg), .int (xs (i + (2 : Int32)).toNatClampNeg), .int (xs (i + (3 : Int32)).toNatClampNeg)]) (rest := []) ⟨hx, hb, hml, hown, hts⟩ (C_X6_votes l dC dI cI cZ cR cJ ad o4.2 o8.2 (p_1 := xs (i + (1 : Int32)).toNatClampNeg) (p_2 := xs (i + (2 : Int32)).toNatClampNeg) (p_3 := xs (i + (3 : Int32)).toNatClampNeg) (N := N) (sz := H.size) (r0 := o8.1) ho8) (cwV 3 hts gL_law_X6_votes rfl rfl rfl (by decide +kernel) ⟨Nat.le_of_ble_eq_true rfl, Nat.le_of_ble_eq_true rfl⟩) ⟨wr_blind, va_recv hK hP (ci := 6) (q0 := 51) rfl rfl, wr_pre hP hG hD⟩ rfl rfl hl.1 rfl (lv_room (Nat.le_of_ble_eq_true rfl)) dL_law_438 ⟨by show _ ≤ 601024; omega, by show _ ≤ 7293034; omega⟩) hS (fun q _ h => hFc q h) hFc (fun r9 u9 t9 H1 locs ht9 hv9 hw9 hB9 hz9 hk9 hS => ?_)
  subst hw9
  rw [ht9] at hB9
  have hP := hB9
  have hD : va_D (fun q : Nat => s.heap.size ≤ q) (LW cI cZ cR cJ ad o8.2) := va_D_fst hD rfl
  generalize H1 = H at hP hS ⊢
  clear hFc hB9 hz9 hk9 hv9 ht9
  refine lv_istore (lv' := [(6, .int o8.1), (5, .int o4.1), (0, .ref b), (1, .ref (ad 0)), (2, .ref (ad 51)), (3, .ref (ad 62)), (4, .int i)]) hx hb dL_law_441 hl (by decide) rfl (fun ls hl => ?_)
  refine lv_aload_n hx hb dL_law_443 rfl (lv_at hl 4 rfl) ?_
  obtain ⟨o9, ho9, hf⟩ := Option.bind_eq_some_iff.mp hf
  refine pcI (va_runV (As := []) (rest := []) ⟨hx, hb, hml, hown, hts⟩ (c_X6_thrown l dC dI cI cZ cR cJ (a_this := ad 51) (a_this_candidates := ad 52) (a_this_winners := ad 53) (a_this_boxOf := ad 54) (a_this_word := ad 55) (a_this_drawn := ad 56) (a_this_isLost := ad 57) (a_this_hasRead := ad 58) (a_this_hand := ad 59) (a_this_votes := ad 60) (a_this_isWinner := ad 61) (v_this_thrown := o8.2.1 32) (v_this_races := o8.2.1 33) (v_this_boxes := o8.2.1 34) (v_this_papers := o8.2.1 35) (v_this_draws := o8.2.1 36) (v_this_isSealed := o8.2.1 37) (v_this_state := o8.2.2.2.2.1) (v_this_margin := o8.2.1 38) (v_this_having := o8.2.1 39) (v_this_x := o8.2.1 40) (v_this_m := o8.2.1 41) (v_this_took := o8.2.1 42) (N := N) (r0 := o9) ho9) (cwV 0 hts gL_law_X6_thrown rfl rfl rfl (by decide +kernel) ⟨Nat.le_of_ble_eq_true rfl, Nat.le_of_ble_eq_true rfl⟩) ⟨rd_blind, va_recv hK hP (ci := 6) (q0 := 51) rfl rfl, rd_pre (hP.sub [51] rfl) hG⟩ rfl rfl hl.1 rfl (lv_room (Nat.le_of_ble_eq_true rfl)) dL_law_444 ⟨by show _ ≤ 601024; omega, by show _ ≤ 7293034; omega⟩) ?_
  refine lv_iload hx hb dL_law_447 (lv_at hl 1 rfl) ?_
  refine lv_icmp_eq (tgt := 454) hx hb dL_law_449 (by decide) (fun hc => ?_) (fun hc => ?_)
  · replace hf := (if_pos hc).symm.trans hf
    refine lv_iload hx hb dL_law_454 (lv_at hl 1 rfl) ?_
    refine lv_if_ne (tgt := 471) hx hb dL_law_456 (by decide) (fun hc => ?_) (fun hc => ?_)
    · replace hf := (if_neg hc).symm.trans hf
      refine lv_goto (tgt := 1269) hx hb dL_law_471 (by decide) ?_
      refine lv_iinc (v := i + (4 : Int32)) (lv' := [(4, .int (i + (4 : Int32))), (6, .int o8.1), (5, .int o4.1), (0, .ref b), (1, .ref (ad 0)), (2, .ref (ad 51)), (3, .ref (ad 62))]) hx hb dL_law_1269 hl (k := 6) rfl rfl (by decide) rfl (fun ls hl => ?_)
      refine lv_goto (tgt := 23) hx hb dL_law_1272 (by decide) ?_
      exact ih (i + (4 : Int32)) o8.2 H locs _ _ (by omega) (by omega) hP hD hS ls (lv_sub hl [3, 4, 5, 6, 0] rfl) hf
    · replace hf := (if_pos hc).symm.trans hf
      refine lv_aload_n hx hb dL_law_459 rfl (lv_at hl 5 rfl) ?_
      refine lv_iconst (v := (0 : Int32)) hx hb dL_law_460 (by decide) ?_
      refine va_lald hx hb hK hP 62 3 rfl rfl (show vp_in (0 : Int32) 1 by unfold vp_in; decide) dL_law_461 ?_
      refine lv_iload hx hb dL_law_462 (lv_at hl 0 rfl) ?_
      refine lv_i2l (v := o8.1.toInt64) hx hb dL_law_464 rfl ?_
      refine W.lcmp hx hb dL_law_465 ?_
      refine lv_if_eq (tgt := 471) hx hb dL_law_466 (by decide) (fun hc => ?_) (fun hc => ?_)
      · replace hf := (if_pos hc).symm.trans hf
        refine lv_goto (tgt := 1269) hx hb dL_law_471 (by decide) ?_
        refine lv_iinc (v := i + (4 : Int32)) (lv' := [(4, .int (i + (4 : Int32))), (6, .int o8.1), (5, .int o4.1), (0, .ref b), (1, .ref (ad 0)), (2, .ref (ad 51)), (3, .ref (ad 62))]) hx hb dL_law_1269 hl (k := 6) rfl rfl (by decide) rfl (fun ls hl => ?_)
        refine lv_goto (tgt := 23) hx hb dL_law_1272 (by decide) ?_
        exact ih (i + (4 : Int32)) o8.2 H locs _ _ (by omega) (by omega) hP hD hS ls (lv_sub hl [3, 4, 5, 6, 0] rfl) hf
      · replace hf := (if_neg hc).symm.trans hf
        refine lv_iconst (v := (0 : Int32)) hx hb dL_law_469 (by decide) ?_
        cases hf
  · replace hf := (if_neg hc).symm.trans hf
    refine lv_iconst (v := (0 : Int32)) hx hb dL_law_452 (by decide) ?_
    cases hf
set_option maxHeartbeats 4000000 in
set_option maxRecDepth 100000 in
theorem law_case6 {p : Program} {l : Launch} {e : Env} {s : State} {m : MethodId} {below : List Frame} {meth : Method} {c : Code} {b L : Nat} {xs : Nat → Int32} {ad : Nat → Nat} (hL : L ≤ 2048) (hst : l.stackTraces = false) (dC : Nat → ClassId) (dI : Nat → Nat → Nat) (cI cZ cR cJ : ClassId) (hG : GG dC dI cI cZ cR cJ s) (hZU : vx_Zq Bundle.tN "UNASSIGNED_STACK" Bundle.steD (fun q : Nat => s.heap.size ≤ q) s s.heap) (hZN : vx_Zq Bundle.tN "SUPPRESSED_SENTINEL" Bundle.listD (fun q : Nat => s.heap.size ≤ q) s s.heap) (C0 : lw_At p s m meth c b L xs) (N : Nat) (n : Nat) (ih : ∀ (i : Int32) (S : LSt9) (H : Heap) (locs : List Loc) (cells slots : Nat) (_ : cells + n ≤ 601024) (_ : slots + 6 * n ≤ 7293034) (_ : va_P (dC, dI) vwCl (LW cI cZ cR cJ ad S) H) (_ : va_D (fun q : Nat => s.heap.size ≤ q) (LW cI cZ cR cJ ad S)) (_ : va_S (fun q : Nat => s.heap.size ≤ q) s.heap H locs) (ls : Array Slot) (_ : lv_has ls 7 [(0, .ref b), (1, .ref (ad 0)), (2, .ref (ad 51)), (3, .ref (ad 62)), (4, .int i)]), fL N xs L n i S = some () → W p l e room_1 s m #[Value.ref b] below meth c H locs cells slots (lw_Z below #[Value.ref b] s) (F0 m 23 ls [])) (i : Int32) (S : LSt9) (H : Heap) (locs : List Loc) (cells slots : Nat) (hcl : cells + (n + 1) ≤ 601024) (hsl : slots + 6 * (n + 1) ≤ 7293034) (hP : va_P (dC, dI) vwCl (LW cI cZ cR cJ ad S) H) (hD : va_D (fun q : Nat => s.heap.size ≤ q) (LW cI cZ cR cJ ad S)) (hS : va_S (fun q : Nat => s.heap.size ≤ q) s.heap H locs) (ls : Array Slot) (hl : lv_has ls 7 [(0, .ref b), (1, .ref (ad 0)), (2, .ref (ad 51)), (3, .ref (ad 62)), (4, .int i)]) (hf : fC6 N xs L (fun i S => fL N xs L n i S) i S = some ()) : W p l e room_1 s m #[Value.ref b] below meth c H locs cells slots (lw_Z below #[Value.ref b] s) (F0 m 474 ls []) := by
  obtain ⟨hx, hb, hr, hml, hown, hts, hX, hbl, hlocks, hgv⟩ := C0
  have hown : s.vm.findClass RL = some m.cls := hown
  have hts := fun w h => hts w (wsL_law_in w h)
  have hAz : ∀ q : Nat, s.heap.size ≤ q → (fun q : Nat => s.heap.size ≤ q) q := fun _ h => h
  have hbA : ¬ (fun q : Nat => s.heap.size ≤ q) b := Nat.not_le.mpr hbl
  have hK := hG.1
  unfold fC6 at hf
  refine lv_aload_n hx hb dL_law_474 rfl (lv_at hl 1 rfl) ?_
  refine lv_aload_n hx hb dL_law_475 rfl (lv_at hl 0 rfl) ?_
  refine lv_iload hx hb dL_law_476 (lv_at hl 4 rfl) ?_
  refine lv_iconst (v := (1 : Int32)) hx hb dL_law_478 (by decide) ?_
  refine lv_iadd hx hb dL_law_479 ?_
  have hi1 := (gd_some hf).1
  replace hf := (gd_some hf).2
  refine va_sld hx hb hX hbl hbA hS hi1 dL_law_480 ?_
  refine lv_aload_n hx hb dL_law_481 rfl (lv_at hl 0 rfl) ?_
  refine lv_iload hx hb dL_law_482 (lv_at hl 4 rfl) ?_
  refine lv_iconst (v := (2 : Int32)) hx hb dL_law_484 (by decide) ?_
  refine lv_iadd hx hb dL_law_485 ?_
  have hi2 := (gd_some hf).1
  replace hf := (gd_some hf).2
  refine va_sld hx hb hX hbl hbA hS hi2 dL_law_486 ?_
  refine lv_aload_n hx hb dL_law_487 rfl (lv_at hl 0 rfl) ?_
  refine lv_iload hx hb dL_law_488 (lv_at hl 4 rfl) ?_
  refine lv_iconst (v := (3 : Int32)) hx hb dL_law_490 (by decide) ?_
  refine lv_iadd hx hb dL_law_491 ?_
  have hi3 := (gd_some hf).1
  replace hf := (gd_some hf).2
  refine va_sld hx hb hX hbl hbA hS hi3 dL_law_492 ?_
  refine lv_aload_n hx hb dL_law_493 rfl (lv_at hl 3 rfl) ?_
  obtain ⟨o4, ho4, hf⟩ := Option.bind_eq_some_iff.mp hf
  have hFc := hF_all hD hS hAz
  refine va_calli (vx_runSW (As := [.ref (ad 0), .int (xs (i + (1 : Int32)).toNatClampNeg), .int (xs (i + (2 : Int32)).toNatClampNeg), .int (xs (i + (3 : Int32)).toNatClampNeg), .ref (ad 62)]) (rest := []) ⟨hx, hb, hml, hown, hts⟩ (C_L_wins l hst dC dI cI cZ cR cJ ad S o4.2 (p_1 := xs (i + (1 : Int32)).toNatClampNeg) (p_2 := xs (i + (2 : Int32)).toNatClampNeg) (p_3 := xs (i + (3 : Int32)).toNatClampNeg) (N := N) (sz := H.size) (r0 := o4.1) ho4) (vx_cwSW 5 hts gL_law_L_wins rfl rfl rfl (by decide +kernel) ⟨Nat.le_of_ble_eq_true rfl, Nat.le_of_ble_eq_true rfl⟩) ⟨xr_blind, xr_pre hP hG hD hZU hZN hS hFc⟩ rfl rfl hl.1 rfl (lv_room (Nat.le_of_ble_eq_true rfl)) dL_law_494 ⟨by show _ ≤ 601024; omega, by show _ ≤ 7293034; omega⟩) hS (fun q _ h => hFc q h) hFc (fun r9 u9 t9 H1 locs ht9 hv9 hw9 hB9 hz9 hk9 hS => ?_)
  subst hw9
  rw [ht9] at hB9
  have hP := hB9
  have hD : va_D (fun q : Nat => s.heap.size ≤ q) (LW cI cZ cR cJ ad o4.2) := va_D_fst hD rfl
  generalize H1 = H at hP hS ⊢
  clear hFc hB9 hz9 hk9 hv9 ht9
  refine lv_istore (lv' := [(5, .int o4.1), (0, .ref b), (1, .ref (ad 0)), (2, .ref (ad 51)), (3, .ref (ad 62)), (4, .int i)]) hx hb dL_law_497 hl (by decide) rfl (fun ls hl => ?_)
  refine lv_aload_n hx hb dL_law_499 rfl (lv_at hl 3 rfl) ?_
  refine lv_aload_n hx hb dL_law_500 rfl (lv_at hl 1 rfl) ?_
  refine lv_iload hx hb dL_law_501 (lv_at hl 5 rfl) ?_
  refine lv_iconst (v := (1 : Int32)) hx hb dL_law_503 (by decide) ?_
  refine lv_iadd hx hb dL_law_504 ?_
  have hi5 := (gd_some hf).1
  replace hf := (gd_some hf).2
  refine va_sld hx hb hX hbl hbA hS hi5 dL_law_505 ?_
  refine lv_aload_n hx hb dL_law_506 rfl (lv_at hl 1 rfl) ?_
  refine lv_iload hx hb dL_law_507 (lv_at hl 5 rfl) ?_
  refine lv_iconst (v := (2 : Int32)) hx hb dL_law_509 (by decide) ?_
  refine lv_iadd hx hb dL_law_510 ?_
  have hi6 := (gd_some hf).1
  replace hf := (gd_some hf).2
  refine va_sld hx hb hX hbl hbA hS hi6 dL_law_511 ?_
  refine lv_aload_n hx hb dL_law_512 rfl (lv_at hl 1 rfl) ?_
  refine lv_iload hx hb dL_law_513 (lv_at hl 5 rfl) ?_
  refine lv_iconst (v := (3 : Int32)) hx hb dL_law_515 (by decide) ?_
  refine lv_iadd hx hb dL_law_516 ?_
  have hi7 := (gd_some hf).1
  replace hf := (gd_some hf).2
  refine va_sld hx hb hX hbl hbA hS hi7 dL_law_517 ?_
  obtain ⟨o8, ho8, hf⟩ := Option.bind_eq_some_iff.mp hf
  have hFc := hF_all hD hS hAz
  refine va_calli (va_runV (As := [.int (xs (i + (1 : Int32)).toNatClampNeg), .int (xs (i + (2 : Int32)).toNatClampNeg), .int (xs (i + (3 : Int32)).toNatClampNeg)]) (rest := []) ⟨hx, hb, hml, hown, hts⟩ (C_X6_wins l dC dI cI cZ cR cJ ad o4.2 o8.2 (p_1 := xs (i + (1 : Int32)).toNatClampNeg) (p_2 := xs (i + (2 : Int32)).toNatClampNeg) (p_3 := xs (i + (3 : Int32)).toNatClampNeg) (N := N) (sz := H.size) (r0 := o8.1) ho8) (cwV 3 hts gL_law_X6_wins rfl rfl rfl (by decide +kernel) ⟨Nat.le_of_ble_eq_true rfl, Nat.le_of_ble_eq_true rfl⟩) ⟨wr_blind, va_recv hK hP (ci := 6) (q0 := 51) rfl rfl, wr_pre hP hG hD⟩ rfl rfl hl.1 rfl (lv_room (Nat.le_of_ble_eq_true rfl)) dL_law_518 ⟨by show _ ≤ 601024; omega, by show _ ≤ 7293034; omega⟩) hS (fun q _ h => hFc q h) hFc (fun r9 u9 t9 H1 locs ht9 hv9 hw9 hB9 hz9 hk9 hS => ?_)
  subst hw9
  rw [ht9] at hB9
  have hP := hB9
  have hD : va_D (fun q : Nat => s.heap.size ≤ q) (LW cI cZ cR cJ ad o8.2) := va_D_fst hD rfl
  generalize H1 = H at hP hS ⊢
  clear hFc hB9 hz9 hk9 hv9 ht9
  refine lv_istore (lv' := [(6, .int o8.1), (5, .int o4.1), (0, .ref b), (1, .ref (ad 0)), (2, .ref (ad 51)), (3, .ref (ad 62)), (4, .int i)]) hx hb dL_law_521 hl (by decide) rfl (fun ls hl => ?_)
  refine lv_aload_n hx hb dL_law_523 rfl (lv_at hl 4 rfl) ?_
  obtain ⟨o9, ho9, hf⟩ := Option.bind_eq_some_iff.mp hf
  refine pcI (va_runV (As := []) (rest := []) ⟨hx, hb, hml, hown, hts⟩ (c_X6_thrown l dC dI cI cZ cR cJ (a_this := ad 51) (a_this_candidates := ad 52) (a_this_winners := ad 53) (a_this_boxOf := ad 54) (a_this_word := ad 55) (a_this_drawn := ad 56) (a_this_isLost := ad 57) (a_this_hasRead := ad 58) (a_this_hand := ad 59) (a_this_votes := ad 60) (a_this_isWinner := ad 61) (v_this_thrown := o8.2.1 32) (v_this_races := o8.2.1 33) (v_this_boxes := o8.2.1 34) (v_this_papers := o8.2.1 35) (v_this_draws := o8.2.1 36) (v_this_isSealed := o8.2.1 37) (v_this_state := o8.2.2.2.2.1) (v_this_margin := o8.2.1 38) (v_this_having := o8.2.1 39) (v_this_x := o8.2.1 40) (v_this_m := o8.2.1 41) (v_this_took := o8.2.1 42) (N := N) (r0 := o9) ho9) (cwV 0 hts gL_law_X6_thrown rfl rfl rfl (by decide +kernel) ⟨Nat.le_of_ble_eq_true rfl, Nat.le_of_ble_eq_true rfl⟩) ⟨rd_blind, va_recv hK hP (ci := 6) (q0 := 51) rfl rfl, rd_pre (hP.sub [51] rfl) hG⟩ rfl rfl hl.1 rfl (lv_room (Nat.le_of_ble_eq_true rfl)) dL_law_524 ⟨by show _ ≤ 601024; omega, by show _ ≤ 7293034; omega⟩) ?_
  refine lv_iload hx hb dL_law_527 (lv_at hl 1 rfl) ?_
  refine lv_icmp_eq (tgt := 534) hx hb dL_law_529 (by decide) (fun hc => ?_) (fun hc => ?_)
  · replace hf := (if_pos hc).symm.trans hf
    refine lv_iload hx hb dL_law_534 (lv_at hl 1 rfl) ?_
    refine lv_if_ne (tgt := 558) hx hb dL_law_536 (by decide) (fun hc => ?_) (fun hc => ?_)
    · replace hf := (if_neg hc).symm.trans hf
      refine lv_goto (tgt := 1269) hx hb dL_law_558 (by decide) ?_
      refine lv_iinc (v := i + (4 : Int32)) (lv' := [(4, .int (i + (4 : Int32))), (6, .int o8.1), (5, .int o4.1), (0, .ref b), (1, .ref (ad 0)), (2, .ref (ad 51)), (3, .ref (ad 62))]) hx hb dL_law_1269 hl (k := 6) rfl rfl (by decide) rfl (fun ls hl => ?_)
      refine lv_goto (tgt := 23) hx hb dL_law_1272 (by decide) ?_
      exact ih (i + (4 : Int32)) o8.2 H locs _ _ (by omega) (by omega) hP hD hS ls (lv_sub hl [3, 4, 5, 6, 0] rfl) hf
    · replace hf := (if_pos hc).symm.trans hf
      refine lv_aload_n hx hb dL_law_539 rfl (lv_at hl 5 rfl) ?_
      refine lv_iconst (v := (0 : Int32)) hx hb dL_law_540 (by decide) ?_
      refine va_lald hx hb hK hP 62 3 rfl rfl (show vp_in (0 : Int32) 1 by unfold vp_in; decide) dL_law_541 ?_
      refine lv_iload hx hb dL_law_542 (lv_at hl 0 rfl) ?_
      refine lv_if_eq (tgt := 551) hx hb dL_law_544 (by decide) (fun hc => ?_) (fun hc => ?_)
      · replace hf := (if_pos hc).symm.trans hf
        refine lv_lconst (v := (0 : Int64)) hx hb dL_law_551 (by decide) ?_
        refine W.lcmp hx hb dL_law_552 ?_
        refine lv_if_eq (tgt := 558) hx hb dL_law_553 (by decide) (fun hc => ?_) (fun hc => ?_)
        · replace hf := (if_pos hc).symm.trans hf
          refine lv_goto (tgt := 1269) hx hb dL_law_558 (by decide) ?_
          refine lv_iinc (v := i + (4 : Int32)) (lv' := [(4, .int (i + (4 : Int32))), (6, .int o8.1), (5, .int o4.1), (0, .ref b), (1, .ref (ad 0)), (2, .ref (ad 51)), (3, .ref (ad 62))]) hx hb dL_law_1269 hl (k := 6) rfl rfl (by decide) rfl (fun ls hl => ?_)
          refine lv_goto (tgt := 23) hx hb dL_law_1272 (by decide) ?_
          exact ih (i + (4 : Int32)) o8.2 H locs _ _ (by omega) (by omega) hP hD hS ls (lv_sub hl [3, 4, 5, 6, 0] rfl) hf
        · replace hf := (if_neg hc).symm.trans hf
          refine lv_iconst (v := (0 : Int32)) hx hb dL_law_556 (by decide) ?_
          cases hf
      · replace hf := (if_neg hc).symm.trans hf
        refine lv_lconst (v := (1 : Int64)) hx hb dL_law_547 (by decide) ?_
        refine lv_goto (tgt := 552) hx hb dL_law_548 (by decide) ?_
        refine W.lcmp hx hb dL_law_552 ?_
        refine lv_if_eq (tgt := 558) hx hb dL_law_553 (by decide) (fun hc => ?_) (fun hc => ?_)
        · replace hf := (if_pos hc).symm.trans hf
          refine lv_goto (tgt := 1269) hx hb dL_law_558 (by decide) ?_
          refine lv_iinc (v := i + (4 : Int32)) (lv' := [(4, .int (i + (4 : Int32))), (6, .int o8.1), (5, .int o4.1), (0, .ref b), (1, .ref (ad 0)), (2, .ref (ad 51)), (3, .ref (ad 62))]) hx hb dL_law_1269 hl (k := 6) rfl rfl (by decide) rfl (fun ls hl => ?_)
          refine lv_goto (tgt := 23) hx hb dL_law_1272 (by decide) ?_
          exact ih (i + (4 : Int32)) o8.2 H locs _ _ (by omega) (by omega) hP hD hS ls (lv_sub hl [3, 4, 5, 6, 0] rfl) hf
        · replace hf := (if_neg hc).symm.trans hf
          refine lv_iconst (v := (0 : Int32)) hx hb dL_law_556 (by decide) ?_
          cases hf
  · replace hf := (if_neg hc).symm.trans hf
    refine lv_iconst (v := (0 : Int32)) hx hb dL_law_532 (by decide) ?_
    cases hf
set_option maxHeartbeats 4000000 in
set_option maxRecDepth 100000 in
theorem law_case7 {p : Program} {l : Launch} {e : Env} {s : State} {m : MethodId} {below : List Frame} {meth : Method} {c : Code} {b L : Nat} {xs : Nat → Int32} {ad : Nat → Nat} (hL : L ≤ 2048) (hst : l.stackTraces = false) (dC : Nat → ClassId) (dI : Nat → Nat → Nat) (cI cZ cR cJ : ClassId) (hG : GG dC dI cI cZ cR cJ s) (hZU : vx_Zq Bundle.tN "UNASSIGNED_STACK" Bundle.steD (fun q : Nat => s.heap.size ≤ q) s s.heap) (hZN : vx_Zq Bundle.tN "SUPPRESSED_SENTINEL" Bundle.listD (fun q : Nat => s.heap.size ≤ q) s s.heap) (C0 : lw_At p s m meth c b L xs) (N : Nat) (n : Nat) (ih : ∀ (i : Int32) (S : LSt9) (H : Heap) (locs : List Loc) (cells slots : Nat) (_ : cells + n ≤ 601024) (_ : slots + 6 * n ≤ 7293034) (_ : va_P (dC, dI) vwCl (LW cI cZ cR cJ ad S) H) (_ : va_D (fun q : Nat => s.heap.size ≤ q) (LW cI cZ cR cJ ad S)) (_ : va_S (fun q : Nat => s.heap.size ≤ q) s.heap H locs) (ls : Array Slot) (_ : lv_has ls 7 [(0, .ref b), (1, .ref (ad 0)), (2, .ref (ad 51)), (3, .ref (ad 62)), (4, .int i)]), fL N xs L n i S = some () → W p l e room_1 s m #[Value.ref b] below meth c H locs cells slots (lw_Z below #[Value.ref b] s) (F0 m 23 ls [])) (i : Int32) (S : LSt9) (H : Heap) (locs : List Loc) (cells slots : Nat) (hcl : cells + (n + 1) ≤ 601024) (hsl : slots + 6 * (n + 1) ≤ 7293034) (hP : va_P (dC, dI) vwCl (LW cI cZ cR cJ ad S) H) (hD : va_D (fun q : Nat => s.heap.size ≤ q) (LW cI cZ cR cJ ad S)) (hS : va_S (fun q : Nat => s.heap.size ≤ q) s.heap H locs) (ls : Array Slot) (hl : lv_has ls 7 [(0, .ref b), (1, .ref (ad 0)), (2, .ref (ad 51)), (3, .ref (ad 62)), (4, .int i)]) (hf : fC7 N xs L (fun i S => fL N xs L n i S) i S = some ()) : W p l e room_1 s m #[Value.ref b] below meth c H locs cells slots (lw_Z below #[Value.ref b] s) (F0 m 561 ls []) := by
  obtain ⟨hx, hb, hr, hml, hown, hts, hX, hbl, hlocks, hgv⟩ := C0
  have hown : s.vm.findClass RL = some m.cls := hown
  have hts := fun w h => hts w (wsL_law_in w h)
  have hAz : ∀ q : Nat, s.heap.size ≤ q → (fun q : Nat => s.heap.size ≤ q) q := fun _ h => h
  have hbA : ¬ (fun q : Nat => s.heap.size ≤ q) b := Nat.not_le.mpr hbl
  have hK := hG.1
  unfold fC7 at hf
  refine lv_aload_n hx hb dL_law_561 rfl (lv_at hl 1 rfl) ?_
  refine lv_aload_n hx hb dL_law_562 rfl (lv_at hl 0 rfl) ?_
  refine lv_iload hx hb dL_law_563 (lv_at hl 4 rfl) ?_
  refine lv_iconst (v := (1 : Int32)) hx hb dL_law_565 (by decide) ?_
  refine lv_iadd hx hb dL_law_566 ?_
  have hi1 := (gd_some hf).1
  replace hf := (gd_some hf).2
  refine va_sld hx hb hX hbl hbA hS hi1 dL_law_567 ?_
  refine lv_aload_n hx hb dL_law_568 rfl (lv_at hl 0 rfl) ?_
  refine lv_iload hx hb dL_law_569 (lv_at hl 4 rfl) ?_
  refine lv_iconst (v := (2 : Int32)) hx hb dL_law_571 (by decide) ?_
  refine lv_iadd hx hb dL_law_572 ?_
  have hi2 := (gd_some hf).1
  replace hf := (gd_some hf).2
  refine va_sld hx hb hX hbl hbA hS hi2 dL_law_573 ?_
  refine lv_aload_n hx hb dL_law_574 rfl (lv_at hl 3 rfl) ?_
  obtain ⟨o3, ho3, hf⟩ := Option.bind_eq_some_iff.mp hf
  have hFc := hF_all hD hS hAz
  refine va_calli (vx_runSW (As := [.ref (ad 0), .int (xs (i + (1 : Int32)).toNatClampNeg), .int (xs (i + (2 : Int32)).toNatClampNeg), .ref (ad 62)]) (rest := []) ⟨hx, hb, hml, hown, hts⟩ (C_L_about l hst dC dI cI cZ cR cJ ad S o3.2 (p_1 := xs (i + (1 : Int32)).toNatClampNeg) (p_2 := xs (i + (2 : Int32)).toNatClampNeg) (N := N) (sz := H.size) (r0 := o3.1) ho3) (vx_cwSW 4 hts gL_law_L_about rfl rfl rfl (by decide +kernel) ⟨Nat.le_of_ble_eq_true rfl, Nat.le_of_ble_eq_true rfl⟩) ⟨xr_blind, xr_pre hP hG hD hZU hZN hS hFc⟩ rfl rfl hl.1 rfl (lv_room (Nat.le_of_ble_eq_true rfl)) dL_law_575 ⟨by show _ ≤ 601024; omega, by show _ ≤ 7293034; omega⟩) hS (fun q _ h => hFc q h) hFc (fun r9 u9 t9 H1 locs ht9 hv9 hw9 hB9 hz9 hk9 hS => ?_)
  subst hw9
  rw [ht9] at hB9
  have hP := hB9
  have hD : va_D (fun q : Nat => s.heap.size ≤ q) (LW cI cZ cR cJ ad o3.2) := va_D_fst hD rfl
  generalize H1 = H at hP hS ⊢
  clear hFc hB9 hz9 hk9 hv9 ht9
  refine lv_istore (lv' := [(5, .int o3.1), (0, .ref b), (1, .ref (ad 0)), (2, .ref (ad 51)), (3, .ref (ad 62)), (4, .int i)]) hx hb dL_law_578 hl (by decide) rfl (fun ls hl => ?_)
  refine lv_aload_n hx hb dL_law_580 rfl (lv_at hl 3 rfl) ?_
  refine lv_aload_n hx hb dL_law_581 rfl (lv_at hl 1 rfl) ?_
  refine lv_iload hx hb dL_law_582 (lv_at hl 5 rfl) ?_
  refine lv_iconst (v := (1 : Int32)) hx hb dL_law_584 (by decide) ?_
  refine lv_iadd hx hb dL_law_585 ?_
  have hi4 := (gd_some hf).1
  replace hf := (gd_some hf).2
  refine va_sld hx hb hX hbl hbA hS hi4 dL_law_586 ?_
  refine lv_aload_n hx hb dL_law_587 rfl (lv_at hl 1 rfl) ?_
  refine lv_iload hx hb dL_law_588 (lv_at hl 5 rfl) ?_
  refine lv_iconst (v := (2 : Int32)) hx hb dL_law_590 (by decide) ?_
  refine lv_iadd hx hb dL_law_591 ?_
  have hi5 := (gd_some hf).1
  replace hf := (gd_some hf).2
  refine va_sld hx hb hX hbl hbA hS hi5 dL_law_592 ?_
  obtain ⟨o6, ho6, hf⟩ := Option.bind_eq_some_iff.mp hf
  have hFc := hF_all hD hS hAz
  refine va_calli (va_runV (As := [.int (xs (i + (1 : Int32)).toNatClampNeg), .int (xs (i + (2 : Int32)).toNatClampNeg)]) (rest := []) ⟨hx, hb, hml, hown, hts⟩ (C_X6_about l dC dI cI cZ cR cJ ad o3.2 o6.2 (p_1 := xs (i + (1 : Int32)).toNatClampNeg) (p_2 := xs (i + (2 : Int32)).toNatClampNeg) (N := N) (sz := H.size) (r0 := o6.1) ho6) (cwV 2 hts gL_law_X6_about rfl rfl rfl (by decide +kernel) ⟨Nat.le_of_ble_eq_true rfl, Nat.le_of_ble_eq_true rfl⟩) ⟨wr_blind, va_recv hK hP (ci := 6) (q0 := 51) rfl rfl, wr_pre hP hG hD⟩ rfl rfl hl.1 rfl (lv_room (Nat.le_of_ble_eq_true rfl)) dL_law_593 ⟨by show _ ≤ 601024; omega, by show _ ≤ 7293034; omega⟩) hS (fun q _ h => hFc q h) hFc (fun r9 u9 t9 H1 locs ht9 hv9 hw9 hB9 hz9 hk9 hS => ?_)
  subst hw9
  rw [ht9] at hB9
  have hP := hB9
  have hD : va_D (fun q : Nat => s.heap.size ≤ q) (LW cI cZ cR cJ ad o6.2) := va_D_fst hD rfl
  generalize H1 = H at hP hS ⊢
  clear hFc hB9 hz9 hk9 hv9 ht9
  refine lv_istore (lv' := [(6, .int o6.1), (5, .int o3.1), (0, .ref b), (1, .ref (ad 0)), (2, .ref (ad 51)), (3, .ref (ad 62)), (4, .int i)]) hx hb dL_law_596 hl (by decide) rfl (fun ls hl => ?_)
  refine lv_aload_n hx hb dL_law_598 rfl (lv_at hl 4 rfl) ?_
  obtain ⟨o7, ho7, hf⟩ := Option.bind_eq_some_iff.mp hf
  refine pcI (va_runV (As := []) (rest := []) ⟨hx, hb, hml, hown, hts⟩ (c_X6_thrown l dC dI cI cZ cR cJ (a_this := ad 51) (a_this_candidates := ad 52) (a_this_winners := ad 53) (a_this_boxOf := ad 54) (a_this_word := ad 55) (a_this_drawn := ad 56) (a_this_isLost := ad 57) (a_this_hasRead := ad 58) (a_this_hand := ad 59) (a_this_votes := ad 60) (a_this_isWinner := ad 61) (v_this_thrown := o6.2.1 32) (v_this_races := o6.2.1 33) (v_this_boxes := o6.2.1 34) (v_this_papers := o6.2.1 35) (v_this_draws := o6.2.1 36) (v_this_isSealed := o6.2.1 37) (v_this_state := o6.2.2.2.2.1) (v_this_margin := o6.2.1 38) (v_this_having := o6.2.1 39) (v_this_x := o6.2.1 40) (v_this_m := o6.2.1 41) (v_this_took := o6.2.1 42) (N := N) (r0 := o7) ho7) (cwV 0 hts gL_law_X6_thrown rfl rfl rfl (by decide +kernel) ⟨Nat.le_of_ble_eq_true rfl, Nat.le_of_ble_eq_true rfl⟩) ⟨rd_blind, va_recv hK hP (ci := 6) (q0 := 51) rfl rfl, rd_pre (hP.sub [51] rfl) hG⟩ rfl rfl hl.1 rfl (lv_room (Nat.le_of_ble_eq_true rfl)) dL_law_599 ⟨by show _ ≤ 601024; omega, by show _ ≤ 7293034; omega⟩) ?_
  refine lv_iload hx hb dL_law_602 (lv_at hl 1 rfl) ?_
  refine lv_icmp_eq (tgt := 609) hx hb dL_law_604 (by decide) (fun hc => ?_) (fun hc => ?_)
  · replace hf := (if_pos hc).symm.trans hf
    refine lv_iload hx hb dL_law_609 (lv_at hl 1 rfl) ?_
    refine lv_if_ne (tgt := 626) hx hb dL_law_611 (by decide) (fun hc => ?_) (fun hc => ?_)
    · replace hf := (if_neg hc).symm.trans hf
      refine lv_goto (tgt := 1269) hx hb dL_law_626 (by decide) ?_
      refine lv_iinc (v := i + (4 : Int32)) (lv' := [(4, .int (i + (4 : Int32))), (6, .int o6.1), (5, .int o3.1), (0, .ref b), (1, .ref (ad 0)), (2, .ref (ad 51)), (3, .ref (ad 62))]) hx hb dL_law_1269 hl (k := 6) rfl rfl (by decide) rfl (fun ls hl => ?_)
      refine lv_goto (tgt := 23) hx hb dL_law_1272 (by decide) ?_
      exact ih (i + (4 : Int32)) o6.2 H locs _ _ (by omega) (by omega) hP hD hS ls (lv_sub hl [3, 4, 5, 6, 0] rfl) hf
    · replace hf := (if_pos hc).symm.trans hf
      refine lv_aload_n hx hb dL_law_614 rfl (lv_at hl 5 rfl) ?_
      refine lv_iconst (v := (0 : Int32)) hx hb dL_law_615 (by decide) ?_
      refine va_lald hx hb hK hP 62 3 rfl rfl (show vp_in (0 : Int32) 1 by unfold vp_in; decide) dL_law_616 ?_
      refine lv_iload hx hb dL_law_617 (lv_at hl 0 rfl) ?_
      refine lv_i2l (v := o6.1.toInt64) hx hb dL_law_619 rfl ?_
      refine W.lcmp hx hb dL_law_620 ?_
      refine lv_if_eq (tgt := 626) hx hb dL_law_621 (by decide) (fun hc => ?_) (fun hc => ?_)
      · replace hf := (if_pos hc).symm.trans hf
        refine lv_goto (tgt := 1269) hx hb dL_law_626 (by decide) ?_
        refine lv_iinc (v := i + (4 : Int32)) (lv' := [(4, .int (i + (4 : Int32))), (6, .int o6.1), (5, .int o3.1), (0, .ref b), (1, .ref (ad 0)), (2, .ref (ad 51)), (3, .ref (ad 62))]) hx hb dL_law_1269 hl (k := 6) rfl rfl (by decide) rfl (fun ls hl => ?_)
        refine lv_goto (tgt := 23) hx hb dL_law_1272 (by decide) ?_
        exact ih (i + (4 : Int32)) o6.2 H locs _ _ (by omega) (by omega) hP hD hS ls (lv_sub hl [3, 4, 5, 6, 0] rfl) hf
      · replace hf := (if_neg hc).symm.trans hf
        refine lv_iconst (v := (0 : Int32)) hx hb dL_law_624 (by decide) ?_
        cases hf
  · replace hf := (if_neg hc).symm.trans hf
    refine lv_iconst (v := (0 : Int32)) hx hb dL_law_607 (by decide) ?_
    cases hf
