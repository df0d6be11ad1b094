set_option maxHeartbeats 4000000 in
set_option maxRecDepth 100000 in
theorem law_case8 {p : Program} {l : Launch} {e : Env} {s : State} {m : MethodId} {below : List Frame} {meth : Method} {c : Code} {b L : Nat} {xs : Nat → Int32} {ad : Nat → Nat} (hL : L ≤ 2048) (hst : l.stackTraces = false) (dC : Nat → ClassId) (dI : Nat → Nat → Nat) (cI cZ cR cJ : ClassId) (hG : GG dC dI cI cZ cR cJ s) (hZU : vx_Zq Bundle.tN "UNASSIGNED_STACK" Bundle.steD (fun q : Nat => s.heap.size ≤ q) s s.heap) (hZN : vx_Zq Bundle.tN "SUPPRESSED_SENTINEL" Bundle.listD (fun q : Nat => s.heap.size ≤ q) s s.heap) (C0 : lw_At p s m meth c b L xs) (N : Nat) (n : Nat) (ih : ∀ (i : Int32) (S : LSt9) (H : Heap) (locs : List Loc) (cells slots : Nat) (_ : cells + n ≤ 601024) (_ : slots + 6 * n ≤ 7293034) (_ : va_P (dC, dI) vwCl (LW cI cZ cR cJ ad S) H) (_ : va_D (fun q : Nat => s.heap.size ≤ q) (LW cI cZ cR cJ ad S)) (_ : va_S (fun q : Nat => s.heap.size ≤ q) s.heap H locs) (ls : Array Slot) (_ : lv_has ls 7 [(0, .ref b), (1, .ref (ad 0)), (2, .ref (ad 51)), (3, .ref (ad 62)), (4, .int i)]), fL N xs L n i S = some () → W p l e room_1 s m #[Value.ref b] below meth c H locs cells slots (lw_Z below #[Value.ref b] s) (F0 m 23 ls [])) (i : Int32) (S : LSt9) (H : Heap) (locs : List Loc) (cells slots : Nat) (hcl : cells + (n + 1) ≤ 601024) (hsl : slots + 6 * (n + 1) ≤ 7293034) (hP : va_P (dC, dI) vwCl (LW cI cZ cR cJ ad S) H) (hD : va_D (fun q : Nat => s.heap.size ≤ q) (LW cI cZ cR cJ ad S)) (hS : va_S (fun q : Nat => s.heap.size ≤ q) s.heap H locs) (ls : Array Slot) (hl : lv_has ls 7 [(0, .ref b), (1, .ref (ad 0)), (2, .ref (ad 51)), (3, .ref (ad 62)), (4, .int i)]) (hf : fC8 N xs L (fun i S => fL N xs L n i S) i S = some ()) : W p l e room_1 s m #[Value.ref b] below meth c H locs cells slots (lw_Z below #[Value.ref b] s) (F0 m 629 ls []) := by
  obtain ⟨hx, hb, hr, hml, hown, hts, hX, hbl, hlocks, hgv⟩ := C0
  have hown : s.vm.findClass RL = some m.cls := hown
  have hts := fun w h => hts w (wsL_law_in w h)
  have hAz : ∀ q : Nat, s.heap.size ≤ q → (fun q : Nat => s.heap.size ≤ q) q := fun _ h => h
  have hbA : ¬ (fun q : Nat => s.heap.size ≤ q) b := Nat.not_le.mpr hbl
  have hK := hG.1
  unfold fC8 at hf
  refine lv_aload_n hx hb dL_law_629 rfl (lv_at hl 1 rfl) ?_
  refine lv_aload_n hx hb dL_law_630 rfl (lv_at hl 0 rfl) ?_
  refine lv_iload hx hb dL_law_631 (lv_at hl 4 rfl) ?_
  refine lv_iconst (v := (1 : Int32)) hx hb dL_law_633 (by decide) ?_
  refine lv_iadd hx hb dL_law_634 ?_
  have hi1 := (gd_some hf).1
  replace hf := (gd_some hf).2
  refine va_sld hx hb hX hbl hbA hS hi1 dL_law_635 ?_
  refine lv_aload_n hx hb dL_law_636 rfl (lv_at hl 3 rfl) ?_
  obtain ⟨o2, ho2, hf⟩ := Option.bind_eq_some_iff.mp hf
  have hFc := hF_all hD hS hAz
  refine va_calli (vx_runSW (As := [.ref (ad 0), .int (xs (i + (1 : Int32)).toNatClampNeg), .ref (ad 62)]) (rest := []) ⟨hx, hb, hml, hown, hts⟩ (C_L_draw l hst dC dI cI cZ cR cJ ad S o2.2 (p_1 := xs (i + (1 : Int32)).toNatClampNeg) (N := N) (sz := H.size) (r0 := o2.1) ho2) (vx_cwSW 3 hts gL_law_L_draw rfl rfl rfl (by decide +kernel) ⟨Nat.le_of_ble_eq_true rfl, Nat.le_of_ble_eq_true rfl⟩) ⟨xr_blind, xr_pre hP hG hD hZU hZN hS hFc⟩ rfl rfl hl.1 rfl (lv_room (Nat.le_of_ble_eq_true rfl)) dL_law_637 ⟨by show _ ≤ 601024; omega, by show _ ≤ 7293034; omega⟩) hS (fun q _ h => hFc q h) hFc (fun r9 u9 t9 H1 locs ht9 hv9 hw9 hB9 hz9 hk9 hS => ?_)
  subst hw9
  rw [ht9] at hB9
  have hP := hB9
  have hD : va_D (fun q : Nat => s.heap.size ≤ q) (LW cI cZ cR cJ ad o2.2) := va_D_fst hD rfl
  generalize H1 = H at hP hS ⊢
  clear hFc hB9 hz9 hk9 hv9 ht9
  refine lv_istore (lv' := [(5, .int o2.1), (0, .ref b), (1, .ref (ad 0)), (2, .ref (ad 51)), (3, .ref (ad 62)), (4, .int i)]) hx hb dL_law_640 hl (by decide) rfl (fun ls hl => ?_)
  refine lv_aload_n hx hb dL_law_642 rfl (lv_at hl 3 rfl) ?_
  refine lv_aload_n hx hb dL_law_643 rfl (lv_at hl 1 rfl) ?_
  refine lv_iload hx hb dL_law_644 (lv_at hl 5 rfl) ?_
  refine lv_iconst (v := (1 : Int32)) hx hb dL_law_646 (by decide) ?_
  refine lv_iadd hx hb dL_law_647 ?_
  have hi3 := (gd_some hf).1
  replace hf := (gd_some hf).2
  refine va_sld hx hb hX hbl hbA hS hi3 dL_law_648 ?_
  obtain ⟨o4, ho4, hf⟩ := Option.bind_eq_some_iff.mp hf
  have hFc := hF_all hD hS hAz
  refine va_calli (va_runV (As := [.int (xs (i + (1 : Int32)).toNatClampNeg)]) (rest := []) ⟨hx, hb, hml, hown, hts⟩ (C_X6_draw l dC dI cI cZ cR cJ ad o2.2 o4.2 (p_1 := xs (i + (1 : Int32)).toNatClampNeg) (N := N) (sz := H.size) (r0 := o4.1) ho4) (cwV 1 hts gL_law_X6_draw rfl rfl rfl (by decide +kernel) ⟨Nat.le_of_ble_eq_true rfl, Nat.le_of_ble_eq_true rfl⟩) ⟨wr_blind, va_recv hK hP (ci := 6) (q0 := 51) rfl rfl, wr_pre hP hG hD⟩ rfl rfl hl.1 rfl (lv_room (Nat.le_of_ble_eq_true rfl)) dL_law_649 ⟨by show _ ≤ 601024; omega, by show _ ≤ 7293034; omega⟩) hS (fun q _ h => hFc q h) hFc (fun r9 u9 t9 H1 locs ht9 hv9 hw9 hB9 hz9 hk9 hS => ?_)
  subst hw9
  rw [ht9] at hB9
  have hP := hB9
  have hD : va_D (fun q : Nat => s.heap.size ≤ q) (LW cI cZ cR cJ ad o4.2) := va_D_fst hD rfl
  generalize H1 = H at hP hS ⊢
  clear hFc hB9 hz9 hk9 hv9 ht9
  refine lv_istore (lv' := [(6, .int o4.1), (5, .int o2.1), (0, .ref b), (1, .ref (ad 0)), (2, .ref (ad 51)), (3, .ref (ad 62)), (4, .int i)]) hx hb dL_law_652 hl (by decide) rfl (fun ls hl => ?_)
  refine lv_aload_n hx hb dL_law_654 rfl (lv_at hl 4 rfl) ?_
  obtain ⟨o5, ho5, hf⟩ := Option.bind_eq_some_iff.mp hf
  refine pcI (va_runV (As := []) (rest := []) ⟨hx, hb, hml, hown, hts⟩ (c_X6_thrown l dC dI cI cZ cR cJ (a_this := ad 51) (a_this_candidates := ad 52) (a_this_winners := ad 53) (a_this_boxOf := ad 54) (a_this_word := ad 55) (a_this_drawn := ad 56) (a_this_isLost := ad 57) (a_this_hasRead := ad 58) (a_this_hand := ad 59) (a_this_votes := ad 60) (a_this_isWinner := ad 61) (v_this_thrown := o4.2.1 32) (v_this_races := o4.2.1 33) (v_this_boxes := o4.2.1 34) (v_this_papers := o4.2.1 35) (v_this_draws := o4.2.1 36) (v_this_isSealed := o4.2.1 37) (v_this_state := o4.2.2.2.2.1) (v_this_margin := o4.2.1 38) (v_this_having := o4.2.1 39) (v_this_x := o4.2.1 40) (v_this_m := o4.2.1 41) (v_this_took := o4.2.1 42) (N := N) (r0 := o5) ho5) (cwV 0 hts gL_law_X6_thrown rfl rfl rfl (by decide +kernel) ⟨Nat.le_of_ble_eq_true rfl, Nat.le_of_ble_eq_true rfl⟩) ⟨rd_blind, va_recv hK hP (ci := 6) (q0 := 51) rfl rfl, rd_pre (hP.sub [51] rfl) hG⟩ rfl rfl hl.1 rfl (lv_room (Nat.le_of_ble_eq_true rfl)) dL_law_655 ⟨by show _ ≤ 601024; omega, by show _ ≤ 7293034; omega⟩) ?_
  refine lv_iload hx hb dL_law_658 (lv_at hl 1 rfl) ?_
  refine lv_icmp_eq (tgt := 665) hx hb dL_law_660 (by decide) (fun hc => ?_) (fun hc => ?_)
  · replace hf := (if_pos hc).symm.trans hf
    refine lv_iload hx hb dL_law_665 (lv_at hl 1 rfl) ?_
    refine lv_if_ne (tgt := 682) hx hb dL_law_667 (by decide) (fun hc => ?_) (fun hc => ?_)
    · replace hf := (if_neg hc).symm.trans hf
      refine lv_goto (tgt := 1269) hx hb dL_law_682 (by decide) ?_
      refine lv_iinc (v := i + (4 : Int32)) (lv' := [(4, .int (i + (4 : Int32))), (6, .int o4.1), (5, .int o2.1), (0, .ref b), (1, .ref (ad 0)), (2, .ref (ad 51)), (3, .ref (ad 62))]) hx hb dL_law_1269 hl (k := 6) rfl rfl (by decide) rfl (fun ls hl => ?_)
      refine lv_goto (tgt := 23) hx hb dL_law_1272 (by decide) ?_
      exact ih (i + (4 : Int32)) o4.2 H locs _ _ (by omega) (by omega) hP hD hS ls (lv_sub hl [3, 4, 5, 6, 0] rfl) hf
    · replace hf := (if_pos hc).symm.trans hf
      refine lv_aload_n hx hb dL_law_670 rfl (lv_at hl 5 rfl) ?_
      refine lv_iconst (v := (0 : Int32)) hx hb dL_law_671 (by decide) ?_
      refine va_lald hx hb hK hP 62 3 rfl rfl (show vp_in (0 : Int32) 1 by unfold vp_in; decide) dL_law_672 ?_
      refine lv_iload hx hb dL_law_673 (lv_at hl 0 rfl) ?_
      refine lv_i2l (v := o4.1.toInt64) hx hb dL_law_675 rfl ?_
      refine W.lcmp hx hb dL_law_676 ?_
      refine lv_if_eq (tgt := 682) hx hb dL_law_677 (by decide) (fun hc => ?_) (fun hc => ?_)
      · replace hf := (if_pos hc).symm.trans hf
        refine lv_goto (tgt := 1269) hx hb dL_law_682 (by decide) ?_
        refine lv_iinc (v := i + (4 : Int32)) (lv' := [(4, .int (i + (4 : Int32))), (6, .int o4.1), (5, .int o2.1), (0, .ref b), (1, .ref (ad 0)), (2, .ref (ad 51)), (3, .ref (ad 62))]) hx hb dL_law_1269 hl (k := 6) rfl rfl (by decide) rfl (fun ls hl => ?_)
        refine lv_goto (tgt := 23) hx hb dL_law_1272 (by decide) ?_
        exact ih (i + (4 : Int32)) o4.2 H locs _ _ (by omega) (by omega) hP hD hS ls (lv_sub hl [3, 4, 5, 6, 0] rfl) hf
      · replace hf := (if_neg hc).symm.trans hf
        refine lv_iconst (v := (0 : Int32)) hx hb dL_law_680 (by decide) ?_
        cases hf
  · replace hf := (if_neg hc).symm.trans hf
    refine lv_iconst (v := (0 : Int32)) hx hb dL_law_663 (by decide) ?_
    cases hf
set_option maxHeartbeats 4000000 in
set_option maxRecDepth 100000 in
theorem law_case9 {p : Program} {l : Launch} {e : Env} {s : State} {m : MethodId} {below : List Frame} {meth : Method} {c : Code} {b L : Nat} {xs : Nat → Int32} {ad : Nat → Nat} (hL : L ≤ 2048) (hst : l.stackTraces = false) (dC : Nat → ClassId) (dI : Nat → Nat → Nat) (cI cZ cR cJ : ClassId) (hG : GG dC dI cI cZ cR cJ s) (hZU : vx_Zq Bundle.tN "UNASSIGNED_STACK" Bundle.steD (fun q : Nat => s.heap.size ≤ q) s s.heap) (hZN : vx_Zq Bundle.tN "SUPPRESSED_SENTINEL" Bundle.listD (fun q : Nat => s.heap.size ≤ q) s s.heap) (C0 : lw_At p s m meth c b L xs) (N : Nat) (n : Nat) (ih : ∀ (i : Int32) (S : LSt9) (H : Heap) (locs : List Loc) (cells slots : Nat) (_ : cells + n ≤ 601024) (_ : slots + 6 * n ≤ 7293034) (_ : va_P (dC, dI) vwCl (LW cI cZ cR cJ ad S) H) (_ : va_D (fun q : Nat => s.heap.size ≤ q) (LW cI cZ cR cJ ad S)) (_ : va_S (fun q : Nat => s.heap.size ≤ q) s.heap H locs) (ls : Array Slot) (_ : lv_has ls 7 [(0, .ref b), (1, .ref (ad 0)), (2, .ref (ad 51)), (3, .ref (ad 62)), (4, .int i)]), fL N xs L n i S = some () → W p l e room_1 s m #[Value.ref b] below meth c H locs cells slots (lw_Z below #[Value.ref b] s) (F0 m 23 ls [])) (i : Int32) (S : LSt9) (H : Heap) (locs : List Loc) (cells slots : Nat) (hcl : cells + (n + 1) ≤ 601024) (hsl : slots + 6 * (n + 1) ≤ 7293034) (hP : va_P (dC, dI) vwCl (LW cI cZ cR cJ ad S) H) (hD : va_D (fun q : Nat => s.heap.size ≤ q) (LW cI cZ cR cJ ad S)) (hS : va_S (fun q : Nat => s.heap.size ≤ q) s.heap H locs) (ls : Array Slot) (hl : lv_has ls 7 [(0, .ref b), (1, .ref (ad 0)), (2, .ref (ad 51)), (3, .ref (ad 62)), (4, .int i)]) (hf : fC9 N xs L (fun i S => fL N xs L n i S) i S = some ()) : W p l e room_1 s m #[Value.ref b] below meth c H locs cells slots (lw_Z below #[Value.ref b] s) (F0 m 685 ls []) := by
  obtain ⟨hx, hb, hr, hml, hown, hts, hX, hbl, hlocks, hgv⟩ := C0
  have hown : s.vm.findClass RL = some m.cls := hown
  have hts := fun w h => hts w (wsL_law_in w h)
  have hAz : ∀ q : Nat, s.heap.size ≤ q → (fun q : Nat => s.heap.size ≤ q) q := fun _ h => h
  have hbA : ¬ (fun q : Nat => s.heap.size ≤ q) b := Nat.not_le.mpr hbl
  have hK := hG.1
  unfold fC9 at hf
  refine lv_aload_n hx hb dL_law_685 rfl (lv_at hl 1 rfl) ?_
  refine lv_aload_n hx hb dL_law_686 rfl (lv_at hl 0 rfl) ?_
  refine lv_iload hx hb dL_law_687 (lv_at hl 4 rfl) ?_
  refine lv_iconst (v := (1 : Int32)) hx hb dL_law_689 (by decide) ?_
  refine lv_iadd hx hb dL_law_690 ?_
  have hi1 := (gd_some hf).1
  replace hf := (gd_some hf).2
  refine va_sld hx hb hX hbl hbA hS hi1 dL_law_691 ?_
  refine lv_aload_n hx hb dL_law_692 rfl (lv_at hl 3 rfl) ?_
  obtain ⟨o2, ho2, hf⟩ := Option.bind_eq_some_iff.mp hf
  have hFc := hF_all hD hS hAz
  refine va_calli (vx_runSW (As := [.ref (ad 0), .int (xs (i + (1 : Int32)).toNatClampNeg), .ref (ad 62)]) (rest := []) ⟨hx, hb, hml, hown, hts⟩ (C_L_drawn l hst dC dI cI cZ cR cJ ad S o2.2 (p_1 := xs (i + (1 : Int32)).toNatClampNeg) (N := N) (sz := H.size) (r0 := o2.1) ho2) (vx_cwSW 3 hts gL_law_L_drawn rfl rfl rfl (by decide +kernel) ⟨Nat.le_of_ble_eq_true rfl, Nat.le_of_ble_eq_true rfl⟩) ⟨xr_blind, xr_pre hP hG hD hZU hZN hS hFc⟩ rfl rfl hl.1 rfl (lv_room (Nat.le_of_ble_eq_true rfl)) dL_law_693 ⟨by show _ ≤ 601024; omega, by show _ ≤ 7293034; omega⟩) hS (fun q _ h => hFc q h) hFc (fun r9 u9 t9 H1 locs ht9 hv9 hw9 hB9 hz9 hk9 hS => ?_)
  subst hw9
  rw [ht9] at hB9
  have hP := hB9
  have hD : va_D (fun q : Nat => s.heap.size ≤ q) (LW cI cZ cR cJ ad o2.2) := va_D_fst hD rfl
  generalize H1 = H at hP hS ⊢
  clear hFc hB9 hz9 hk9 hv9 ht9
  refine lv_istore (lv' := [(5, .int o2.1), (0, .ref b), (1, .ref (ad 0)), (2, .ref (ad 51)), (3, .ref (ad 62)), (4, .int i)]) hx hb dL_law_696 hl (by decide) rfl (fun ls hl => ?_)
  refine lv_aload_n hx hb dL_law_698 rfl (lv_at hl 3 rfl) ?_
  refine lv_aload_n hx hb dL_law_699 rfl (lv_at hl 1 rfl) ?_
  refine lv_iload hx hb dL_law_700 (lv_at hl 5 rfl) ?_
  refine lv_iconst (v := (1 : Int32)) hx hb dL_law_702 (by decide) ?_
  refine lv_iadd hx hb dL_law_703 ?_
  have hi3 := (gd_some hf).1
  replace hf := (gd_some hf).2
  refine va_sld hx hb hX hbl hbA hS hi3 dL_law_704 ?_
  obtain ⟨o4, ho4, hf⟩ := Option.bind_eq_some_iff.mp hf
  have hFc := hF_all hD hS hAz
  refine va_calli (va_runV (As := [.int (xs (i + (1 : Int32)).toNatClampNeg)]) (rest := []) ⟨hx, hb, hml, hown, hts⟩ (C_X6_drawn l dC dI cI cZ cR cJ ad o2.2 o4.2 (p_1 := xs (i + (1 : Int32)).toNatClampNeg) (N := N) (sz := H.size) (r0 := o4.1) ho4) (cwV 1 hts gL_law_X6_drawn rfl rfl rfl (by decide +kernel) ⟨Nat.le_of_ble_eq_true rfl, Nat.le_of_ble_eq_true rfl⟩) ⟨wr_blind, va_recv hK hP (ci := 6) (q0 := 51) rfl rfl, wr_pre hP hG hD⟩ rfl rfl hl.1 rfl (lv_room (Nat.le_of_ble_eq_true rfl)) dL_law_705 ⟨by show _ ≤ 601024; omega, by show _ ≤ 7293034; omega⟩) hS (fun q _ h => hFc q h) hFc (fun r9 u9 t9 H1 locs ht9 hv9 hw9 hB9 hz9 hk9 hS => ?_)
  subst hw9
  rw [ht9] at hB9
  have hP := hB9
  have hD : va_D (fun q : Nat => s.heap.size ≤ q) (LW cI cZ cR cJ ad o4.2) := va_D_fst hD rfl
  generalize H1 = H at hP hS ⊢
  clear hFc hB9 hz9 hk9 hv9 ht9
  refine lv_istore (lv' := [(6, .int o4.1), (5, .int o2.1), (0, .ref b), (1, .ref (ad 0)), (2, .ref (ad 51)), (3, .ref (ad 62)), (4, .int i)]) hx hb dL_law_708 hl (by decide) rfl (fun ls hl => ?_)
  refine lv_aload_n hx hb dL_law_710 rfl (lv_at hl 4 rfl) ?_
  obtain ⟨o5, ho5, hf⟩ := Option.bind_eq_some_iff.mp hf
  refine pcI (va_runV (As := []) (rest := []) ⟨hx, hb, hml, hown, hts⟩ (c_X6_thrown l dC dI cI cZ cR cJ (a_this := ad 51) (a_this_candidates := ad 52) (a_this_winners := ad 53) (a_this_boxOf := ad 54) (a_this_word := ad 55) (a_this_drawn := ad 56) (a_this_isLost := ad 57) (a_this_hasRead := ad 58) (a_this_hand := ad 59) (a_this_votes := ad 60) (a_this_isWinner := ad 61) (v_this_thrown := o4.2.1 32) (v_this_races := o4.2.1 33) (v_this_boxes := o4.2.1 34) (v_this_papers := o4.2.1 35) (v_this_draws := o4.2.1 36) (v_this_isSealed := o4.2.1 37) (v_this_state := o4.2.2.2.2.1) (v_this_margin := o4.2.1 38) (v_this_having := o4.2.1 39) (v_this_x := o4.2.1 40) (v_this_m := o4.2.1 41) (v_this_took := o4.2.1 42) (N := N) (r0 := o5) ho5) (cwV 0 hts gL_law_X6_thrown rfl rfl rfl (by decide +kernel) ⟨Nat.le_of_ble_eq_true rfl, Nat.le_of_ble_eq_true rfl⟩) ⟨rd_blind, va_recv hK hP (ci := 6) (q0 := 51) rfl rfl, rd_pre (hP.sub [51] rfl) hG⟩ rfl rfl hl.1 rfl (lv_room (Nat.le_of_ble_eq_true rfl)) dL_law_711 ⟨by show _ ≤ 601024; omega, by show _ ≤ 7293034; omega⟩) ?_
  refine lv_iload hx hb dL_law_714 (lv_at hl 1 rfl) ?_
  refine lv_icmp_eq (tgt := 721) hx hb dL_law_716 (by decide) (fun hc => ?_) (fun hc => ?_)
  · replace hf := (if_pos hc).symm.trans hf
    refine lv_iload hx hb dL_law_721 (lv_at hl 1 rfl) ?_
    refine lv_if_ne (tgt := 738) hx hb dL_law_723 (by decide) (fun hc => ?_) (fun hc => ?_)
    · replace hf := (if_neg hc).symm.trans hf
      refine lv_goto (tgt := 1269) hx hb dL_law_738 (by decide) ?_
      refine lv_iinc (v := i + (4 : Int32)) (lv' := [(4, .int (i + (4 : Int32))), (6, .int o4.1), (5, .int o2.1), (0, .ref b), (1, .ref (ad 0)), (2, .ref (ad 51)), (3, .ref (ad 62))]) hx hb dL_law_1269 hl (k := 6) rfl rfl (by decide) rfl (fun ls hl => ?_)
      refine lv_goto (tgt := 23) hx hb dL_law_1272 (by decide) ?_
      exact ih (i + (4 : Int32)) o4.2 H locs _ _ (by omega) (by omega) hP hD hS ls (lv_sub hl [3, 4, 5, 6, 0] rfl) hf
    · replace hf := (if_pos hc).symm.trans hf
      refine lv_aload_n hx hb dL_law_726 rfl (lv_at hl 5 rfl) ?_
      refine lv_iconst (v := (0 : Int32)) hx hb dL_law_727 (by decide) ?_
      refine va_lald hx hb hK hP 62 3 rfl rfl (show vp_in (0 : Int32) 1 by unfold vp_in; decide) dL_law_728 ?_
      refine lv_iload hx hb dL_law_729 (lv_at hl 0 rfl) ?_
      refine lv_i2l (v := o4.1.toInt64) hx hb dL_law_731 rfl ?_
      refine W.lcmp hx hb dL_law_732 ?_
      refine lv_if_eq (tgt := 738) hx hb dL_law_733 (by decide) (fun hc => ?_) (fun hc => ?_)
      · replace hf := (if_pos hc).symm.trans hf
        refine lv_goto (tgt := 1269) hx hb dL_law_738 (by decide) ?_
        refine lv_iinc (v := i + (4 : Int32)) (lv' := [(4, .int (i + (4 : Int32))), (6, .int o4.1), (5, .int o2.1), (0, .ref b), (1, .ref (ad 0)), (2, .ref (ad 51)), (3, .ref (ad 62))]) hx hb dL_law_1269 hl (k := 6) rfl rfl (by decide) rfl (fun ls hl => ?_)
        refine lv_goto (tgt := 23) hx hb dL_law_1272 (by decide) ?_
        exact ih (i + (4 : Int32)) o4.2 H locs _ _ (by omega) (by omega) hP hD hS ls (lv_sub hl [3, 4, 5, 6, 0] rfl) hf
      · replace hf := (if_neg hc).symm.trans hf
        refine lv_iconst (v := (0 : Int32)) hx hb dL_law_736 (by decide) ?_
        cases hf
  · replace hf := (if_neg hc).symm.trans hf
    refine lv_iconst (v := (0 : Int32)) hx hb dL_law_719 (by decide) ?_
    cases hf
set_option maxHeartbeats 4000000 in
set_option maxRecDepth 100000 in
theorem law_case10 {p : Program} {l : Launch} {e : Env} {s : State} {m : MethodId} {below : List Frame} {meth : Method} {c : Code} {b L : Nat} {xs : Nat → Int32} {ad : Nat → Nat} (hL : L ≤ 2048) (hst : l.stackTraces = false) (dC : Nat → ClassId) (dI : Nat → Nat → Nat) (cI cZ cR cJ : ClassId) (hG : GG dC dI cI cZ cR cJ s) (hZU : vx_Zq Bundle.tN "UNASSIGNED_STACK" Bundle.steD (fun q : Nat => s.heap.size ≤ q) s s.heap) (hZN : vx_Zq Bundle.tN "SUPPRESSED_SENTINEL" Bundle.listD (fun q : Nat => s.heap.size ≤ q) s s.heap) (C0 : lw_At p s m meth c b L xs) (N : Nat) (n : Nat) (ih : ∀ (i : Int32) (S : LSt9) (H : Heap) (locs : List Loc) (cells slots : Nat) (_ : cells + n ≤ 601024) (_ : slots + 6 * n ≤ 7293034) (_ : va_P (dC, dI) vwCl (LW cI cZ cR cJ ad S) H) (_ : va_D (fun q : Nat => s.heap.size ≤ q) (LW cI cZ cR cJ ad S)) (_ : va_S (fun q : Nat => s.heap.size ≤ q) s.heap H locs) (ls : Array Slot) (_ : lv_has ls 7 [(0, .ref b), (1, .ref (ad 0)), (2, .ref (ad 51)), (3, .ref (ad 62)), (4, .int i)]), fL N xs L n i S = some () → W p l e room_1 s m #[Value.ref b] below meth c H locs cells slots (lw_Z below #[Value.ref b] s) (F0 m 23 ls [])) (i : Int32) (S : LSt9) (H : Heap) (locs : List Loc) (cells slots : Nat) (hcl : cells + (n + 1) ≤ 601024) (hsl : slots + 6 * (n + 1) ≤ 7293034) (hP : va_P (dC, dI) vwCl (LW cI cZ cR cJ ad S) H) (hD : va_D (fun q : Nat => s.heap.size ≤ q) (LW cI cZ cR cJ ad S)) (hS : va_S (fun q : Nat => s.heap.size ≤ q) s.heap H locs) (ls : Array Slot) (hl : lv_has ls 7 [(0, .ref b), (1, .ref (ad 0)), (2, .ref (ad 51)), (3, .ref (ad 62)), (4, .int i)]) (hf : fC10 N xs L (fun i S => fL N xs L n i S) i S = some ()) : W p l e room_1 s m #[Value.ref b] below meth c H locs cells slots (lw_Z below #[Value.ref b] s) (F0 m 741 ls []) := by
  obtain ⟨hx, hb, hr, hml, hown, hts, hX, hbl, hlocks, hgv⟩ := C0
  have hown : s.vm.findClass RL = some m.cls := hown
  have hts := fun w h => hts w (wsL_law_in w h)
  have hAz : ∀ q : Nat, s.heap.size ≤ q → (fun q : Nat => s.heap.size ≤ q) q := fun _ h => h
  have hbA : ¬ (fun q : Nat => s.heap.size ≤ q) b := Nat.not_le.mpr hbl
  have hK := hG.1
  unfold fC10 at hf
  refine lv_aload_n hx hb dL_law_741 rfl (lv_at hl 1 rfl) ?_
  obtain ⟨o1, ho1, hf⟩ := Option.bind_eq_some_iff.mp hf
  refine pcI (va_runV (As := []) (rest := []) ⟨hx, hb, hml, hown, hts⟩ (c_X5_waits l dC dI cI cZ cR cJ (a_this := ad 0) (a_this_races := ad 1) (a_this_papers := ad 37) (a_this_draws := ad 44) (a_this_walk := ad 46) (a_this_handTally := ad 49) (a_this_draws_paperOf := ad 45) (a_this_papers_boxOf := ad 38) (a_this_papers_wordOf := ad 39) (a_this_papers_isLost := ad 40) (a_this_papers_wasDrawn := ad 41) (a_this_papers_handsOf := ad 42) (a_this_papers_handWords := ad 43) (v_this_raceCount := S.1 0) (v_this_boxCount := S.1 1) (v_this_isSealed := S.1 2) (v_this_draws_size := S.1 29) (v_this_draws_dice := S.2.2.1) (f_this_draws_paperOf := S.2.1 31) (v_this_papers_size := S.1 28) (f_this_papers_isLost := S.2.1 27) (f_this_papers_handsOf := S.2.1 29) (N := N) (r0 := o1) ho1) (cwV 0 hts gL_law_X5_waits rfl rfl rfl (by decide +kernel) ⟨Nat.le_of_ble_eq_true rfl, Nat.le_of_ble_eq_true rfl⟩) ⟨rd_blind, va_recv hK hP (ci := 5) (q0 := 0) rfl rfl, rd_pre (hP.sub [0, 44, 45, 37, 40, 42] rfl) hG⟩ rfl rfl hl.1 rfl (lv_room (Nat.le_of_ble_eq_true rfl)) dL_law_742 ⟨by show _ ≤ 601024; omega, by show _ ≤ 7293034; omega⟩) ?_
  refine lv_aload_n hx hb dL_law_745 rfl (lv_at hl 2 rfl) ?_
  obtain ⟨o2, ho2, hf⟩ := Option.bind_eq_some_iff.mp hf
  have hFc := hF_all hD hS hAz
  refine va_calli (va_runV (As := []) (rest := [.int o1]) ⟨hx, hb, hml, hown, hts⟩ (C_X6_waits l dC dI cI cZ cR cJ ad S o2.2  (N := N) (sz := H.size) (r0 := o2.1) ho2) (cwV 0 hts gL_law_X6_waits rfl rfl rfl (by decide +kernel) ⟨Nat.le_of_ble_eq_true rfl, Nat.le_of_ble_eq_true rfl⟩) ⟨wr_blind, va_recv hK hP (ci := 6) (q0 := 51) rfl rfl, wr_pre hP hG hD⟩ rfl rfl hl.1 rfl (lv_room (Nat.le_of_ble_eq_true rfl)) dL_law_746 ⟨by show _ ≤ 601024; omega, by show _ ≤ 7293034; omega⟩) hS (fun q _ h => hFc q h) hFc (fun r9 u9 t9 H1 locs ht9 hv9 hw9 hB9 hz9 hk9 hS => ?_)
  subst hw9
  rw [ht9] at hB9
  have hP := hB9
  have hD : va_D (fun q : Nat => s.heap.size ≤ q) (LW cI cZ cR cJ ad o2.2) := va_D_fst hD rfl
  generalize H1 = H at hP hS ⊢
  clear hFc hB9 hz9 hk9 hv9 ht9
  refine lv_icmp_eq (tgt := 1269) hx hb dL_law_749 (by decide) (fun hc => ?_) (fun hc => ?_)
  · replace hf := (if_pos hc).symm.trans hf
    refine lv_iinc (v := i + (4 : Int32)) (lv' := [(4, .int (i + (4 : Int32))), (0, .ref b), (1, .ref (ad 0)), (2, .ref (ad 51)), (3, .ref (ad 62))]) hx hb dL_law_1269 hl (k := 4) rfl rfl (by decide) rfl (fun ls hl => ?_)
    refine lv_goto (tgt := 23) hx hb dL_law_1272 (by decide) ?_
    exact ih (i + (4 : Int32)) o2.2 H locs _ _ (by omega) (by omega) hP hD hS ls (lv_sub hl [1, 2, 3, 4, 0] rfl) hf
  · replace hf := (if_neg hc).symm.trans hf
    refine lv_iconst (v := (0 : Int32)) hx hb dL_law_752 (by decide) ?_
    cases hf
set_option maxHeartbeats 4000000 in
set_option maxRecDepth 100000 in
theorem law_case11 {p : Program} {l : Launch} {e : Env} {s : State} {m : MethodId} {below : List Frame} {meth : Method} {c : Code} {b L : Nat} {xs : Nat → Int32} {ad : Nat → Nat} (hL : L ≤ 2048) (hst : l.stackTraces = false) (dC : Nat → ClassId) (dI : Nat → Nat → Nat) (cI cZ cR cJ : ClassId) (hG : GG dC dI cI cZ cR cJ s) (hZU : vx_Zq Bundle.tN "UNASSIGNED_STACK" Bundle.steD (fun q : Nat => s.heap.size ≤ q) s s.heap) (hZN : vx_Zq Bundle.tN "SUPPRESSED_SENTINEL" Bundle.listD (fun q : Nat => s.heap.size ≤ q) s s.heap) (C0 : lw_At p s m meth c b L xs) (N : Nat) (n : Nat) (ih : ∀ (i : Int32) (S : LSt9) (H : Heap) (locs : List Loc) (cells slots : Nat) (_ : cells + n ≤ 601024) (_ : slots + 6 * n ≤ 7293034) (_ : va_P (dC, dI) vwCl (LW cI cZ cR cJ ad S) H) (_ : va_D (fun q : Nat => s.heap.size ≤ q) (LW cI cZ cR cJ ad S)) (_ : va_S (fun q : Nat => s.heap.size ≤ q) s.heap H locs) (ls : Array Slot) (_ : lv_has ls 7 [(0, .ref b), (1, .ref (ad 0)), (2, .ref (ad 51)), (3, .ref (ad 62)), (4, .int i)]), fL N xs L n i S = some () → W p l e room_1 s m #[Value.ref b] below meth c H locs cells slots (lw_Z below #[Value.ref b] s) (F0 m 23 ls [])) (i : Int32) (S : LSt9) (H : Heap) (locs : List Loc) (cells slots : Nat) (hcl : cells + (n + 1) ≤ 601024) (hsl : slots + 6 * (n + 1) ≤ 7293034) (hP : va_P (dC, dI) vwCl (LW cI cZ cR cJ ad S) H) (hD : va_D (fun q : Nat => s.heap.size ≤ q) (LW cI cZ cR cJ ad S)) (hS : va_S (fun q : Nat => s.heap.size ≤ q) s.heap H locs) (ls : Array Slot) (hl : lv_has ls 7 [(0, .ref b), (1, .ref (ad 0)), (2, .ref (ad 51)), (3, .ref (ad 62)), (4, .int i)]) (hf : fC11 N xs L (fun i S => fL N xs L n i S) i S = some ()) : W p l e room_1 s m #[Value.ref b] below meth c H locs cells slots (lw_Z below #[Value.ref b] s) (F0 m 754 ls []) := by
  obtain ⟨hx, hb, hr, hml, hown, hts, hX, hbl, hlocks, hgv⟩ := C0
  have hown : s.vm.findClass RL = some m.cls := hown
  have hts := fun w h => hts w (wsL_law_in w h)
  have hAz : ∀ q : Nat, s.heap.size ≤ q → (fun q : Nat => s.heap.size ≤ q) q := fun _ h => h
  have hbA : ¬ (fun q : Nat => s.heap.size ≤ q) b := Nat.not_le.mpr hbl
  have hK := hG.1
  unfold fC11 at hf
  refine lv_aload_n hx hb dL_law_754 rfl (lv_at hl 1 rfl) ?_
  refine lv_aload_n hx hb dL_law_755 rfl (lv_at hl 0 rfl) ?_
  refine lv_iload hx hb dL_law_756 (lv_at hl 4 rfl) ?_
  refine lv_iconst (v := (1 : Int32)) hx hb dL_law_758 (by decide) ?_
  refine lv_iadd hx hb dL_law_759 ?_
  have hi1 := (gd_some hf).1
  replace hf := (gd_some hf).2
  refine va_sld hx hb hX hbl hbA hS hi1 dL_law_760 ?_
  refine lv_aload_n hx hb dL_law_761 rfl (lv_at hl 3 rfl) ?_
  obtain ⟨o2, ho2, hf⟩ := Option.bind_eq_some_iff.mp hf
  have hFc := hF_all hD hS hAz
  refine va_calli (vx_runSW (As := [.ref (ad 0), .int (xs (i + (1 : Int32)).toNatClampNeg), .ref (ad 62)]) (rest := []) ⟨hx, hb, hml, hown, hts⟩ (C_L_pulled l hst dC dI cI cZ cR cJ ad S o2.2 (p_1 := xs (i + (1 : Int32)).toNatClampNeg) (N := N) (sz := H.size) (r0 := o2.1) ho2) (vx_cwSW 3 hts gL_law_L_pulled rfl rfl rfl (by decide +kernel) ⟨Nat.le_of_ble_eq_true rfl, Nat.le_of_ble_eq_true rfl⟩) ⟨xr_blind, xr_pre hP hG hD hZU hZN hS hFc⟩ rfl rfl hl.1 rfl (lv_room (Nat.le_of_ble_eq_true rfl)) dL_law_762 ⟨by show _ ≤ 601024; omega, by show _ ≤ 7293034; omega⟩) hS (fun q _ h => hFc q h) hFc (fun r9 u9 t9 H1 locs ht9 hv9 hw9 hB9 hz9 hk9 hS => ?_)
  subst hw9
  rw [ht9] at hB9
  have hP := hB9
  have hD : va_D (fun q : Nat => s.heap.size ≤ q) (LW cI cZ cR cJ ad o2.2) := va_D_fst hD rfl
  generalize H1 = H at hP hS ⊢
  clear hFc hB9 hz9 hk9 hv9 ht9
  refine lv_istore (lv' := [(5, .int o2.1), (0, .ref b), (1, .ref (ad 0)), (2, .ref (ad 51)), (3, .ref (ad 62)), (4, .int i)]) hx hb dL_law_765 hl (by decide) rfl (fun ls hl => ?_)
  refine lv_aload_n hx hb dL_law_767 rfl (lv_at hl 3 rfl) ?_
  refine lv_aload_n hx hb dL_law_768 rfl (lv_at hl 1 rfl) ?_
  refine lv_iload hx hb dL_law_769 (lv_at hl 5 rfl) ?_
  refine lv_iconst (v := (1 : Int32)) hx hb dL_law_771 (by decide) ?_
  refine lv_iadd hx hb dL_law_772 ?_
  have hi3 := (gd_some hf).1
  replace hf := (gd_some hf).2
  refine va_sld hx hb hX hbl hbA hS hi3 dL_law_773 ?_
  obtain ⟨o4, ho4, hf⟩ := Option.bind_eq_some_iff.mp hf
  have hFc := hF_all hD hS hAz
  refine va_calli (va_runV (As := [.int (xs (i + (1 : Int32)).toNatClampNeg)]) (rest := []) ⟨hx, hb, hml, hown, hts⟩ (C_X6_pulled l dC dI cI cZ cR cJ ad o2.2 o4.2 (p_1 := xs (i + (1 : Int32)).toNatClampNeg) (N := N) (sz := H.size) (r0 := o4.1) ho4) (cwV 1 hts gL_law_X6_pulled rfl rfl rfl (by decide +kernel) ⟨Nat.le_of_ble_eq_true rfl, Nat.le_of_ble_eq_true rfl⟩) ⟨wr_blind, va_recv hK hP (ci := 6) (q0 := 51) rfl rfl, wr_pre hP hG hD⟩ rfl rfl hl.1 rfl (lv_room (Nat.le_of_ble_eq_true rfl)) dL_law_774 ⟨by show _ ≤ 601024; omega, by show _ ≤ 7293034; omega⟩) hS (fun q _ h => hFc q h) hFc (fun r9 u9 t9 H1 locs ht9 hv9 hw9 hB9 hz9 hk9 hS => ?_)
  subst hw9
  rw [ht9] at hB9
  have hP := hB9
  have hD : va_D (fun q : Nat => s.heap.size ≤ q) (LW cI cZ cR cJ ad o4.2) := va_D_fst hD rfl
  generalize H1 = H at hP hS ⊢
  clear hFc hB9 hz9 hk9 hv9 ht9
  refine lv_istore (lv' := [(6, .int o4.1), (5, .int o2.1), (0, .ref b), (1, .ref (ad 0)), (2, .ref (ad 51)), (3, .ref (ad 62)), (4, .int i)]) hx hb dL_law_777 hl (by decide) rfl (fun ls hl => ?_)
  refine lv_aload_n hx hb dL_law_779 rfl (lv_at hl 4 rfl) ?_
  obtain ⟨o5, ho5, hf⟩ := Option.bind_eq_some_iff.mp hf
  refine pcI (va_runV (As := []) (rest := []) ⟨hx, hb, hml, hown, hts⟩ (c_X6_thrown l dC dI cI cZ cR cJ (a_this := ad 51) (a_this_candidates := ad 52) (a_this_winners := ad 53) (a_this_boxOf := ad 54) (a_this_word := ad 55) (a_this_drawn := ad 56) (a_this_isLost := ad 57) (a_this_hasRead := ad 58) (a_this_hand := ad 59) (a_this_votes := ad 60) (a_this_isWinner := ad 61) (v_this_thrown := o4.2.1 32) (v_this_races := o4.2.1 33) (v_this_boxes := o4.2.1 34) (v_this_papers := o4.2.1 35) (v_this_draws := o4.2.1 36) (v_this_isSealed := o4.2.1 37) (v_this_state := o4.2.2.2.2.1) (v_this_margin := o4.2.1 38) (v_this_having := o4.2.1 39) (v_this_x := o4.2.1 40) (v_this_m := o4.2.1 41) (v_this_took := o4.2.1 42) (N := N) (r0 := o5) ho5) (cwV 0 hts gL_law_X6_thrown rfl rfl rfl (by decide +kernel) ⟨Nat.le_of_ble_eq_true rfl, Nat.le_of_ble_eq_true rfl⟩) ⟨rd_blind, va_recv hK hP (ci := 6) (q0 := 51) rfl rfl, rd_pre (hP.sub [51] rfl) hG⟩ rfl rfl hl.1 rfl (lv_room (Nat.le_of_ble_eq_true rfl)) dL_law_780 ⟨by show _ ≤ 601024; omega, by show _ ≤ 7293034; omega⟩) ?_
  refine lv_iload hx hb dL_law_783 (lv_at hl 1 rfl) ?_
  refine lv_icmp_eq (tgt := 790) hx hb dL_law_785 (by decide) (fun hc => ?_) (fun hc => ?_)
  · replace hf := (if_pos hc).symm.trans hf
    refine lv_iload hx hb dL_law_790 (lv_at hl 1 rfl) ?_
    refine lv_if_ne (tgt := 807) hx hb dL_law_792 (by decide) (fun hc => ?_) (fun hc => ?_)
    · replace hf := (if_neg hc).symm.trans hf
      refine lv_goto (tgt := 1269) hx hb dL_law_807 (by decide) ?_
      refine lv_iinc (v := i + (4 : Int32)) (lv' := [(4, .int (i + (4 : Int32))), (6, .int o4.1), (5, .int o2.1), (0, .ref b), (1, .ref (ad 0)), (2, .ref (ad 51)), (3, .ref (ad 62))]) hx hb dL_law_1269 hl (k := 6) rfl rfl (by decide) rfl (fun ls hl => ?_)
      refine lv_goto (tgt := 23) hx hb dL_law_1272 (by decide) ?_
      exact ih (i + (4 : Int32)) o4.2 H locs _ _ (by omega) (by omega) hP hD hS ls (lv_sub hl [3, 4, 5, 6, 0] rfl) hf
    · replace hf := (if_pos hc).symm.trans hf
      refine lv_aload_n hx hb dL_law_795 rfl (lv_at hl 5 rfl) ?_
      refine lv_iconst (v := (0 : Int32)) hx hb dL_law_796 (by decide) ?_
      refine va_lald hx hb hK hP 62 3 rfl rfl (show vp_in (0 : Int32) 1 by unfold vp_in; decide) dL_law_797 ?_
      refine lv_iload hx hb dL_law_798 (lv_at hl 0 rfl) ?_
      refine lv_i2l (v := o4.1.toInt64) hx hb dL_law_800 rfl ?_
      refine W.lcmp hx hb dL_law_801 ?_
      refine lv_if_eq (tgt := 807) hx hb dL_law_802 (by decide) (fun hc => ?_) (fun hc => ?_)
      · replace hf := (if_pos hc).symm.trans hf
        refine lv_goto (tgt := 1269) hx hb dL_law_807 (by decide) ?_
        refine lv_iinc (v := i + (4 : Int32)) (lv' := [(4, .int (i + (4 : Int32))), (6, .int o4.1), (5, .int o2.1), (0, .ref b), (1, .ref (ad 0)), (2, .ref (ad 51)), (3, .ref (ad 62))]) hx hb dL_law_1269 hl (k := 6) rfl rfl (by decide) rfl (fun ls hl => ?_)
        refine lv_goto (tgt := 23) hx hb dL_law_1272 (by decide) ?_
        exact ih (i + (4 : Int32)) o4.2 H locs _ _ (by omega) (by omega) hP hD hS ls (lv_sub hl [3, 4, 5, 6, 0] rfl) hf
      · replace hf := (if_neg hc).symm.trans hf
        refine lv_iconst (v := (0 : Int32)) hx hb dL_law_805 (by decide) ?_
        cases hf
  · replace hf := (if_neg hc).symm.trans hf
    refine lv_iconst (v := (0 : Int32)) hx hb dL_law_788 (by decide) ?_
    cases hf
