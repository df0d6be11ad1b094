set_option maxHeartbeats 4000000 in
set_option maxRecDepth 100000 in
theorem law_case12 {p : Program} {l : Launch} {e : Env} {s : State} {m : MethodId} {below : List Frame} {meth : Method} {c : Code} {b L : Nat} {xs : Nat → Int32} {ad : Nat → Nat} (hL : L ≤ 2048) (hst : l.stackTraces = false) (dC : Nat → ClassId) (dI : Nat → Nat → Nat) (cI cZ cR cJ : ClassId) (hG : GG dC dI cI cZ cR cJ s) (hZU : vx_Zq Bundle.tN "UNASSIGNED_STACK" Bundle.steD (fun q : Nat => s.heap.size ≤ q) s s.heap) (hZN : vx_Zq Bundle.tN "SUPPRESSED_SENTINEL" Bundle.listD (fun q : Nat => s.heap.size ≤ q) s s.heap) (C0 : lw_At p s m meth c b L xs) (N : Nat) (n : Nat) (ih : ∀ (i : Int32) (S : LSt9) (H : Heap) (locs : List Loc) (cells slots : Nat) (_ : cells + n ≤ 601024) (_ : slots + 6 * n ≤ 7293034) (_ : va_P (dC, dI) vwCl (LW cI cZ cR cJ ad S) H) (_ : va_D (fun q : Nat => s.heap.size ≤ q) (LW cI cZ cR cJ ad S)) (_ : va_S (fun q : Nat => s.heap.size ≤ q) s.heap H locs) (ls : Array Slot) (_ : lv_has ls 7 [(0, .ref b), (1, .ref (ad 0)), (2, .ref (ad 51)), (3, .ref (ad 62)), (4, .int i)]), fL N xs L n i S = some () → W p l e room_1 s m #[Value.ref b] below meth c H locs cells slots (lw_Z below #[Value.ref b] s) (F0 m 23 ls [])) (i : Int32) (S : LSt9) (H : Heap) (locs : List Loc) (cells slots : Nat) (hcl : cells + (n + 1) ≤ 601024) (hsl : slots + 6 * (n + 1) ≤ 7293034) (hP : va_P (dC, dI) vwCl (LW cI cZ cR cJ ad S) H) (hD : va_D (fun q : Nat => s.heap.size ≤ q) (LW cI cZ cR cJ ad S)) (hS : va_S (fun q : Nat => s.heap.size ≤ q) s.heap H locs) (ls : Array Slot) (hl : lv_has ls 7 [(0, .ref b), (1, .ref (ad 0)), (2, .ref (ad 51)), (3, .ref (ad 62)), (4, .int i)]) (hf : fC12 N xs L (fun i S => fL N xs L n i S) i S = some ()) : W p l e room_1 s m #[Value.ref b] below meth c H locs cells slots (lw_Z below #[Value.ref b] s) (F0 m 810 ls []) := by
  obtain ⟨hx, hb, hr, hml, hown, hts, hX, hbl, hlocks, hgv⟩ := C0
  have hown : s.vm.findClass RL = some m.cls := hown
  have hts := fun w h => hts w (wsL_law_in w h)
  have hAz : ∀ q : Nat, s.heap.size ≤ q → (fun q : Nat => s.heap.size ≤ q) q := fun _ h => h
  have hbA : ¬ (fun q : Nat => s.heap.size ≤ q) b := Nat.not_le.mpr hbl
  have hK := hG.1
  unfold fC12 at hf
  refine lv_aload_n hx hb dL_law_810 rfl (lv_at hl 1 rfl) ?_
  refine lv_aload_n hx hb dL_law_811 rfl (lv_at hl 0 rfl) ?_
  refine lv_iload hx hb dL_law_812 (lv_at hl 4 rfl) ?_
  refine lv_iconst (v := (1 : Int32)) hx hb dL_law_814 (by decide) ?_
  refine lv_iadd hx hb dL_law_815 ?_
  have hi1 := (gd_some hf).1
  replace hf := (gd_some hf).2
  refine va_sld hx hb hX hbl hbA hS hi1 dL_law_816 ?_
  refine lv_aload_n hx hb dL_law_817 rfl (lv_at hl 0 rfl) ?_
  refine lv_iload hx hb dL_law_818 (lv_at hl 4 rfl) ?_
  refine lv_iconst (v := (2 : Int32)) hx hb dL_law_820 (by decide) ?_
  refine lv_iadd hx hb dL_law_821 ?_
  have hi2 := (gd_some hf).1
  replace hf := (gd_some hf).2
  refine va_sld hx hb hX hbl hbA hS hi2 dL_law_822 ?_
  refine lv_aload_n hx hb dL_law_823 rfl (lv_at hl 0 rfl) ?_
  refine lv_iload hx hb dL_law_824 (lv_at hl 4 rfl) ?_
  refine lv_iconst (v := (3 : Int32)) hx hb dL_law_826 (by decide) ?_
  refine lv_iadd hx hb dL_law_827 ?_
  have hi3 := (gd_some hf).1
  replace hf := (gd_some hf).2
  refine va_sld hx hb hX hbl hbA hS hi3 dL_law_828 ?_
  refine lv_aload_n hx hb dL_law_829 rfl (lv_at hl 3 rfl) ?_
  obtain ⟨o4, ho4, hf⟩ := Option.bind_eq_some_iff.mp hf
  have hFc := hF_all hD hS hAz
  refine va_calli (vx_runSW (As := [.ref (ad 0), .int (xs (i + (1 : Int32)).toNatClampNeg), .int (xs (i + (2 : Int32)).toNatClampNeg), .int (xs (i + (3 : Int32)).toNatClampNeg), .ref (ad 62)]) (rest := []) ⟨hx, hb, hml, hown, hts⟩ (C_L_read l hst dC dI cI cZ cR cJ ad S o4.2 (p_1 := xs (i + (1 : Int32)).toNatClampNeg) (p_2 := xs (i + (2 : Int32)).toNatClampNeg) (p_3 := xs (i + (3 : Int32)).toNatClampNeg) (N := N) (sz := H.size) (r0 := o4.1) ho4) (vx_cwSW 5 hts gL_law_L_read rfl rfl rfl (by decide +kernel) ⟨Nat.le_of_ble_eq_true rfl, Nat.le_of_ble_eq_true rfl⟩) ⟨xr_blind, xr_pre hP hG hD hZU hZN hS hFc⟩ rfl rfl hl.1 rfl (lv_room (Nat.le_of_ble_eq_true rfl)) dL_law_830 ⟨by show _ ≤ 601024; omega, by show _ ≤ 7293034; omega⟩) hS (fun q _ h => hFc q h) hFc (fun r9 u9 t9 H1 locs ht9 hv9 hw9 hB9 hz9 hk9 hS => ?_)
  subst hw9
  rw [ht9] at hB9
  have hP := hB9
  have hD : va_D (fun q : Nat => s.heap.size ≤ q) (LW cI cZ cR cJ ad o4.2) := va_D_fst hD rfl
  generalize H1 = H at hP hS ⊢
  clear hFc hB9 hz9 hk9 hv9 ht9
  refine lv_istore (lv' := [(5, .int o4.1), (0, .ref b), (1, .ref (ad 0)), (2, .ref (ad 51)), (3, .ref (ad 62)), (4, .int i)]) hx hb dL_law_833 hl (by decide) rfl (fun ls hl => ?_)
  refine lv_aload_n hx hb dL_law_835 rfl (lv_at hl 3 rfl) ?_
  refine lv_aload_n hx hb dL_law_836 rfl (lv_at hl 1 rfl) ?_
  refine lv_iload hx hb dL_law_837 (lv_at hl 5 rfl) ?_
  refine lv_iconst (v := (1 : Int32)) hx hb dL_law_839 (by decide) ?_
  refine lv_iadd hx hb dL_law_840 ?_
  have hi5 := (gd_some hf).1
  replace hf := (gd_some hf).2
  refine va_sld hx hb hX hbl hbA hS hi5 dL_law_841 ?_
  refine lv_aload_n hx hb dL_law_842 rfl (lv_at hl 1 rfl) ?_
  refine lv_iload hx hb dL_law_843 (lv_at hl 5 rfl) ?_
  refine lv_iconst (v := (2 : Int32)) hx hb dL_law_845 (by decide) ?_
  refine lv_iadd hx hb dL_law_846 ?_
  have hi6 := (gd_some hf).1
  replace hf := (gd_some hf).2
  refine va_sld hx hb hX hbl hbA hS hi6 dL_law_847 ?_
  refine lv_aload_n hx hb dL_law_848 rfl (lv_at hl 1 rfl) ?_
  refine lv_iload hx hb dL_law_849 (lv_at hl 5 rfl) ?_
  refine lv_iconst (v := (3 : Int32)) hx hb dL_law_851 (by decide) ?_
  refine lv_iadd hx hb dL_law_852 ?_
  have hi7 := (gd_some hf).1
  replace hf := (gd_some hf).2
  refine va_sld hx hb hX hbl hbA hS hi7 dL_law_853 ?_
  obtain ⟨o8, ho8, hf⟩ := Option.bind_eq_some_iff.mp hf
  have hFc := hF_all hD hS hAz
  refine va_calli (va_runV (As := [.int (xs (i + (1 : Int32)).toNatClampNeg), .int (xs (i + (2 : Int32)).toNatClampNeg), .int (xs (i + (3 : Int32)).toNatClampNeg)]) (rest := []) ⟨hx, hb, hml, hown, hts⟩ (C_X6_read l dC dI cI cZ cR cJ ad o4.2 o8.2 (p_1 := xs (i + (1 : Int32)).toNatClampNeg) (p_2 := xs (i + (2 : Int32)).toNatClampNeg) (p_3 := xs (i + (3 : Int32)).toNatClampNeg) (N := N) (sz := H.size) (r0 := o8.1) ho8) (cwV 3 hts gL_law_X6_read rfl rfl rfl (by decide +kernel) ⟨Nat.le_of_ble_eq_true rfl, Nat.le_of_ble_eq_true rfl⟩) ⟨wr_blind, va_recv hK hP (ci := 6) (q0 := 51) rfl rfl, wr_pre hP hG hD⟩ rfl rfl hl.1 rfl (lv_room (Nat.le_of_ble_eq_true rfl)) dL_law_854 ⟨by show _ ≤ 601024; omega, by show _ ≤ 7293034; omega⟩) hS (fun q _ h => hFc q h) hFc (fun r9 u9 t9 H1 locs ht9 hv9 hw9 hB9 hz9 hk9 hS => ?_)
  subst hw9
  rw [ht9] at hB9
  have hP := hB9
  have hD : va_D (fun q : Nat => s.heap.size ≤ q) (LW cI cZ cR cJ ad o8.2) := va_D_fst hD rfl
  generalize H1 = H at hP hS ⊢
  clear hFc hB9 hz9 hk9 hv9 ht9
  refine lv_istore (lv' := [(6, .int o8.1), (5, .int o4.1), (0, .ref b), (1, .ref (ad 0)), (2, .ref (ad 51)), (3, .ref (ad 62)), (4, .int i)]) hx hb dL_law_857 hl (by decide) rfl (fun ls hl => ?_)
  refine lv_aload_n hx hb dL_law_859 rfl (lv_at hl 4 rfl) ?_
  obtain ⟨o9, ho9, hf⟩ := Option.bind_eq_some_iff.mp hf
  refine pcI (va_runV (As := []) (rest := []) ⟨hx, hb, hml, hown, hts⟩ (c_X6_thrown l dC dI cI cZ cR cJ (a_this := ad 51) (a_this_candidates := ad 52) (a_this_winners := ad 53) (a_this_boxOf := ad 54) (a_this_word := ad 55) (a_this_drawn := ad 56) (a_this_isLost := ad 57) (a_this_hasRead := ad 58) (a_this_hand := ad 59) (a_this_votes := ad 60) (a_this_isWinner := ad 61) (v_this_thrown := o8.2.1 32) (v_this_races := o8.2.1 33) (v_this_boxes := o8.2.1 34) (v_this_papers := o8.2.1 35) (v_this_draws := o8.2.1 36) (v_this_isSealed := o8.2.1 37) (v_this_state := o8.2.2.2.2.1) (v_this_margin := o8.2.1 38) (v_this_having := o8.2.1 39) (v_this_x := o8.2.1 40) (v_this_m := o8.2.1 41) (v_this_took := o8.2.1 42) (N := N) (r0 := o9) ho9) (cwV 0 hts gL_law_X6_thrown rfl rfl rfl (by decide +kernel) ⟨Nat.le_of_ble_eq_true rfl, Nat.le_of_ble_eq_true rfl⟩) ⟨rd_blind, va_recv hK hP (ci := 6) (q0 := 51) rfl rfl, rd_pre (hP.sub [51] rfl) hG⟩ rfl rfl hl.1 rfl (lv_room (Nat.le_of_ble_eq_true rfl)) dL_law_860 ⟨by show _ ≤ 601024; omega, by show _ ≤ 7293034; omega⟩) ?_
  refine lv_iload hx hb dL_law_863 (lv_at hl 1 rfl) ?_
  refine lv_icmp_eq (tgt := 870) hx hb dL_law_865 (by decide) (fun hc => ?_) (fun hc => ?_)
  · replace hf := (if_pos hc).symm.trans hf
    refine lv_iload hx hb dL_law_870 (lv_at hl 1 rfl) ?_
    refine lv_if_ne (tgt := 894) hx hb dL_law_872 (by decide) (fun hc => ?_) (fun hc => ?_)
    · replace hf := (if_neg hc).symm.trans hf
      refine lv_goto (tgt := 1269) hx hb dL_law_894 (by decide) ?_
      refine lv_iinc (v := i + (4 : Int32)) (lv' := [(4, .int (i + (4 : Int32))), (6, .int o8.1), (5, .int o4.1), (0, .ref b), (1, .ref (ad 0)), (2, .ref (ad 51)), (3, .ref (ad 62))]) hx hb dL_law_1269 hl (k := 6) rfl rfl (by decide) rfl (fun ls hl => ?_)
      refine lv_goto (tgt := 23) hx hb dL_law_1272 (by decide) ?_
      exact ih (i + (4 : Int32)) o8.2 H locs _ _ (by omega) (by omega) hP hD hS ls (lv_sub hl [3, 4, 5, 6, 0] rfl) hf
    · replace hf := (if_pos hc).symm.trans hf
      refine lv_aload_n hx hb dL_law_875 rfl (lv_at hl 5 rfl) ?_
      refine lv_iconst (v := (0 : Int32)) hx hb dL_law_876 (by decide) ?_
      refine va_lald hx hb hK hP 62 3 rfl rfl (show vp_in (0 : Int32) 1 by unfold vp_in; decide) dL_law_877 ?_
      refine lv_iload hx hb dL_law_878 (lv_at hl 0 rfl) ?_
      refine lv_if_eq (tgt := 887) hx hb dL_law_880 (by decide) (fun hc => ?_) (fun hc => ?_)
      · replace hf := (if_pos hc).symm.trans hf
        refine lv_lconst (v := (0 : Int64)) hx hb dL_law_887 (by decide) ?_
        refine W.lcmp hx hb dL_law_888 ?_
        refine lv_if_eq (tgt := 894) hx hb dL_law_889 (by decide) (fun hc => ?_) (fun hc => ?_)
        · replace hf := (if_pos hc).symm.trans hf
          refine lv_goto (tgt := 1269) hx hb dL_law_894 (by decide) ?_
          refine lv_iinc (v := i + (4 : Int32)) (lv' := [(4, .int (i + (4 : Int32))), (6, .int o8.1), (5, .int o4.1), (0, .ref b), (1, .ref (ad 0)), (2, .ref (ad 51)), (3, .ref (ad 62))]) hx hb dL_law_1269 hl (k := 6) rfl rfl (by decide) rfl (fun ls hl => ?_)
          refine lv_goto (tgt := 23) hx hb dL_law_1272 (by decide) ?_
          exact ih (i + (4 : Int32)) o8.2 H locs _ _ (by omega) (by omega) hP hD hS ls (lv_sub hl [3, 4, 5, 6, 0] rfl) hf
        · replace hf := (if_neg hc).symm.trans hf
          refine lv_iconst (v := (0 : Int32)) hx hb dL_law_892 (by decide) ?_
          cases hf
      · replace hf := (if_neg hc).symm.trans hf
        refine lv_lconst (v := (1 : Int64)) hx hb dL_law_883 (by decide) ?_
        refine lv_goto (tgt := 888) hx hb dL_law_884 (by decide) ?_
        refine W.lcmp hx hb dL_law_888 ?_
        refine lv_if_eq (tgt := 894) hx hb dL_law_889 (by decide) (fun hc => ?_) (fun hc => ?_)
        · replace hf := (if_pos hc).symm.trans hf
          refine lv_goto (tgt := 1269) hx hb dL_law_894 (by decide) ?_
          refine lv_iinc (v := i + (4 : Int32)) (lv' := [(4, .int (i + (4 : Int32))), (6, .int o8.1), (5, .int o4.1), (0, .ref b), (1, .ref (ad 0)), (2, .ref (ad 51)), (3, .ref (ad 62))]) hx hb dL_law_1269 hl (k := 6) rfl rfl (by decide) rfl (fun ls hl => ?_)
          refine lv_goto (tgt := 23) hx hb dL_law_1272 (by decide) ?_
          exact ih (i + (4 : Int32)) o8.2 H locs _ _ (by omega) (by omega) hP hD hS ls (lv_sub hl [3, 4, 5, 6, 0] rfl) hf
        · replace hf := (if_neg hc).symm.trans hf
          refine lv_iconst (v := (0 : Int32)) hx hb dL_law_892 (by decide) ?_
          cases hf
  · replace hf := (if_neg hc).symm.trans hf
    refine lv_iconst (v := (0 : Int32)) hx hb dL_law_868 (by decide) ?_
    cases hf
set_option maxHeartbeats 4000000 in
set_option maxRecDepth 100000 in
theorem law_case13 {p : Program} {l : Launch} {e : Env} {s : State} {m : MethodId} {below : List Frame} {meth : Method} {c : Code} {b L : Nat} {xs : Nat → Int32} {ad : Nat → Nat} (hL : L ≤ 2048) (hst : l.stackTraces = false) (dC : Nat → ClassId) (dI : Nat → Nat → Nat) (cI cZ cR cJ : ClassId) (hG : GG dC dI cI cZ cR cJ s) (hZU : vx_Zq Bundle.tN "UNASSIGNED_STACK" Bundle.steD (fun q : Nat => s.heap.size ≤ q) s s.heap) (hZN : vx_Zq Bundle.tN "SUPPRESSED_SENTINEL" Bundle.listD (fun q : Nat => s.heap.size ≤ q) s s.heap) (C0 : lw_At p s m meth c b L xs) (N : Nat) (n : Nat) (ih : ∀ (i : Int32) (S : LSt9) (H : Heap) (locs : List Loc) (cells slots : Nat) (_ : cells + n ≤ 601024) (_ : slots + 6 * n ≤ 7293034) (_ : va_P (dC, dI) vwCl (LW cI cZ cR cJ ad S) H) (_ : va_D (fun q : Nat => s.heap.size ≤ q) (LW cI cZ cR cJ ad S)) (_ : va_S (fun q : Nat => s.heap.size ≤ q) s.heap H locs) (ls : Array Slot) (_ : lv_has ls 7 [(0, .ref b), (1, .ref (ad 0)), (2, .ref (ad 51)), (3, .ref (ad 62)), (4, .int i)]), fL N xs L n i S = some () → W p l e room_1 s m #[Value.ref b] below meth c H locs cells slots (lw_Z below #[Value.ref b] s) (F0 m 23 ls [])) (i : Int32) (S : LSt9) (H : Heap) (locs : List Loc) (cells slots : Nat) (hcl : cells + (n + 1) ≤ 601024) (hsl : slots + 6 * (n + 1) ≤ 7293034) (hP : va_P (dC, dI) vwCl (LW cI cZ cR cJ ad S) H) (hD : va_D (fun q : Nat => s.heap.size ≤ q) (LW cI cZ cR cJ ad S)) (hS : va_S (fun q : Nat => s.heap.size ≤ q) s.heap H locs) (ls : Array Slot) (hl : lv_has ls 7 [(0, .ref b), (1, .ref (ad 0)), (2, .ref (ad 51)), (3, .ref (ad 62)), (4, .int i)]) (hf : fC13 N xs L (fun i S => fL N xs L n i S) i S = some ()) : W p l e room_1 s m #[Value.ref b] below meth c H locs cells slots (lw_Z below #[Value.ref b] s) (F0 m 897 ls []) := by
  obtain ⟨hx, hb, hr, hml, hown, hts, hX, hbl, hlocks, hgv⟩ := C0
  have hown : s.vm.findClass RL = some m.cls := hown
  have hts := fun w h => hts w (wsL_law_in w h)
  have hAz : ∀ q : Nat, s.heap.size ≤ q → (fun q : Nat => s.heap.size ≤ q) q := fun _ h => h
  have hbA : ¬ (fun q : Nat => s.heap.size ≤ q) b := Nat.not_le.mpr hbl
  have hK := hG.1
  unfold fC13 at hf
  refine lv_aload_n hx hb dL_law_897 rfl (lv_at hl 1 rfl) ?_
  refine lv_aload_n hx hb dL_law_898 rfl (lv_at hl 0 rfl) ?_
  refine lv_iload hx hb dL_law_899 (lv_at hl 4 rfl) ?_
  refine lv_iconst (v := (1 : Int32)) hx hb dL_law_901 (by decide) ?_
  refine lv_iadd hx hb dL_law_902 ?_
  have hi1 := (gd_some hf).1
  replace hf := (gd_some hf).2
  refine va_sld hx hb hX hbl hbA hS hi1 dL_law_903 ?_
  refine lv_aload_n hx hb dL_law_904 rfl (lv_at hl 0 rfl) ?_
  refine lv_iload hx hb dL_law_905 (lv_at hl 4 rfl) ?_
  refine lv_iconst (v := (2 : Int32)) hx hb dL_law_907 (by decide) ?_
  refine lv_iadd hx hb dL_law_908 ?_
  have hi2 := (gd_some hf).1
  replace hf := (gd_some hf).2
  refine va_sld hx hb hX hbl hbA hS hi2 dL_law_909 ?_
  refine lv_aload_n hx hb dL_law_910 rfl (lv_at hl 3 rfl) ?_
  obtain ⟨o3, ho3, hf⟩ := Option.bind_eq_some_iff.mp hf
  have hFc := hF_all hD hS hAz
  refine va_calli (vx_runSW (As := [.ref (ad 0), .int (xs (i + (1 : Int32)).toNatClampNeg), .int (xs (i + (2 : Int32)).toNatClampNeg), .ref (ad 62)]) (rest := []) ⟨hx, hb, hml, hown, hts⟩ (C_L_reading l hst dC dI cI cZ cR cJ ad S o3.2 (p_1 := xs (i + (1 : Int32)).toNatClampNeg) (p_2 := xs (i + (2 : Int32)).toNatClampNeg) (N := N) (sz := H.size) (r0 := o3.1) ho3) (vx_cwSW 4 hts gL_law_L_reading rfl rfl rfl (by decide +kernel) ⟨Nat.le_of_ble_eq_true rfl, Nat.le_of_ble_eq_true rfl⟩) ⟨xr_blind, xr_pre hP hG hD hZU hZN hS hFc⟩ rfl rfl hl.1 rfl (lv_room (Nat.le_of_ble_eq_true rfl)) dL_law_911 ⟨by show _ ≤ 601024; omega, by show _ ≤ 7293034; omega⟩) hS (fun q _ h => hFc q h) hFc (fun r9 u9 t9 H1 locs ht9 hv9 hw9 hB9 hz9 hk9 hS => ?_)
  subst hw9
  rw [ht9] at hB9
  have hP := hB9
  have hD : va_D (fun q : Nat => s.heap.size ≤ q) (LW cI cZ cR cJ ad o3.2) := va_D_fst hD rfl
  generalize H1 = H at hP hS ⊢
  clear hFc hB9 hz9 hk9 hv9 ht9
  refine lv_istore (lv' := [(5, .int o3.1), (0, .ref b), (1, .ref (ad 0)), (2, .ref (ad 51)), (3, .ref (ad 62)), (4, .int i)]) hx hb dL_law_914 hl (by decide) rfl (fun ls hl => ?_)
  refine lv_aload_n hx hb dL_law_916 rfl (lv_at hl 3 rfl) ?_
  refine lv_aload_n hx hb dL_law_917 rfl (lv_at hl 1 rfl) ?_
  refine lv_iload hx hb dL_law_918 (lv_at hl 5 rfl) ?_
  refine lv_iconst (v := (1 : Int32)) hx hb dL_law_920 (by decide) ?_
  refine lv_iadd hx hb dL_law_921 ?_
  have hi4 := (gd_some hf).1
  replace hf := (gd_some hf).2
  refine va_sld hx hb hX hbl hbA hS hi4 dL_law_922 ?_
  refine lv_aload_n hx hb dL_law_923 rfl (lv_at hl 1 rfl) ?_
  refine lv_iload hx hb dL_law_924 (lv_at hl 5 rfl) ?_
  refine lv_iconst (v := (2 : Int32)) hx hb dL_law_926 (by decide) ?_
  refine lv_iadd hx hb dL_law_927 ?_
  have hi5 := (gd_some hf).1
  replace hf := (gd_some hf).2
  refine va_sld hx hb hX hbl hbA hS hi5 dL_law_928 ?_
  obtain ⟨o6, ho6, hf⟩ := Option.bind_eq_some_iff.mp hf
  have hFc := hF_all hD hS hAz
  refine va_calli (va_runV (As := [.int (xs (i + (1 : Int32)).toNatClampNeg), .int (xs (i + (2 : Int32)).toNatClampNeg)]) (rest := []) ⟨hx, hb, hml, hown, hts⟩ (C_X6_reading l dC dI cI cZ cR cJ ad o3.2 o6.2 (p_1 := xs (i + (1 : Int32)).toNatClampNeg) (p_2 := xs (i + (2 : Int32)).toNatClampNeg) (N := N) (sz := H.size) (r0 := o6.1) ho6) (cwV 2 hts gL_law_X6_reading rfl rfl rfl (by decide +kernel) ⟨Nat.le_of_ble_eq_true rfl, Nat.le_of_ble_eq_true rfl⟩) ⟨wr_blind, va_recv hK hP (ci := 6) (q0 := 51) rfl rfl, wr_pre hP hG hD⟩ rfl rfl hl.1 rfl (lv_room (Nat.le_of_ble_eq_true rfl)) dL_law_929 ⟨by show _ ≤ 601024; omega, by show _ ≤ 7293034; omega⟩) hS (fun q _ h => hFc q h) hFc (fun r9 u9 t9 H1 locs ht9 hv9 hw9 hB9 hz9 hk9 hS => ?_)
  subst hw9
  rw [ht9] at hB9
  have hP := hB9
  have hD : va_D (fun q : Nat => s.heap.size ≤ q) (LW cI cZ cR cJ ad o6.2) := va_D_fst hD rfl
  generalize H1 = H at hP hS ⊢
  clear hFc hB9 hz9 hk9 hv9 ht9
  refine lv_istore (lv' := [(6, .int o6.1), (5, .int o3.1), (0, .ref b), (1, .ref (ad 0)), (2, .ref (ad 51)), (3, .ref (ad 62)), (4, .int i)]) hx hb dL_law_932 hl (by decide) rfl (fun ls hl => ?_)
  refine lv_aload_n hx hb dL_law_934 rfl (lv_at hl 4 rfl) ?_
  obtain ⟨o7, ho7, hf⟩ := Option.bind_eq_some_iff.mp hf
  refine pcI (va_runV (As := []) (rest := []) ⟨hx, hb, hml, hown, hts⟩ (c_X6_thrown l dC dI cI cZ cR cJ (a_this := ad 51) (a_this_candidates := ad 52) (a_this_winners := ad 53) (a_this_boxOf := ad 54) (a_this_word := ad 55) (a_this_drawn := ad 56) (a_this_isLost := ad 57) (a_this_hasRead := ad 58) (a_this_hand := ad 59) (a_this_votes := ad 60) (a_this_isWinner := ad 61) (v_this_thrown := o6.2.1 32) (v_this_races := o6.2.1 33) (v_this_boxes := o6.2.1 34) (v_this_papers := o6.2.1 35) (v_this_draws := o6.2.1 36) (v_this_isSealed := o6.2.1 37) (v_this_state := o6.2.2.2.2.1) (v_this_margin := o6.2.1 38) (v_this_having := o6.2.1 39) (v_this_x := o6.2.1 40) (v_this_m := o6.2.1 41) (v_this_took := o6.2.1 42) (N := N) (r0 := o7) ho7) (cwV 0 hts gL_law_X6_thrown rfl rfl rfl (by decide +kernel) ⟨Nat.le_of_ble_eq_true rfl, Nat.le_of_ble_eq_true rfl⟩) ⟨rd_blind, va_recv hK hP (ci := 6) (q0 := 51) rfl rfl, rd_pre (hP.sub [51] rfl) hG⟩ rfl rfl hl.1 rfl (lv_room (Nat.le_of_ble_eq_true rfl)) dL_law_935 ⟨by show _ ≤ 601024; omega, by show _ ≤ 7293034; omega⟩) ?_
  refine lv_iload hx hb dL_law_938 (lv_at hl 1 rfl) ?_
  refine lv_icmp_eq (tgt := 945) hx hb dL_law_940 (by decide) (fun hc => ?_) (fun hc => ?_)
  · replace hf := (if_pos hc).symm.trans hf
    refine lv_iload hx hb dL_law_945 (lv_at hl 1 rfl) ?_
    refine lv_if_ne (tgt := 962) hx hb dL_law_947 (by decide) (fun hc => ?_) (fun hc => ?_)
    · replace hf := (if_neg hc).symm.trans hf
      refine lv_goto (tgt := 1269) hx hb dL_law_962 (by decide) ?_
      refine lv_iinc (v := i + (4 : Int32)) (lv' := [(4, .int (i + (4 : Int32))), (6, .int o6.1), (5, .int o3.1), (0, .ref b), (1, .ref (ad 0)), (2, .ref (ad 51)), (3, .ref (ad 62))]) hx hb dL_law_1269 hl (k := 6) rfl rfl (by decide) rfl (fun ls hl => ?_)
      refine lv_goto (tgt := 23) hx hb dL_law_1272 (by decide) ?_
      exact ih (i + (4 : Int32)) o6.2 H locs _ _ (by omega) (by omega) hP hD hS ls (lv_sub hl [3, 4, 5, 6, 0] rfl) hf
    · replace hf := (if_pos hc).symm.trans hf
      refine lv_aload_n hx hb dL_law_950 rfl (lv_at hl 5 rfl) ?_
      refine lv_iconst (v := (0 : Int32)) hx hb dL_law_951 (by decide) ?_
      refine va_lald hx hb hK hP 62 3 rfl rfl (show vp_in (0 : Int32) 1 by unfold vp_in; decide) dL_law_952 ?_
      refine lv_iload hx hb dL_law_953 (lv_at hl 0 rfl) ?_
      refine lv_i2l (v := o6.1.toInt64) hx hb dL_law_955 rfl ?_
      refine W.lcmp hx hb dL_law_956 ?_
      refine lv_if_eq (tgt := 962) hx hb dL_law_957 (by decide) (fun hc => ?_) (fun hc => ?_)
      · replace hf := (if_pos hc).symm.trans hf
        refine lv_goto (tgt := 1269) hx hb dL_law_962 (by decide) ?_
        refine lv_iinc (v := i + (4 : Int32)) (lv' := [(4, .int (i + (4 : Int32))), (6, .int o6.1), (5, .int o3.1), (0, .ref b), (1, .ref (ad 0)), (2, .ref (ad 51)), (3, .ref (ad 62))]) hx hb dL_law_1269 hl (k := 6) rfl rfl (by decide) rfl (fun ls hl => ?_)
        refine lv_goto (tgt := 23) hx hb dL_law_1272 (by decide) ?_
        exact ih (i + (4 : Int32)) o6.2 H locs _ _ (by omega) (by omega) hP hD hS ls (lv_sub hl [3, 4, 5, 6, 0] rfl) hf
      · replace hf := (if_neg hc).symm.trans hf
        refine lv_iconst (v := (0 : Int32)) hx hb dL_law_960 (by decide) ?_
        cases hf
  · replace hf := (if_neg hc).symm.trans hf
    refine lv_iconst (v := (0 : Int32)) hx hb dL_law_943 (by decide) ?_
    cases hf
set_option maxHeartbeats 4000000 in
set_option maxRecDepth 100000 in
theorem law_case14 {p : Program} {l : Launch} {e : Env} {s : State} {m : MethodId} {below : List Frame} {meth : Method} {c : Code} {b L : Nat} {xs : Nat → Int32} {ad : Nat → Nat} (hL : L ≤ 2048) (hst : l.stackTraces = false) (dC : Nat → ClassId) (dI : Nat → Nat → Nat) (cI cZ cR cJ : ClassId) (hG : GG dC dI cI cZ cR cJ s) (hZU : vx_Zq Bundle.tN "UNASSIGNED_STACK" Bundle.steD (fun q : Nat => s.heap.size ≤ q) s s.heap) (hZN : vx_Zq Bundle.tN "SUPPRESSED_SENTINEL" Bundle.listD (fun q : Nat => s.heap.size ≤ q) s s.heap) (C0 : lw_At p s m meth c b L xs) (N : Nat) (n : Nat) (ih : ∀ (i : Int32) (S : LSt9) (H : Heap) (locs : List Loc) (cells slots : Nat) (_ : cells + n ≤ 601024) (_ : slots + 6 * n ≤ 7293034) (_ : va_P (dC, dI) vwCl (LW cI cZ cR cJ ad S) H) (_ : va_D (fun q : Nat => s.heap.size ≤ q) (LW cI cZ cR cJ ad S)) (_ : va_S (fun q : Nat => s.heap.size ≤ q) s.heap H locs) (ls : Array Slot) (_ : lv_has ls 7 [(0, .ref b), (1, .ref (ad 0)), (2, .ref (ad 51)), (3, .ref (ad 62)), (4, .int i)]), fL N xs L n i S = some () → W p l e room_1 s m #[Value.ref b] below meth c H locs cells slots (lw_Z below #[Value.ref b] s) (F0 m 23 ls [])) (i : Int32) (S : LSt9) (H : Heap) (locs : List Loc) (cells slots : Nat) (hcl : cells + (n + 1) ≤ 601024) (hsl : slots + 6 * (n + 1) ≤ 7293034) (hP : va_P (dC, dI) vwCl (LW cI cZ cR cJ ad S) H) (hD : va_D (fun q : Nat => s.heap.size ≤ q) (LW cI cZ cR cJ ad S)) (hS : va_S (fun q : Nat => s.heap.size ≤ q) s.heap H locs) (ls : Array Slot) (hl : lv_has ls 7 [(0, .ref b), (1, .ref (ad 0)), (2, .ref (ad 51)), (3, .ref (ad 62)), (4, .int i)]) (hf : fC14 N xs L (fun i S => fL N xs L n i S) i S = some ()) : W p l e room_1 s m #[Value.ref b] below meth c H locs cells slots (lw_Z below #[Value.ref b] s) (F0 m 965 ls []) := by
  obtain ⟨hx, hb, hr, hml, hown, hts, hX, hbl, hlocks, hgv⟩ := C0
  have hown : s.vm.findClass RL = some m.cls := hown
  have hts := fun w h => hts w (wsL_law_in w h)
  have hAz : ∀ q : Nat, s.heap.size ≤ q → (fun q : Nat => s.heap.size ≤ q) q := fun _ h => h
  have hbA : ¬ (fun q : Nat => s.heap.size ≤ q) b := Nat.not_le.mpr hbl
  have hK := hG.1
  unfold fC14 at hf
  refine lv_aload_n hx hb dL_law_965 rfl (lv_at hl 1 rfl) ?_
  refine lv_aload_n hx hb dL_law_966 rfl (lv_at hl 0 rfl) ?_
  refine lv_iload hx hb dL_law_967 (lv_at hl 4 rfl) ?_
  refine lv_iconst (v := (1 : Int32)) hx hb dL_law_969 (by decide) ?_
  refine lv_iadd hx hb dL_law_970 ?_
  have hi1 := (gd_some hf).1
  replace hf := (gd_some hf).2
  refine va_sld hx hb hX hbl hbA hS hi1 dL_law_971 ?_
  refine lv_aload_n hx hb dL_law_972 rfl (lv_at hl 3 rfl) ?_
  obtain ⟨o2, ho2, hf⟩ := Option.bind_eq_some_iff.mp hf
  have hFc := hF_all hD hS hAz
  refine va_calli (vx_runSW (As := [.ref (ad 0), .int (xs (i + (1 : Int32)).toNatClampNeg), .ref (ad 62)]) (rest := []) ⟨hx, hb, hml, hown, hts⟩ (C_L_risk l hst dC dI cI cZ cR cJ ad S o2.2 (p_1 := xs (i + (1 : Int32)).toNatClampNeg) (N := N) (sz := H.size) (r0 := o2.1) ho2) (vx_cwSW 3 hts gL_law_L_risk rfl rfl rfl (by decide +kernel) ⟨Nat.le_of_ble_eq_true rfl, Nat.le_of_ble_eq_true rfl⟩) ⟨xr_blind, xr_pre hP hG hD hZU hZN hS hFc⟩ rfl rfl hl.1 rfl (lv_room (Nat.le_of_ble_eq_true rfl)) dL_law_973 ⟨by show _ ≤ 601024; omega, by show _ ≤ 7293034; omega⟩) hS (fun q _ h => hFc q h) hFc (fun r9 u9 t9 H1 locs ht9 hv9 hw9 hB9 hz9 hk9 hS => ?_)
  subst hw9
  rw [ht9] at hB9
  have hP := hB9
  have hD : va_D (fun q : Nat => s.heap.size ≤ q) (LW cI cZ cR cJ ad o2.2) := va_D_fst hD rfl
  generalize H1 = H at hP hS ⊢
  clear hFc hB9 hz9 hk9 hv9 ht9
  refine lv_istore (lv' := [(5, .int o2.1), (0, .ref b), (1, .ref (ad 0)), (2, .ref (ad 51)), (3, .ref (ad 62)), (4, .int i)]) hx hb dL_law_976 hl (by decide) rfl (fun ls hl => ?_)
  refine lv_aload_n hx hb dL_law_978 rfl (lv_at hl 3 rfl) ?_
  refine lv_aload_n hx hb dL_law_979 rfl (lv_at hl 1 rfl) ?_
  refine lv_iload hx hb dL_law_980 (lv_at hl 5 rfl) ?_
  refine lv_iconst (v := (1 : Int32)) hx hb dL_law_982 (by decide) ?_
  refine lv_iadd hx hb dL_law_983 ?_
  have hi3 := (gd_some hf).1
  replace hf := (gd_some hf).2
  refine va_sld hx hb hX hbl hbA hS hi3 dL_law_984 ?_
  obtain ⟨o4, ho4, hf⟩ := Option.bind_eq_some_iff.mp hf
  have hFc := hF_all hD hS hAz
  refine va_calli (va_runV (As := [.int (xs (i + (1 : Int32)).toNatClampNeg)]) (rest := []) ⟨hx, hb, hml, hown, hts⟩ (C_X6_risk l dC dI cI cZ cR cJ ad o2.2 o4.2 (p_1 := xs (i + (1 : Int32)).toNatClampNeg) (N := N) (sz := H.size) (r0 := o4.1) ho4) (cwV 1 hts gL_law_X6_risk rfl rfl rfl (by decide +kernel) ⟨Nat.le_of_ble_eq_true rfl, Nat.le_of_ble_eq_true rfl⟩) ⟨wr_blind, va_recv hK hP (ci := 6) (q0 := 51) rfl rfl, wr_pre hP hG hD⟩ rfl rfl hl.1 rfl (lv_room (Nat.le_of_ble_eq_true rfl)) dL_law_985 ⟨by show _ ≤ 601024; omega, by show _ ≤ 7293034; omega⟩) hS (fun q _ h => hFc q h) hFc (fun r9 u9 t9 H1 locs ht9 hv9 hw9 hB9 hz9 hk9 hS => ?_)
  subst hw9
  rw [ht9] at hB9
  have hP := hB9
  have hD : va_D (fun q : Nat => s.heap.size ≤ q) (LW cI cZ cR cJ ad o4.2) := va_D_fst hD rfl
  generalize H1 = H at hP hS ⊢
  clear hFc hB9 hz9 hk9 hv9 ht9
  refine lv_istore (lv' := [(6, .int o4.1), (5, .int o2.1), (0, .ref b), (1, .ref (ad 0)), (2, .ref (ad 51)), (3, .ref (ad 62)), (4, .int i)]) hx hb dL_law_988 hl (by decide) rfl (fun ls hl => ?_)
  refine lv_aload_n hx hb dL_law_990 rfl (lv_at hl 4 rfl) ?_
  obtain ⟨o5, ho5, hf⟩ := Option.bind_eq_some_iff.mp hf
  refine pcI (va_runV (As := []) (rest := []) ⟨hx, hb, hml, hown, hts⟩ (c_X6_thrown l dC dI cI cZ cR cJ (a_this := ad 51) (a_this_candidates := ad 52) (a_this_winners := ad 53) (a_this_boxOf := ad 54) (a_this_word := ad 55) (a_this_drawn := ad 56) (a_this_isLost := ad 57) (a_this_hasRead := ad 58) (a_this_hand := ad 59) (a_this_votes := ad 60) (a_this_isWinner := ad 61) (v_this_thrown := o4.2.1 32) (v_this_races := o4.2.1 33) (v_this_boxes := o4.2.1 34) (v_this_papers := o4.2.1 35) (v_this_draws := o4.2.1 36) (v_this_isSealed := o4.2.1 37) (v_this_state := o4.2.2.2.2.1) (v_this_margin := o4.2.1 38) (v_this_having := o4.2.1 39) (v_this_x := o4.2.1 40) (v_this_m := o4.2.1 41) (v_this_took := o4.2.1 42) (N := N) (r0 := o5) ho5) (cwV 0 hts gL_law_X6_thrown rfl rfl rfl (by decide +kernel) ⟨Nat.le_of_ble_eq_true rfl, Nat.le_of_ble_eq_true rfl⟩) ⟨rd_blind, va_recv hK hP (ci := 6) (q0 := 51) rfl rfl, rd_pre (hP.sub [51] rfl) hG⟩ rfl rfl hl.1 rfl (lv_room (Nat.le_of_ble_eq_true rfl)) dL_law_991 ⟨by show _ ≤ 601024; omega, by show _ ≤ 7293034; omega⟩) ?_
  refine lv_iload hx hb dL_law_994 (lv_at hl 1 rfl) ?_
  refine lv_icmp_eq (tgt := 1001) hx hb dL_law_996 (by decide) (fun hc => ?_) (fun hc => ?_)
  · replace hf := (if_pos hc).symm.trans hf
    refine lv_iload hx hb dL_law_1001 (lv_at hl 1 rfl) ?_
    refine lv_if_ne (tgt := 1018) hx hb dL_law_1003 (by decide) (fun hc => ?_) (fun hc => ?_)
    · replace hf := (if_neg hc).symm.trans hf
      refine lv_goto (tgt := 1269) hx hb dL_law_1018 (by decide) ?_
      refine lv_iinc (v := i + (4 : Int32)) (lv' := [(4, .int (i + (4 : Int32))), (6, .int o4.1), (5, .int o2.1), (0, .ref b), (1, .ref (ad 0)), (2, .ref (ad 51)), (3, .ref (ad 62))]) hx hb dL_law_1269 hl (k := 6) rfl rfl (by decide) rfl (fun ls hl => ?_)
      refine lv_goto (tgt := 23) hx hb dL_law_1272 (by decide) ?_
      exact ih (i + (4 : Int32)) o4.2 H locs _ _ (by omega) (by omega) hP hD hS ls (lv_sub hl [3, 4, 5, 6, 0] rfl) hf
    · replace hf := (if_pos hc).symm.trans hf
      refine lv_aload_n hx hb dL_law_1006 rfl (lv_at hl 5 rfl) ?_
      refine lv_iconst (v := (0 : Int32)) hx hb dL_law_1007 (by decide) ?_
      refine va_lald hx hb hK hP 62 3 rfl rfl (show vp_in (0 : Int32) 1 by unfold vp_in; decide) dL_law_1008 ?_
      refine lv_iload hx hb dL_law_1009 (lv_at hl 0 rfl) ?_
      refine lv_i2l (v := o4.1.toInt64) hx hb dL_law_1011 rfl ?_
      refine W.lcmp hx hb dL_law_1012 ?_
      refine lv_if_eq (tgt := 1018) hx hb dL_law_1013 (by decide) (fun hc => ?_) (fun hc => ?_)
      · replace hf := (if_pos hc).symm.trans hf
        refine lv_goto (tgt := 1269) hx hb dL_law_1018 (by decide) ?_
        refine lv_iinc (v := i + (4 : Int32)) (lv' := [(4, .int (i + (4 : Int32))), (6, .int o4.1), (5, .int o2.1), (0, .ref b), (1, .ref (ad 0)), (2, .ref (ad 51)), (3, .ref (ad 62))]) hx hb dL_law_1269 hl (k := 6) rfl rfl (by decide) rfl (fun ls hl => ?_)
        refine lv_goto (tgt := 23) hx hb dL_law_1272 (by decide) ?_
        exact ih (i + (4 : Int32)) o4.2 H locs _ _ (by omega) (by omega) hP hD hS ls (lv_sub hl [3, 4, 5, 6, 0] rfl) hf
      · replace hf := (if_neg hc).symm.trans hf
        refine lv_iconst (v := (0 : Int32)) hx hb dL_law_1016 (by decide) ?_
        cases hf
  · replace hf := (if_neg hc).symm.trans hf
    refine lv_iconst (v := (0 : Int32)) hx hb dL_law_999 (by decide) ?_
    cases hf
set_option maxHeartbeats 4000000 in
set_option maxRecDepth 100000 in
theorem law_case15 {p : Program} {l : Launch} {e : Env} {s : State} {m : MethodId} {below : List Frame} {meth : Method} {c : Code} {b L : Nat} {xs : Nat → Int32} {ad : Nat → Nat} (hL : L ≤ 2048) (hst : l.stackTraces = false) (dC : Nat → ClassId) (dI : Nat → Nat → Nat) (cI cZ cR cJ : ClassId) (hG : GG dC dI cI cZ cR cJ s) (hZU : vx_Zq Bundle.tN "UNASSIGNED_STACK" Bundle.steD (fun q : Nat => s.heap.size ≤ q) s s.heap) (hZN : vx_Zq Bundle.tN "SUPPRESSED_SENTINEL" Bundle.listD (fun q : Nat => s.heap.size ≤ q) s s.heap) (C0 : lw_At p s m meth c b L xs) (N : Nat) (n : Nat) (ih : ∀ (i : Int32) (S : LSt9) (H : Heap) (locs : List Loc) (cells slots : Nat) (_ : cells + n ≤ 601024) (_ : slots + 6 * n ≤ 7293034) (_ : va_P (dC, dI) vwCl (LW cI cZ cR cJ ad S) H) (_ : va_D (fun q : Nat => s.heap.size ≤ q) (LW cI cZ cR cJ ad S)) (_ : va_S (fun q : Nat => s.heap.size ≤ q) s.heap H locs) (ls : Array Slot) (_ : lv_has ls 7 [(0, .ref b), (1, .ref (ad 0)), (2, .ref (ad 51)), (3, .ref (ad 62)), (4, .int i)]), fL N xs L n i S = some () → W p l e room_1 s m #[Value.ref b] below meth c H locs cells slots (lw_Z below #[Value.ref b] s) (F0 m 23 ls [])) (i : Int32) (S : LSt9) (H : Heap) (locs : List Loc) (cells slots : Nat) (hcl : cells + (n + 1) ≤ 601024) (hsl : slots + 6 * (n + 1) ≤ 7293034) (hP : va_P (dC, dI) vwCl (LW cI cZ cR cJ ad S) H) (hD : va_D (fun q : Nat => s.heap.size ≤ q) (LW cI cZ cR cJ ad S)) (hS : va_S (fun q : Nat => s.heap.size ≤ q) s.heap H locs) (ls : Array Slot) (hl : lv_has ls 7 [(0, .ref b), (1, .ref (ad 0)), (2, .ref (ad 51)), (3, .ref (ad 62)), (4, .int i)]) (hf : fC15 N xs L (fun i S => fL N xs L n i S) i S = some ()) : W p l e room_1 s m #[Value.ref b] below meth c H locs cells slots (lw_Z below #[Value.ref b] s) (F0 m 1021 ls []) := by
  obtain ⟨hx, hb, hr, hml, hown, hts, hX, hbl, hlocks, hgv⟩ := C0
  have hown : s.vm.findClass RL = some m.cls := hown
  have hts := fun w h => hts w (wsL_law_in w h)
  have hAz : ∀ q : Nat, s.heap.size ≤ q → (fun q : Nat => s.heap.size ≤ q) q := fun _ h => h
  have hbA : ¬ (fun q : Nat => s.heap.size ≤ q) b := Nat.not_le.mpr hbl
  have hK := hG.1
  unfold fC15 at hf
  refine lv_aload_n hx hb dL_law_1021 rfl (lv_at hl 1 rfl) ?_
  refine lv_aload_n hx hb dL_law_1022 rfl (lv_at hl 0 rfl) ?_
  refine lv_iload hx hb dL_law_1023 (lv_at hl 4 rfl) ?_
  refine lv_iconst (v := (1 : Int32)) hx hb dL_law_1025 (by decide) ?_
  refine lv_iadd hx hb dL_law_1026 ?_
  have hi1 := (gd_some hf).1
  replace hf := (gd_some hf).2
  refine va_sld hx hb hX hbl hbA hS hi1 dL_law_1027 ?_
  refine lv_aload_n hx hb dL_law_1028 rfl (lv_at hl 3 rfl) ?_
  obtain ⟨o2, ho2, hf⟩ := Option.bind_eq_some_iff.mp hf
  have hFc := hF_all hD hS hAz
  refine va_calli (vx_runSW (As := [.ref (ad 0), .int (xs (i + (1 : Int32)).toNatClampNeg), .ref (ad 62)]) (rest := []) ⟨hx, hb, hml, hown, hts⟩ (C_L_taken l hst dC dI cI cZ cR cJ ad S o2.2 (p_1 := xs (i + (1 : Int32)).toNatClampNeg) (N := N) (sz := H.size) (r0 := o2.1) ho2) (vx_cwSW 3 hts gL_law_L_taken rfl rfl rfl (by decide +kernel) ⟨Nat.le_of_ble_eq_true rfl, Nat.le_of_ble_eq_true rfl⟩) ⟨xr_blind, xr_pre hP hG hD hZU hZN hS hFc⟩ rfl rfl hl.1 rfl (lv_room (Nat.le_of_ble_eq_true rfl)) dL_law_1029 ⟨by show _ ≤ 601024; omega, by show _ ≤ 7293034; omega⟩) hS (fun q _ h => hFc q h) hFc (fun r9 u9 t9 H1 locs ht9 hv9 hw9 hB9 hz9 hk9 hS => ?_)
  subst hw9
  rw [ht9] at hB9
  have hP := hB9
  have hD : va_D (fun q : Nat => s.heap.size ≤ q) (LW cI cZ cR cJ ad o2.2) := va_D_fst hD rfl
  generalize H1 = H at hP hS ⊢
  clear hFc hB9 hz9 hk9 hv9 ht9
  refine lv_istore (lv' := [(5, .int o2.1), (0, .ref b), (1, .ref (ad 0)), (2, .ref (ad 51)), (3, .ref (ad 62)), (4, .int i)]) hx hb dL_law_1032 hl (by decide) rfl (fun ls hl => ?_)
  refine lv_aload_n hx hb dL_law_1034 rfl (lv_at hl 3 rfl) ?_
  refine lv_aload_n hx hb dL_law_1035 rfl (lv_at hl 1 rfl) ?_
  refine lv_iload hx hb dL_law_1036 (lv_at hl 5 rfl) ?_
  refine lv_iconst (v := (1 : Int32)) hx hb dL_law_1038 (by decide) ?_
  refine lv_iadd hx hb dL_law_1039 ?_
  have hi3 := (gd_some hf).1
  replace hf := (gd_some hf).2
  refine va_sld hx hb hX hbl hbA hS hi3 dL_law_1040 ?_
  obtain ⟨o4, ho4, hf⟩ := Option.bind_eq_some_iff.mp hf
  have hFc := hF_all hD hS hAz
  refine va_calli (va_runV (As := [.int (xs (i + (1 : Int32)).toNatClampNeg)]) (rest := []) ⟨hx, hb, hml, hown, hts⟩ (C_X6_taken l dC dI cI cZ cR cJ ad o2.2 o4.2 (p_1 := xs (i + (1 : Int32)).toNatClampNeg) (N := N) (sz := H.size) (r0 := o4.1) ho4) (cwV 1 hts gL_law_X6_taken rfl rfl rfl (by decide +kernel) ⟨Nat.le_of_ble_eq_true rfl, Nat.le_of_ble_eq_true rfl⟩) ⟨wr_blind, va_recv hK hP (ci := 6) (q0 := 51) rfl rfl, wr_pre hP hG hD⟩ rfl rfl hl.1 rfl (lv_room (Nat.le_of_ble_eq_true rfl)) dL_law_1041 ⟨by show _ ≤ 601024; omega, by show _ ≤ 7293034; omega⟩) hS (fun q _ h => hFc q h) hFc (fun r9 u9 t9 H1 locs ht9 hv9 hw9 hB9 hz9 hk9 hS => ?_)
  subst hw9
  rw [ht9] at hB9
  have hP := hB9
  have hD : va_D (fun q : Nat => s.heap.size ≤ q) (LW cI cZ cR cJ ad o4.2) := va_D_fst hD rfl
  generalize H1 = H at hP hS ⊢
  clear hFc hB9 hz9 hk9 hv9 ht9
  refine lv_istore (lv' := [(6, .int o4.1), (5, .int o2.1), (0, .ref b), (1, .ref (ad 0)), (2, .ref (ad 51)), (3, .ref (ad 62)), (4, .int i)]) hx hb dL_law_1044 hl (by decide) rfl (fun ls hl => ?_)
  refine lv_aload_n hx hb dL_law_1046 rfl (lv_at hl 4 rfl) ?_
  obtain ⟨o5, ho5, hf⟩ := Option.bind_eq_some_iff.mp hf
  refine pcI (va_runV (As := []) (rest := []) ⟨hx, hb, hml, hown, hts⟩ (c_X6_thrown l dC dI cI cZ cR cJ (a_this := ad 51) (a_this_candidates := ad 52) (a_this_winners := ad 53) (a_this_boxOf := ad 54) (a_this_word := ad 55) (a_this_drawn := ad 56) (a_this_isLost := ad 57) (a_this_hasRead := ad 58) (a_this_hand := ad 59) (a_this_votes := ad 60) (a_this_isWinner := ad 61) (v_this_thrown := o4.2.1 32) (v_this_races := o4.2.1 33) (v_this_boxes := o4.2.1 34) (v_this_papers := o4.2.1 35) (v_this_draws := o4.2.1 36) (v_this_isSealed := o4.2.1 37) (v_this_state := o4.2.2.2.2.1) (v_this_margin := o4.2.1 38) (v_this_having := o4.2.1 39) (v_this_x := o4.2.1 40) (v_this_m := o4.2.1 41) (v_this_took := o4.2.1 42) (N := N) (r0 := o5) ho5) (cwV 0 hts gL_law_X6_thrown rfl rfl rfl (by decide +kernel) ⟨Nat.le_of_ble_eq_true rfl, Nat.le_of_ble_eq_true rfl⟩) ⟨rd_blind, va_recv hK hP (ci := 6) (q0 := 51) rfl rfl, rd_pre (hP.sub [51] rfl) hG⟩ rfl rfl hl.1 rfl (lv_room (Nat.le_of_ble_eq_true rfl)) dL_law_1047 ⟨by show _ ≤ 601024; omega, by show _ ≤ 7293034; omega⟩) ?_
  refine lv_iload hx hb dL_law_1050 (lv_at hl 1 rfl) ?_
  refine lv_icmp_eq (tgt := 1057) hx hb dL_law_1052 (by decide) (fun hc => ?_) (fun hc => ?_)
  · replace hf := (if_pos hc).symm.trans hf
    refine lv_iload hx hb dL_law_1057 (lv_at hl 1 rfl) ?_
    refine lv_if_ne (tgt := 1074) hx hb dL_law_1059 (by decide) (fun hc => ?_) (fun hc => ?_)
    · replace hf := (if_neg hc).symm.trans hf
      refine lv_goto (tgt := 1269) hx hb dL_law_1074 (by decide) ?_
      refine lv_iinc (v := i + (4 : Int32)) (lv' := [(4, .int (i + (4 : Int32))), (6, .int o4.1), (5, .int o2.1), (0, .ref b), (1, .ref (ad 0)), (2, .ref (ad 51)), (3, .ref (ad 62))]) hx hb dL_law_1269 hl (k := 6) rfl rfl (by decide) rfl (fun ls hl => ?_)
      refine lv_goto (tgt := 23) hx hb dL_law_1272 (by decide) ?_
      exact ih (i + (4 : Int32)) o4.2 H locs _ _ (by omega) (by omega) hP hD hS ls (lv_sub hl [3, 4, 5, 6, 0] rfl) hf
    · replace hf := (if_pos hc).symm.trans hf
      refine lv_aload_n hx hb dL_law_1062 rfl (lv_at hl 5 rfl) ?_
      refine lv_iconst (v := (0 : Int32)) hx hb dL_law_1063 (by decide) ?_
      refine va_lald hx hb hK hP 62 3 rfl rfl (show vp_in (0 : Int32) 1 by unfold vp_in; decide) dL_law_1064 ?_
      refine lv_iload hx hb dL_law_1065 (lv_at hl 0 rfl) ?_
      refine lv_i2l (v := o4.1.toInt64) hx hb dL_law_1067 rfl ?_
      refine W.lcmp hx hb dL_law_1068 ?_
      refine lv_if_eq (tgt := 1074) hx hb dL_law_1069 (by decide) (fun hc => ?_) (fun hc => ?_)
      · replace hf := (if_pos hc).symm.trans hf
        refine lv_goto (tgt := 1269) hx hb dL_law_1074 (by decide) ?_
        refine lv_iinc (v := i + (4 : Int32)) (lv' := [(4, .int (i + (4 : Int32))), (6, .int o4.1), (5, .int o2.1), (0, .ref b), (1, .ref (ad 0)), (2, .ref (ad 51)), (3, .ref (ad 62))]) hx hb dL_law_1269 hl (k := 6) rfl rfl (by decide) rfl (fun ls hl => ?_)
        refine lv_goto (tgt := 23) hx hb dL_law_1272 (by decide) ?_
        exact ih (i + (4 : Int32)) o4.2 H locs _ _ (by omega) (by omega) hP hD hS ls (lv_sub hl [3, 4, 5, 6, 0] rfl) hf
      · replace hf := (if_neg hc).symm.trans hf
        refine lv_iconst (v := (0 : Int32)) hx hb dL_law_1072 (by decide) ?_
        cases hf
  · replace hf := (if_neg hc).symm.trans hf
    refine lv_iconst (v := (0 : Int32)) hx hb dL_law_1055 (by decide) ?_
    cases hf
