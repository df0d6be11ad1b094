set_option maxHeartbeats 4000000 in
set_option maxRecDepth 100000 in
theorem law_case16 {p : Program} {l : Launch} {e : Env} {s : State} {m : MethodId} {below : List Frame} {meth : Method} {c : Code} {b L : Nat} {xs : Nat → Int32} {ad : Nat → Nat} (hL : L ≤ 2048) (hst : l.stackTraces = false) (dC : Nat → ClassId) (dI : Nat → Nat → Nat) (cI cZ cR cJ : ClassId) (hG : GG dC dI cI cZ cR cJ s) (hZU : vx_Zq Bundle.tN "UNASSIGNED_STACK" Bundle.steD (fun q : Nat => s.heap.size ≤ q) s s.heap) (hZN : vx_Zq Bundle.tN "SUPPRESSED_SENTINEL" Bundle.listD (fun q : Nat => s.heap.size ≤ q) s s.heap) (C0 : lw_At p s m meth c b L xs) (N : Nat) (n : Nat) (ih : ∀ (i : Int32) (S : LSt9) (H : Heap) (locs : List Loc) (cells slots : Nat) (_ : cells + n ≤ 601024) (_ : slots + 6 * n ≤ 7293034) (_ : va_P (dC, dI) vwCl (LW cI cZ cR cJ ad S) H) (_ : va_D (fun q : Nat => s.heap.size ≤ q) (LW cI cZ cR cJ ad S)) (_ : va_S (fun q : Nat => s.heap.size ≤ q) s.heap H locs) (ls : Array Slot) (_ : lv_has ls 7 [(0, .ref b), (1, .ref (ad 0)), (2, .ref (ad 51)), (3, .ref (ad 62)), (4, .int i)]), fL N xs L n i S = some () → W p l e room_1 s m #[Value.ref b] below meth c H locs cells slots (lw_Z below #[Value.ref b] s) (F0 m 23 ls [])) (i : Int32) (S : LSt9) (H : Heap) (locs : List Loc) (cells slots : Nat) (hcl : cells + (n + 1) ≤ 601024) (hsl : slots + 6 * (n + 1) ≤ 7293034) (hP : va_P (dC, dI) vwCl (LW cI cZ cR cJ ad S) H) (hD : va_D (fun q : Nat => s.heap.size ≤ q) (LW cI cZ cR cJ ad S)) (hS : va_S (fun q : Nat => s.heap.size ≤ q) s.heap H locs) (ls : Array Slot) (hl : lv_has ls 7 [(0, .ref b), (1, .ref (ad 0)), (2, .ref (ad 51)), (3, .ref (ad 62)), (4, .int i)]) (hf : fC16 N xs L (fun i S => fL N xs L n i S) i S = some ()) : W p l e room_1 s m #[Value.ref b] below meth c H locs cells slots (lw_Z below #[Value.ref b] s) (F0 m 1077 ls []) := by
  obtain ⟨hx, hb, hr, hml, hown, hts, hX, hbl, hlocks, hgv⟩ := C0
  have hown : s.vm.findClass RL = some m.cls := hown
  have hts := fun w h => hts w (wsL_law_in w h)
  have hAz : ∀ q : Nat, s.heap.size ≤ q → (fun q : Nat => s.heap.size ≤ q) q := fun _ h => h
  have hbA : ¬ (fun q : Nat => s.heap.size ≤ q) b := Nat.not_le.mpr hbl
  have hK := hG.1
  unfold fC16 at hf
  refine lv_aload_n hx hb dL_law_1077 rfl (lv_at hl 1 rfl) ?_
  refine lv_aload_n hx hb dL_law_1078 rfl (lv_at hl 0 rfl) ?_
  refine lv_iload hx hb dL_law_1079 (lv_at hl 4 rfl) ?_
  refine lv_iconst (v := (1 : Int32)) hx hb dL_law_1081 (by decide) ?_
  refine lv_iadd hx hb dL_law_1082 ?_
  have hi1 := (gd_some hf).1
  replace hf := (gd_some hf).2
  refine va_sld hx hb hX hbl hbA hS hi1 dL_law_1083 ?_
  refine lv_aload_n hx hb dL_law_1084 rfl (lv_at hl 0 rfl) ?_
  refine lv_iload hx hb dL_law_1085 (lv_at hl 4 rfl) ?_
  refine lv_iconst (v := (2 : Int32)) hx hb dL_law_1087 (by decide) ?_
  refine lv_iadd hx hb dL_law_1088 ?_
  have hi2 := (gd_some hf).1
  replace hf := (gd_some hf).2
  refine va_sld hx hb hX hbl hbA hS hi2 dL_law_1089 ?_
  refine lv_aload_n hx hb dL_law_1090 rfl (lv_at hl 3 rfl) ?_
  obtain ⟨o3, ho3, hf⟩ := Option.bind_eq_some_iff.mp hf
  have hFc := hF_all hD hS hAz
  refine va_calli (vx_runSW (As := [.ref (ad 0), .int (xs (i + (1 : Int32)).toNatClampNeg), .int (xs (i + (2 : Int32)).toNatClampNeg), .ref (ad 62)]) (rest := []) ⟨hx, hb, hml, hown, hts⟩ (C_L_taint l hst dC dI cI cZ cR cJ ad S o3.2 (p_1 := xs (i + (1 : Int32)).toNatClampNeg) (p_2 := xs (i + (2 : Int32)).toNatClampNeg) (N := N) (sz := H.size) (r0 := o3.1) ho3) (vx_cwSW 4 hts gL_law_L_taint rfl rfl rfl (by decide +kernel) ⟨Nat.le_of_ble_eq_true rfl, Nat.le_of_ble_eq_true rfl⟩) ⟨xr_blind, xr_pre hP hG hD hZU hZN hS hFc⟩ rfl rfl hl.1 rfl (lv_room (Nat.le_of_ble_eq_true rfl)) dL_law_1091 ⟨by show _ ≤ 601024; omega, by show _ ≤ 7293034; omega⟩) hS (fun q _ h => hFc q h) hFc (fun r9 u9 t9 H1 locs ht9 hv9 hw9 hB9 hz9 hk9 hS => ?_)
  subst hw9
  rw [ht9] at hB9
  have hP := hB9
  have hD : va_D (fun q : Nat => s.heap.size ≤ q) (LW cI cZ cR cJ ad o3.2) := va_D_fst hD rfl
  generalize H1 = H at hP hS ⊢
  clear hFc hB9 hz9 hk9 hv9 ht9
  refine lv_istore (lv' := [(5, .int o3.1), (0, .ref b), (1, .ref (ad 0)), (2, .ref (ad 51)), (3, .ref (ad 62)), (4, .int i)]) hx hb dL_law_1094 hl (by decide) rfl (fun ls hl => ?_)
  refine lv_aload_n hx hb dL_law_1096 rfl (lv_at hl 3 rfl) ?_
  refine lv_aload_n hx hb dL_law_1097 rfl (lv_at hl 1 rfl) ?_
  refine lv_iload hx hb dL_law_1098 (lv_at hl 5 rfl) ?_
  refine lv_iconst (v := (1 : Int32)) hx hb dL_law_1100 (by decide) ?_
  refine lv_iadd hx hb dL_law_1101 ?_
  have hi4 := (gd_some hf).1
  replace hf := (gd_some hf).2
  refine va_sld hx hb hX hbl hbA hS hi4 dL_law_1102 ?_
  refine lv_aload_n hx hb dL_law_1103 rfl (lv_at hl 1 rfl) ?_
  refine lv_iload hx hb dL_law_1104 (lv_at hl 5 rfl) ?_
  refine lv_iconst (v := (2 : Int32)) hx hb dL_law_1106 (by decide) ?_
  refine lv_iadd hx hb dL_law_1107 ?_
  have hi5 := (gd_some hf).1
  replace hf := (gd_some hf).2
  refine va_sld hx hb hX hbl hbA hS hi5 dL_law_1108 ?_
  obtain ⟨o6, ho6, hf⟩ := Option.bind_eq_some_iff.mp hf
  have hFc := hF_all hD hS hAz
  refine va_calli (va_runV (As := [.int (xs (i + (1 : Int32)).toNatClampNeg), .int (xs (i + (2 : Int32)).toNatClampNeg)]) (rest := []) ⟨hx, hb, hml, hown, hts⟩ (C_X6_taint l dC dI cI cZ cR cJ ad o3.2 o6.2 (p_1 := xs (i + (1 : Int32)).toNatClampNeg) (p_2 := xs (i + (2 : Int32)).toNatClampNeg) (N := N) (sz := H.size) (r0 := o6.1) ho6) (cwV 2 hts gL_law_X6_taint rfl rfl rfl (by decide +kernel) ⟨Nat.le_of_ble_eq_true rfl, Nat.le_of_ble_eq_true rfl⟩) ⟨wr_blind, va_recv hK hP (ci := 6) (q0 := 51) rfl rfl, wr_pre hP hG hD⟩ rfl rfl hl.1 rfl (lv_room (Nat.le_of_ble_eq_true rfl)) dL_law_1109 ⟨by show _ ≤ 601024; omega, by show _ ≤ 7293034; omega⟩) hS (fun q _ h => hFc q h) hFc (fun r9 u9 t9 H1 locs ht9 hv9 hw9 hB9 hz9 hk9 hS => ?_)
  subst hw9
  rw [ht9] at hB9
  have hP := hB9
  have hD : va_D (fun q : Nat => s.heap.size ≤ q) (LW cI cZ cR cJ ad o6.2) := va_D_fst hD rfl
  generalize H1 = H at hP hS ⊢
  clear hFc hB9 hz9 hk9 hv9 ht9
  refine lv_istore (lv' := [(6, .int o6.1), (5, .int o3.1), (0, .ref b), (1, .ref (ad 0)), (2, .ref (ad 51)), (3, .ref (ad 62)), (4, .int i)]) hx hb dL_law_1112 hl (by decide) rfl (fun ls hl => ?_)
  refine lv_aload_n hx hb dL_law_1114 rfl (lv_at hl 4 rfl) ?_
  obtain ⟨o7, ho7, hf⟩ := Option.bind_eq_some_iff.mp hf
  refine pcI (va_runV (As := []) (rest := []) ⟨hx, hb, hml, hown, hts⟩ (c_X6_thrown l dC dI cI cZ cR cJ (a_this := ad 51) (a_this_candidates := ad 52) (a_this_winners := ad 53) (a_this_boxOf := ad 54) (a_this_word := ad 55) (a_this_drawn := ad 56) (a_this_isLost := ad 57) (a_this_hasRead := ad 58) (a_this_hand := ad 59) (a_this_votes := ad 60) (a_this_isWinner := ad 61) (v_this_thrown := o6.2.1 32) (v_this_races := o6.2.1 33) (v_this_boxes := o6.2.1 34) (v_this_papers := o6.2.1 35) (v_this_draws := o6.2.1 36) (v_this_isSealed := o6.2.1 37) (v_this_state := o6.2.2.2.2.1) (v_this_margin := o6.2.1 38) (v_this_having := o6.2.1 39) (v_this_x := o6.2.1 40) (v_this_m := o6.2.1 41) (v_this_took := o6.2.1 42) (N := N) (r0 := o7) ho7) (cwV 0 hts gL_law_X6_thrown rfl rfl rfl (by decide +kernel) ⟨Nat.le_of_ble_eq_true rfl, Nat.le_of_ble_eq_true rfl⟩) ⟨rd_blind, va_recv hK hP (ci := 6) (q0 := 51) rfl rfl, rd_pre (hP.sub [51] rfl) hG⟩ rfl rfl hl.1 rfl (lv_room (Nat.le_of_ble_eq_true rfl)) dL_law_1115 ⟨by show _ ≤ 601024; omega, by show _ ≤ 7293034; omega⟩) ?_
  refine lv_iload hx hb dL_law_1118 (lv_at hl 1 rfl) ?_
  refine lv_icmp_eq (tgt := 1125) hx hb dL_law_1120 (by decide) (fun hc => ?_) (fun hc => ?_)
  · replace hf := (if_pos hc).symm.trans hf
    refine lv_iload hx hb dL_law_1125 (lv_at hl 1 rfl) ?_
    refine lv_if_ne (tgt := 1142) hx hb dL_law_1127 (by decide) (fun hc => ?_) (fun hc => ?_)
    · replace hf := (if_neg hc).symm.trans hf
      refine lv_goto (tgt := 1269) hx hb dL_law_1142 (by decide) ?_
      refine lv_iinc (v := i + (4 : Int32)) (lv' := [(4, .int (i + (4 : Int32))), (6, .int o6.1), (5, .int o3.1), (0, .ref b), (1, .ref (ad 0)), (2, .ref (ad 51)), (3, .ref (ad 62))]) hx hb dL_law_1269 hl (k := 6) rfl rfl (by decide) rfl (fun ls hl => ?_)
      refine lv_goto (tgt := 23) hx hb dL_law_1272 (by decide) ?_
      exact ih (i + (4 : Int32)) o6.2 H locs _ _ (by omega) (by omega) hP hD hS ls (lv_sub hl [3, 4, 5, 6, 0] rfl) hf
    · replace hf := (if_pos hc).symm.trans hf
      refine lv_aload_n hx hb dL_law_1130 rfl (lv_at hl 5 rfl) ?_
      refine lv_iconst (v := (0 : Int32)) hx hb dL_law_1131 (by decide) ?_
      refine va_lald hx hb hK hP 62 3 rfl rfl (show vp_in (0 : Int32) 1 by unfold vp_in; decide) dL_law_1132 ?_
      refine lv_iload hx hb dL_law_1133 (lv_at hl 0 rfl) ?_
      refine lv_i2l (v := o6.1.toInt64) hx hb dL_law_1135 rfl ?_
      refine W.lcmp hx hb dL_law_1136 ?_
      refine lv_if_eq (tgt := 1142) hx hb dL_law_1137 (by decide) (fun hc => ?_) (fun hc => ?_)
      · replace hf := (if_pos hc).symm.trans hf
        refine lv_goto (tgt := 1269) hx hb dL_law_1142 (by decide) ?_
        refine lv_iinc (v := i + (4 : Int32)) (lv' := [(4, .int (i + (4 : Int32))), (6, .int o6.1), (5, .int o3.1), (0, .ref b), (1, .ref (ad 0)), (2, .ref (ad 51)), (3, .ref (ad 62))]) hx hb dL_law_1269 hl (k := 6) rfl rfl (by decide) rfl (fun ls hl => ?_)
        refine lv_goto (tgt := 23) hx hb dL_law_1272 (by decide) ?_
        exact ih (i + (4 : Int32)) o6.2 H locs _ _ (by omega) (by omega) hP hD hS ls (lv_sub hl [3, 4, 5, 6, 0] rfl) hf
      · replace hf := (if_neg hc).symm.trans hf
        refine lv_iconst (v := (0 : Int32)) hx hb dL_law_1140 (by decide) ?_
        cases hf
  · replace hf := (if_neg hc).symm.trans hf
    refine lv_iconst (v := (0 : Int32)) hx hb dL_law_1123 (by decide) ?_
    cases hf
set_option maxHeartbeats 4000000 in
set_option maxRecDepth 100000 in
theorem law_case17 {p : Program} {l : Launch} {e : Env} {s : State} {m : MethodId} {below : List Frame} {meth : Method} {c : Code} {b L : Nat} {xs : Nat → Int32} {ad : Nat → Nat} (hL : L ≤ 2048) (hst : l.stackTraces = false) (dC : Nat → ClassId) (dI : Nat → Nat → Nat) (cI cZ cR cJ : ClassId) (hG : GG dC dI cI cZ cR cJ s) (hZU : vx_Zq Bundle.tN "UNASSIGNED_STACK" Bundle.steD (fun q : Nat => s.heap.size ≤ q) s s.heap) (hZN : vx_Zq Bundle.tN "SUPPRESSED_SENTINEL" Bundle.listD (fun q : Nat => s.heap.size ≤ q) s s.heap) (C0 : lw_At p s m meth c b L xs) (N : Nat) (n : Nat) (ih : ∀ (i : Int32) (S : LSt9) (H : Heap) (locs : List Loc) (cells slots : Nat) (_ : cells + n ≤ 601024) (_ : slots + 6 * n ≤ 7293034) (_ : va_P (dC, dI) vwCl (LW cI cZ cR cJ ad S) H) (_ : va_D (fun q : Nat => s.heap.size ≤ q) (LW cI cZ cR cJ ad S)) (_ : va_S (fun q : Nat => s.heap.size ≤ q) s.heap H locs) (ls : Array Slot) (_ : lv_has ls 7 [(0, .ref b), (1, .ref (ad 0)), (2, .ref (ad 51)), (3, .ref (ad 62)), (4, .int i)]), fL N xs L n i S = some () → W p l e room_1 s m #[Value.ref b] below meth c H locs cells slots (lw_Z below #[Value.ref b] s) (F0 m 23 ls [])) (i : Int32) (S : LSt9) (H : Heap) (locs : List Loc) (cells slots : Nat) (hcl : cells + (n + 1) ≤ 601024) (hsl : slots + 6 * (n + 1) ≤ 7293034) (hP : va_P (dC, dI) vwCl (LW cI cZ cR cJ ad S) H) (hD : va_D (fun q : Nat => s.heap.size ≤ q) (LW cI cZ cR cJ ad S)) (hS : va_S (fun q : Nat => s.heap.size ≤ q) s.heap H locs) (ls : Array Slot) (hl : lv_has ls 7 [(0, .ref b), (1, .ref (ad 0)), (2, .ref (ad 51)), (3, .ref (ad 62)), (4, .int i)]) (hf : fC17 N xs L (fun i S => fL N xs L n i S) i S = some ()) : W p l e room_1 s m #[Value.ref b] below meth c H locs cells slots (lw_Z below #[Value.ref b] s) (F0 m 1145 ls []) := by
  obtain ⟨hx, hb, hr, hml, hown, hts, hX, hbl, hlocks, hgv⟩ := C0
  have hown : s.vm.findClass RL = some m.cls := hown
  have hts := fun w h => hts w (wsL_law_in w h)
  have hAz : ∀ q : Nat, s.heap.size ≤ q → (fun q : Nat => s.heap.size ≤ q) q := fun _ h => h
  have hbA : ¬ (fun q : Nat => s.heap.size ≤ q) b := Nat.not_le.mpr hbl
  have hK := hG.1
  unfold fC17 at hf
  refine lv_aload_n hx hb dL_law_1145 rfl (lv_at hl 1 rfl) ?_
  refine lv_aload_n hx hb dL_law_1146 rfl (lv_at hl 0 rfl) ?_
  refine lv_iload hx hb dL_law_1147 (lv_at hl 4 rfl) ?_
  refine lv_iconst (v := (1 : Int32)) hx hb dL_law_1149 (by decide) ?_
  refine lv_iadd hx hb dL_law_1150 ?_
  have hi1 := (gd_some hf).1
  replace hf := (gd_some hf).2
  refine va_sld hx hb hX hbl hbA hS hi1 dL_law_1151 ?_
  refine lv_aload_n hx hb dL_law_1152 rfl (lv_at hl 0 rfl) ?_
  refine lv_iload hx hb dL_law_1153 (lv_at hl 4 rfl) ?_
  refine lv_iconst (v := (2 : Int32)) hx hb dL_law_1155 (by decide) ?_
  refine lv_iadd hx hb dL_law_1156 ?_
  have hi2 := (gd_some hf).1
  replace hf := (gd_some hf).2
  refine va_sld hx hb hX hbl hbA hS hi2 dL_law_1157 ?_
  refine lv_aload_n hx hb dL_law_1158 rfl (lv_at hl 3 rfl) ?_
  obtain ⟨o3, ho3, hf⟩ := Option.bind_eq_some_iff.mp hf
  have hFc := hF_all hD hS hAz
  refine va_calli (vx_runSW (As := [.ref (ad 0), .int (xs (i + (1 : Int32)).toNatClampNeg), .int (xs (i + (2 : Int32)).toNatClampNeg), .ref (ad 62)]) (rest := []) ⟨hx, hb, hml, hown, hts⟩ (C_L_need l hst dC dI cI cZ cR cJ ad S o3.2 (p_1 := xs (i + (1 : Int32)).toNatClampNeg) (p_2 := xs (i + (2 : Int32)).toNatClampNeg) (N := N) (sz := H.size) (r0 := o3.1) ho3) (vx_cwSW 4 hts gL_law_L_need rfl rfl rfl (by decide +kernel) ⟨Nat.le_of_ble_eq_true rfl, Nat.le_of_ble_eq_true rfl⟩) ⟨xr_blind, xr_pre hP hG hD hZU hZN hS hFc⟩ rfl rfl hl.1 rfl (lv_room (Nat.le_of_ble_eq_true rfl)) dL_law_1159 ⟨by show _ ≤ 601024; omega, by show _ ≤ 7293034; omega⟩) hS (fun q _ h => hFc q h) hFc (fun r9 u9 t9 H1 locs ht9 hv9 hw9 hB9 hz9 hk9 hS => ?_)
  subst hw9
  rw [ht9] at hB9
  have hP := hB9
  have hD : va_D (fun q : Nat => s.heap.size ≤ q) (LW cI cZ cR cJ ad o3.2) := va_D_fst hD rfl
  generalize H1 = H at hP hS ⊢
  clear hFc hB9 hz9 hk9 hv9 ht9
  refine lv_istore (lv' := [(5, .int o3.1), (0, .ref b), (1, .ref (ad 0)), (2, .ref (ad 51)), (3, .ref (ad 62)), (4, .int i)]) hx hb dL_law_1162 hl (by decide) rfl (fun ls hl => ?_)
  refine lv_aload_n hx hb dL_law_1164 rfl (lv_at hl 3 rfl) ?_
  refine lv_aload_n hx hb dL_law_1165 rfl (lv_at hl 1 rfl) ?_
  refine lv_iload hx hb dL_law_1166 (lv_at hl 5 rfl) ?_
  refine lv_iconst (v := (1 : Int32)) hx hb dL_law_1168 (by decide) ?_
  refine lv_iadd hx hb dL_law_1169 ?_
  have hi4 := (gd_some hf).1
  replace hf := (gd_some hf).2
  refine va_sld hx hb hX hbl hbA hS hi4 dL_law_1170 ?_
  refine lv_aload_n hx hb dL_law_1171 rfl (lv_at hl 1 rfl) ?_
  refine lv_iload hx hb dL_law_1172 (lv_at hl 5 rfl) ?_
  refine lv_iconst (v := (2 : Int32)) hx hb dL_law_1174 (by decide) ?_
  refine lv_iadd hx hb dL_law_1175 ?_
  have hi5 := (gd_some hf).1
  replace hf := (gd_some hf).2
  refine va_sld hx hb hX hbl hbA hS hi5 dL_law_1176 ?_
  obtain ⟨o6, ho6, hf⟩ := Option.bind_eq_some_iff.mp hf
  have hFc := hF_all hD hS hAz
  refine va_calli (va_runV (As := [.int (xs (i + (1 : Int32)).toNatClampNeg), .int (xs (i + (2 : Int32)).toNatClampNeg)]) (rest := []) ⟨hx, hb, hml, hown, hts⟩ (C_X6_need l dC dI cI cZ cR cJ ad o3.2 o6.2 (p_1 := xs (i + (1 : Int32)).toNatClampNeg) (p_2 := xs (i + (2 : Int32)).toNatClampNeg) (N := N) (sz := H.size) (r0 := o6.1) ho6) (cwV 2 hts gL_law_X6_need rfl rfl rfl (by decide +kernel) ⟨Nat.le_of_ble_eq_true rfl, Nat.le_of_ble_eq_true rfl⟩) ⟨wr_blind, va_recv hK hP (ci := 6) (q0 := 51) rfl rfl, wr_pre hP hG hD⟩ rfl rfl hl.1 rfl (lv_room (Nat.le_of_ble_eq_true rfl)) dL_law_1177 ⟨by show _ ≤ 601024; omega, by show _ ≤ 7293034; omega⟩) hS (fun q _ h => hFc q h) hFc (fun r9 u9 t9 H1 locs ht9 hv9 hw9 hB9 hz9 hk9 hS => ?_)
  subst hw9
  rw [ht9] at hB9
  have hP := hB9
  have hD : va_D (fun q : Nat => s.heap.size ≤ q) (LW cI cZ cR cJ ad o6.2) := va_D_fst hD rfl
  generalize H1 = H at hP hS ⊢
  clear hFc hB9 hz9 hk9 hv9 ht9
  refine lv_istore (lv' := [(6, .int o6.1), (5, .int o3.1), (0, .ref b), (1, .ref (ad 0)), (2, .ref (ad 51)), (3, .ref (ad 62)), (4, .int i)]) hx hb dL_law_1180 hl (by decide) rfl (fun ls hl => ?_)
  refine lv_aload_n hx hb dL_law_1182 rfl (lv_at hl 4 rfl) ?_
  obtain ⟨o7, ho7, hf⟩ := Option.bind_eq_some_iff.mp hf
  refine pcI (va_runV (As := []) (rest := []) ⟨hx, hb, hml, hown, hts⟩ (c_X6_thrown l dC dI cI cZ cR cJ (a_this := ad 51) (a_this_candidates := ad 52) (a_this_winners := ad 53) (a_this_boxOf := ad 54) (a_this_word := ad 55) (a_this_drawn := ad 56) (a_this_isLost := ad 57) (a_this_hasRead := ad 58) (a_this_hand := ad 59) (a_this_votes := ad 60) (a_this_isWinner := ad 61) (v_this_thrown := o6.2.1 32) (v_this_races := o6.2.1 33) (v_this_boxes := o6.2.1 34) (v_this_papers := o6.2.1 35) (v_this_draws := o6.2.1 36) (v_this_isSealed := o6.2.1 37) (v_this_state := o6.2.2.2.2.1) (v_this_margin := o6.2.1 38) (v_this_having := o6.2.1 39) (v_this_x := o6.2.1 40) (v_this_m := o6.2.1 41) (v_this_took := o6.2.1 42) (N := N) (r0 := o7) ho7) (cwV 0 hts gL_law_X6_thrown rfl rfl rfl (by decide +kernel) ⟨Nat.le_of_ble_eq_true rfl, Nat.le_of_ble_eq_true rfl⟩) ⟨rd_blind, va_recv hK hP (ci := 6) (q0 := 51) rfl rfl, rd_pre (hP.sub [51] rfl) hG⟩ rfl rfl hl.1 rfl (lv_room (Nat.le_of_ble_eq_true rfl)) dL_law_1183 ⟨by show _ ≤ 601024; omega, by show _ ≤ 7293034; omega⟩) ?_
  refine lv_iload hx hb dL_law_1186 (lv_at hl 1 rfl) ?_
  refine lv_icmp_eq (tgt := 1193) hx hb dL_law_1188 (by decide) (fun hc => ?_) (fun hc => ?_)
  · replace hf := (if_pos hc).symm.trans hf
    refine lv_iload hx hb dL_law_1193 (lv_at hl 1 rfl) ?_
    refine lv_if_ne (tgt := 1210) hx hb dL_law_1195 (by decide) (fun hc => ?_) (fun hc => ?_)
    · replace hf := (if_neg hc).symm.trans hf
      refine lv_goto (tgt := 1269) hx hb dL_law_1210 (by decide) ?_
      refine lv_iinc (v := i + (4 : Int32)) (lv' := [(4, .int (i + (4 : Int32))), (6, .int o6.1), (5, .int o3.1), (0, .ref b), (1, .ref (ad 0)), (2, .ref (ad 51)), (3, .ref (ad 62))]) hx hb dL_law_1269 hl (k := 6) rfl rfl (by decide) rfl (fun ls hl => ?_)
      refine lv_goto (tgt := 23) hx hb dL_law_1272 (by decide) ?_
      exact ih (i + (4 : Int32)) o6.2 H locs _ _ (by omega) (by omega) hP hD hS ls (lv_sub hl [3, 4, 5, 6, 0] rfl) hf
    · replace hf := (if_pos hc).symm.trans hf
      refine lv_aload_n hx hb dL_law_1198 rfl (lv_at hl 5 rfl) ?_
      refine lv_iconst (v := (0 : Int32)) hx hb dL_law_1199 (by decide) ?_
      refine va_lald hx hb hK hP 62 3 rfl rfl (show vp_in (0 : Int32) 1 by unfold vp_in; decide) dL_law_1200 ?_
      refine lv_iload hx hb dL_law_1201 (lv_at hl 0 rfl) ?_
      refine lv_i2l (v := o6.1.toInt64) hx hb dL_law_1203 rfl ?_
      refine W.lcmp hx hb dL_law_1204 ?_
      refine lv_if_eq (tgt := 1210) hx hb dL_law_1205 (by decide) (fun hc => ?_) (fun hc => ?_)
      · replace hf := (if_pos hc).symm.trans hf
        refine lv_goto (tgt := 1269) hx hb dL_law_1210 (by decide) ?_
        refine lv_iinc (v := i + (4 : Int32)) (lv' := [(4, .int (i + (4 : Int32))), (6, .int o6.1), (5, .int o3.1), (0, .ref b), (1, .ref (ad 0)), (2, .ref (ad 51)), (3, .ref (ad 62))]) hx hb dL_law_1269 hl (k := 6) rfl rfl (by decide) rfl (fun ls hl => ?_)
        refine lv_goto (tgt := 23) hx hb dL_law_1272 (by decide) ?_
        exact ih (i + (4 : Int32)) o6.2 H locs _ _ (by omega) (by omega) hP hD hS ls (lv_sub hl [3, 4, 5, 6, 0] rfl) hf
      · replace hf := (if_neg hc).symm.trans hf
        refine lv_iconst (v := (0 : Int32)) hx hb dL_law_1208 (by decide) ?_
        cases hf
  · replace hf := (if_neg hc).symm.trans hf
    refine lv_iconst (v := (0 : Int32)) hx hb dL_law_1191 (by decide) ?_
    cases hf
set_option maxHeartbeats 4000000 in
set_option maxRecDepth 100000 in
theorem law_case18 {p : Program} {l : Launch} {e : Env} {s : State} {m : MethodId} {below : List Frame} {meth : Method} {c : Code} {b L : Nat} {xs : Nat → Int32} {ad : Nat → Nat} (hL : L ≤ 2048) (hst : l.stackTraces = false) (dC : Nat → ClassId) (dI : Nat → Nat → Nat) (cI cZ cR cJ : ClassId) (hG : GG dC dI cI cZ cR cJ s) (hZU : vx_Zq Bundle.tN "UNASSIGNED_STACK" Bundle.steD (fun q : Nat => s.heap.size ≤ q) s s.heap) (hZN : vx_Zq Bundle.tN "SUPPRESSED_SENTINEL" Bundle.listD (fun q : Nat => s.heap.size ≤ q) s s.heap) (C0 : lw_At p s m meth c b L xs) (N : Nat) (n : Nat) (ih : ∀ (i : Int32) (S : LSt9) (H : Heap) (locs : List Loc) (cells slots : Nat) (_ : cells + n ≤ 601024) (_ : slots + 6 * n ≤ 7293034) (_ : va_P (dC, dI) vwCl (LW cI cZ cR cJ ad S) H) (_ : va_D (fun q : Nat => s.heap.size ≤ q) (LW cI cZ cR cJ ad S)) (_ : va_S (fun q : Nat => s.heap.size ≤ q) s.heap H locs) (ls : Array Slot) (_ : lv_has ls 7 [(0, .ref b), (1, .ref (ad 0)), (2, .ref (ad 51)), (3, .ref (ad 62)), (4, .int i)]), fL N xs L n i S = some () → W p l e room_1 s m #[Value.ref b] below meth c H locs cells slots (lw_Z below #[Value.ref b] s) (F0 m 23 ls [])) (i : Int32) (S : LSt9) (H : Heap) (locs : List Loc) (cells slots : Nat) (hcl : cells + (n + 1) ≤ 601024) (hsl : slots + 6 * (n + 1) ≤ 7293034) (hP : va_P (dC, dI) vwCl (LW cI cZ cR cJ ad S) H) (hD : va_D (fun q : Nat => s.heap.size ≤ q) (LW cI cZ cR cJ ad S)) (hS : va_S (fun q : Nat => s.heap.size ≤ q) s.heap H locs) (ls : Array Slot) (hl : lv_has ls 7 [(0, .ref b), (1, .ref (ad 0)), (2, .ref (ad 51)), (3, .ref (ad 62)), (4, .int i)]) (hf : fC18 N xs L (fun i S => fL N xs L n i S) i S = some ()) : W p l e room_1 s m #[Value.ref b] below meth c H locs cells slots (lw_Z below #[Value.ref b] s) (F0 m 1213 ls []) := by
  obtain ⟨hx, hb, hr, hml, hown, hts, hX, hbl, hlocks, hgv⟩ := C0
  have hown : s.vm.findClass RL = some m.cls := hown
  have hts := fun w h => hts w (wsL_law_in w h)
  have hAz : ∀ q : Nat, s.heap.size ≤ q → (fun q : Nat => s.heap.size ≤ q) q := fun _ h => h
  have hbA : ¬ (fun q : Nat => s.heap.size ≤ q) b := Nat.not_le.mpr hbl
  have hK := hG.1
  unfold fC18 at hf
  refine lv_aload_n hx hb dL_law_1213 rfl (lv_at hl 1 rfl) ?_
  refine lv_aload_n hx hb dL_law_1214 rfl (lv_at hl 0 rfl) ?_
  refine lv_iload hx hb dL_law_1215 (lv_at hl 4 rfl) ?_
  refine lv_iconst (v := (1 : Int32)) hx hb dL_law_1217 (by decide) ?_
  refine lv_iadd hx hb dL_law_1218 ?_
  have hi1 := (gd_some hf).1
  replace hf := (gd_some hf).2
  refine va_sld hx hb hX hbl hbA hS hi1 dL_law_1219 ?_
  refine lv_aload_n hx hb dL_law_1220 rfl (lv_at hl 3 rfl) ?_
  obtain ⟨o2, ho2, hf⟩ := Option.bind_eq_some_iff.mp hf
  have hFc := hF_all hD hS hAz
  refine va_calli (vx_runSW (As := [.ref (ad 0), .int (xs (i + (1 : Int32)).toNatClampNeg), .ref (ad 62)]) (rest := []) ⟨hx, hb, hml, hown, hts⟩ (C_L_count l hst dC dI cI cZ cR cJ ad S o2.2 (p_1 := xs (i + (1 : Int32)).toNatClampNeg) (N := N) (sz := H.size) (r0 := o2.1) ho2) (vx_cwSW 3 hts gL_law_L_count rfl rfl rfl (by decide +kernel) ⟨Nat.le_of_ble_eq_true rfl, Nat.le_of_ble_eq_true rfl⟩) ⟨xr_blind, xr_pre hP hG hD hZU hZN hS hFc⟩ rfl rfl hl.1 rfl (lv_room (Nat.le_of_ble_eq_true rfl)) dL_law_1221 ⟨by show _ ≤ 601024; omega, by show _ ≤ 7293034; omega⟩) hS (fun q _ h => hFc q h) hFc (fun r9 u9 t9 H1 locs ht9 hv9 hw9 hB9 hz9 hk9 hS => ?_)
  subst hw9
  rw [ht9] at hB9
  have hP := hB9
  have hD : va_D (fun q : Nat => s.heap.size ≤ q) (LW cI cZ cR cJ ad o2.2) := va_D_fst hD rfl
  generalize H1 = H at hP hS ⊢
  clear hFc hB9 hz9 hk9 hv9 ht9
  refine lv_istore (lv' := [(5, .int o2.1), (0, .ref b), (1, .ref (ad 0)), (2, .ref (ad 51)), (3, .ref (ad 62)), (4, .int i)]) hx hb dL_law_1224 hl (by decide) rfl (fun ls hl => ?_)
  refine lv_aload_n hx hb dL_law_1226 rfl (lv_at hl 3 rfl) ?_
  refine lv_aload_n hx hb dL_law_1227 rfl (lv_at hl 1 rfl) ?_
  refine lv_iload hx hb dL_law_1228 (lv_at hl 5 rfl) ?_
  refine lv_iconst (v := (1 : Int32)) hx hb dL_law_1230 (by decide) ?_
  refine lv_iadd hx hb dL_law_1231 ?_
  have hi3 := (gd_some hf).1
  replace hf := (gd_some hf).2
  refine va_sld hx hb hX hbl hbA hS hi3 dL_law_1232 ?_
  obtain ⟨o4, ho4, hf⟩ := Option.bind_eq_some_iff.mp hf
  have hFc := hF_all hD hS hAz
  refine va_calli (va_runV (As := [.int (xs (i + (1 : Int32)).toNatClampNeg)]) (rest := []) ⟨hx, hb, hml, hown, hts⟩ (C_X6_count l dC dI cI cZ cR cJ ad o2.2 o4.2 (p_1 := xs (i + (1 : Int32)).toNatClampNeg) (N := N) (sz := H.size) (r0 := o4.1) ho4) (cwV 1 hts gL_law_X6_count rfl rfl rfl (by decide +kernel) ⟨Nat.le_of_ble_eq_true rfl, Nat.le_of_ble_eq_true rfl⟩) ⟨wr_blind, va_recv hK hP (ci := 6) (q0 := 51) rfl rfl, wr_pre hP hG hD⟩ rfl rfl hl.1 rfl (lv_room (Nat.le_of_ble_eq_true rfl)) dL_law_1233 ⟨by show _ ≤ 601024; omega, by show _ ≤ 7293034; omega⟩) hS (fun q _ h => hFc q h) hFc (fun r9 u9 t9 H1 locs ht9 hv9 hw9 hB9 hz9 hk9 hS => ?_)
  subst hw9
  rw [ht9] at hB9
  have hP := hB9
  have hD : va_D (fun q : Nat => s.heap.size ≤ q) (LW cI cZ cR cJ ad o4.2) := va_D_fst hD rfl
  generalize H1 = H at hP hS ⊢
  clear hFc hB9 hz9 hk9 hv9 ht9
  refine lv_istore (lv' := [(6, .int o4.1), (5, .int o2.1), (0, .ref b), (1, .ref (ad 0)), (2, .ref (ad 51)), (3, .ref (ad 62)), (4, .int i)]) hx hb dL_law_1236 hl (by decide) rfl (fun ls hl => ?_)
  refine lv_aload_n hx hb dL_law_1238 rfl (lv_at hl 4 rfl) ?_
  obtain ⟨o5, ho5, hf⟩ := Option.bind_eq_some_iff.mp hf
  refine pcI (va_runV (As := []) (rest := []) ⟨hx, hb, hml, hown, hts⟩ (c_X6_thrown l dC dI cI cZ cR cJ (a_this := ad 51) (a_this_candidates := ad 52) (a_this_winners := ad 53) (a_this_boxOf := ad 54) (a_this_word := ad 55) (a_this_drawn := ad 56) (a_this_isLost := ad 57) (a_this_hasRead := ad 58) (a_this_hand := ad 59) (a_this_votes := ad 60) (a_this_isWinner := ad 61) (v_this_thrown := o4.2.1 32) (v_this_races := o4.2.1 33) (v_this_boxes := o4.2.1 34) (v_this_papers := o4.2.1 35) (v_this_draws := o4.2.1 36) (v_this_isSealed := o4.2.1 37) (v_this_state := o4.2.2.2.2.1) (v_this_margin := o4.2.1 38) (v_this_having := o4.2.1 39) (v_this_x := o4.2.1 40) (v_this_m := o4.2.1 41) (v_this_took := o4.2.1 42) (N := N) (r0 := o5) ho5) (cwV 0 hts gL_law_X6_thrown rfl rfl rfl (by decide +kernel) ⟨Nat.le_of_ble_eq_true rfl, Nat.le_of_ble_eq_true rfl⟩) ⟨rd_blind, va_recv hK hP (ci := 6) (q0 := 51) rfl rfl, rd_pre (hP.sub [51] rfl) hG⟩ rfl rfl hl.1 rfl (lv_room (Nat.le_of_ble_eq_true rfl)) dL_law_1239 ⟨by show _ ≤ 601024; omega, by show _ ≤ 7293034; omega⟩) ?_
  refine lv_iload hx hb dL_law_1242 (lv_at hl 1 rfl) ?_
  refine lv_icmp_eq (tgt := 1249) hx hb dL_law_1244 (by decide) (fun hc => ?_) (fun hc => ?_)
  · replace hf := (if_pos hc).symm.trans hf
    refine lv_iload hx hb dL_law_1249 (lv_at hl 1 rfl) ?_
    refine lv_if_ne (tgt := 1266) hx hb dL_law_1251 (by decide) (fun hc => ?_) (fun hc => ?_)
    · replace hf := (if_neg hc).symm.trans hf
      refine lv_goto (tgt := 1269) hx hb dL_law_1266 (by decide) ?_
      refine lv_iinc (v := i + (4 : Int32)) (lv' := [(4, .int (i + (4 : Int32))), (6, .int o4.1), (5, .int o2.1), (0, .ref b), (1, .ref (ad 0)), (2, .ref (ad 51)), (3, .ref (ad 62))]) hx hb dL_law_1269 hl (k := 6) rfl rfl (by decide) rfl (fun ls hl => ?_)
      refine lv_goto (tgt := 23) hx hb dL_law_1272 (by decide) ?_
      exact ih (i + (4 : Int32)) o4.2 H locs _ _ (by omega) (by omega) hP hD hS ls (lv_sub hl [3, 4, 5, 6, 0] rfl) hf
    · replace hf := (if_pos hc).symm.trans hf
      refine lv_aload_n hx hb dL_law_1254 rfl (lv_at hl 5 rfl) ?_
      refine lv_iconst (v := (0 : Int32)) hx hb dL_law_1255 (by decide) ?_
      refine va_lald hx hb hK hP 62 3 rfl rfl (show vp_in (0 : Int32) 1 by unfold vp_in; decide) dL_law_1256 ?_
      refine lv_iload hx hb dL_law_1257 (lv_at hl 0 rfl) ?_
      refine lv_i2l (v := o4.1.toInt64) hx hb dL_law_1259 rfl ?_
      refine W.lcmp hx hb dL_law_1260 ?_
      refine lv_if_eq (tgt := 1266) hx hb dL_law_1261 (by decide) (fun hc => ?_) (fun hc => ?_)
      · replace hf := (if_pos hc).symm.trans hf
        refine lv_goto (tgt := 1269) hx hb dL_law_1266 (by decide) ?_
        refine lv_iinc (v := i + (4 : Int32)) (lv' := [(4, .int (i + (4 : Int32))), (6, .int o4.1), (5, .int o2.1), (0, .ref b), (1, .ref (ad 0)), (2, .ref (ad 51)), (3, .ref (ad 62))]) hx hb dL_law_1269 hl (k := 6) rfl rfl (by decide) rfl (fun ls hl => ?_)
        refine lv_goto (tgt := 23) hx hb dL_law_1272 (by decide) ?_
        exact ih (i + (4 : Int32)) o4.2 H locs _ _ (by omega) (by omega) hP hD hS ls (lv_sub hl [3, 4, 5, 6, 0] rfl) hf
      · replace hf := (if_neg hc).symm.trans hf
        refine lv_iconst (v := (0 : Int32)) hx hb dL_law_1264 (by decide) ?_
        cases hf
  · replace hf := (if_neg hc).symm.trans hf
    refine lv_iconst (v := (0 : Int32)) hx hb dL_law_1247 (by decide) ?_
    cases hf
