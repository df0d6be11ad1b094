set_option maxHeartbeats 4000000 in
set_option maxRecDepth 100000 in
theorem law_case0 {p : Program} {l : Launch} {e : Env} {s : State} {m : MethodId} {below : List Frame} {meth : Method} {c : Code} {b L : Nat} {xs : Nat → Int32} {ad : Nat → Nat} (hL : L ≤ 2048) (hst : l.stackTraces = false) (dC : Nat → ClassId) (dI : Nat → Nat → Nat) (cI cZ cR cJ : ClassId) (hG : GG dC dI cI cZ cR cJ s) (hZU : vx_Zq Bundle.tN "UNASSIGNED_STACK" Bundle.steD (fun q : Nat => s.heap.size ≤ q) s s.heap) (hZN : vx_Zq Bundle.tN "SUPPRESSED_SENTINEL" Bundle.listD (fun q : Nat => s.heap.size ≤ q) s s.heap) (C0 : lw_At p s m meth c b L xs) (N : Nat) (n : Nat) (ih : ∀ (i : Int32) (S : LSt9) (H : Heap) (locs : List Loc) (cells slots : Nat) (_ : cells + n ≤ 601024) (_ : slots + 6 * n ≤ 7293034) (_ : va_P (dC, dI) vwCl (LW cI cZ cR cJ ad S) H) (_ : va_D (fun q : Nat => s.heap.size ≤ q) (LW cI cZ cR cJ ad S)) (_ : va_S (fun q : Nat => s.heap.size ≤ q) s.heap H locs) (ls : Array Slot) (_ : lv_has ls 7 [(0, .ref b), (1, .ref (ad 0)), (2, .ref (ad 51)), (3, .ref (ad 62)), (4, .int i)]), fL N xs L n i S = some () → W p l e room_1 s m #[Value.ref b] below meth c H locs cells slots (lw_Z below #[Value.ref b] s) (F0 m 23 ls [])) (i : Int32) (S : LSt9) (H : Heap) (locs : List Loc) (cells slots : Nat) (hcl : cells + (n + 1) ≤ 601024) (hsl : slots + 6 * (n + 1) ≤ 7293034) (hP : va_P (dC, dI) vwCl (LW cI cZ cR cJ ad S) H) (hD : va_D (fun q : Nat => s.heap.size ≤ q) (LW cI cZ cR cJ ad S)) (hS : va_S (fun q : Nat => s.heap.size ≤ q) s.heap H locs) (ls : Array Slot) (hl : lv_has ls 7 [(0, .ref b), (1, .ref (ad 0)), (2, .ref (ad 51)), (3, .ref (ad 62)), (4, .int i)]) (hf : fC0 N xs L (fun i S => fL N xs L n i S) i S = some ()) : W p l e room_1 s m #[Value.ref b] below meth c H locs cells slots (lw_Z below #[Value.ref b] s) (F0 m 128 ls []) := by
  obtain ⟨hx, hb, hr, hml, hown, hts, hX, hbl, hlocks, hgv⟩ := C0
  have hown : s.vm.findClass RL = some m.cls := hown
  have hts := fun w h => hts w (wsL_law_in w h)
  have hAz : ∀ q : Nat, s.heap.size ≤ q → (fun q : Nat => s.heap.size ≤ q) q := fun _ h => h
  have hbA : ¬ (fun q : Nat => s.heap.size ≤ q) b := Nat.not_le.mpr hbl
  have hK := hG.1
  unfold fC0 at hf
  refine lv_aload_n hx hb dL_law_128 rfl (lv_at hl 1 rfl) ?_
  refine lv_aload_n hx hb dL_law_129 rfl (lv_at hl 0 rfl) ?_
  refine lv_iload hx hb dL_law_130 (lv_at hl 4 rfl) ?_
  refine lv_iconst (v := (1 : Int32)) hx hb dL_law_132 (by decide) ?_
  refine lv_iadd hx hb dL_law_133 ?_
  have hi1 := (gd_some hf).1
  replace hf := (gd_some hf).2
  refine va_sld hx hb hX hbl hbA hS hi1 dL_law_134 ?_
  refine lv_aload_n hx hb dL_law_135 rfl (lv_at hl 0 rfl) ?_
  refine lv_iload hx hb dL_law_136 (lv_at hl 4 rfl) ?_
  refine lv_iconst (v := (2 : Int32)) hx hb dL_law_138 (by decide) ?_
  refine lv_iadd hx hb dL_law_139 ?_
  have hi2 := (gd_some hf).1
  replace hf := (gd_some hf).2
  refine va_sld hx hb hX hbl hbA hS hi2 dL_law_140 ?_
  obtain ⟨o3, ho3, hf⟩ := Option.bind_eq_some_iff.mp hf
  have hFc := hF_all hD hS hAz
  refine va_calli (va_runV (As := [.int (xs (i + (1 : Int32)).toNatClampNeg), .int (xs (i + (2 : Int32)).toNatClampNeg)]) (rest := []) ⟨hx, hb, hml, hown, hts⟩ (C_X5_race l dC dI cI cZ cR cJ ad S o3.2 (p_1 := xs (i + (1 : Int32)).toNatClampNeg) (p_2 := xs (i + (2 : Int32)).toNatClampNeg) (N := N) (sz := H.size) (r0 := o3.1) ho3) (cwV 2 hts gL_law_X5_race rfl rfl rfl (by decide +kernel) ⟨Nat.le_of_ble_eq_true rfl, Nat.le_of_ble_eq_true rfl⟩) ⟨wr_blind, va_recv hK hP (ci := 5) (q0 := 0) rfl rfl, wr_pre hP hG hD⟩ rfl rfl hl.1 rfl (lv_room (Nat.le_of_ble_eq_true rfl)) dL_law_141 ⟨by show _ ≤ 601024; omega, by show _ ≤ 7293034; omega⟩) hS (fun q _ h => hFc q h) hFc (fun r9 u9 t9 H1 locs ht9 hv9 hw9 hB9 hz9 hk9 hS => ?_)
  subst hw9
  rw [ht9] at hB9
  have hP := hB9
  have hD : va_D (fun q : Nat => s.heap.size ≤ q) (LW cI cZ cR cJ ad o3.2) := va_D_fst hD rfl
  generalize H1 = H at hP hS ⊢
  clear hFc hB9 hz9 hk9 hv9 ht9
  refine lv_aload_n hx hb dL_law_144 rfl (lv_at hl 2 rfl) ?_
  refine lv_aload_n hx hb dL_law_145 rfl (lv_at hl 0 rfl) ?_
  refine lv_iload hx hb dL_law_146 (lv_at hl 4 rfl) ?_
  refine lv_iconst (v := (1 : Int32)) hx hb dL_law_148 (by decide) ?_
  refine lv_iadd hx hb dL_law_149 ?_
  have hi4 := (gd_some hf).1
  replace hf := (gd_some hf).2
  refine va_sld hx hb hX hbl hbA hS hi4 dL_law_150 ?_
  refine lv_aload_n hx hb dL_law_151 rfl (lv_at hl 0 rfl) ?_
  refine lv_iload hx hb dL_law_152 (lv_at hl 4 rfl) ?_
  refine lv_iconst (v := (2 : Int32)) hx hb dL_law_154 (by decide) ?_
  refine lv_iadd hx hb dL_law_155 ?_
  have hi5 := (gd_some hf).1
  replace hf := (gd_some hf).2
  refine va_sld hx hb hX hbl hbA hS hi5 dL_law_156 ?_
  obtain ⟨o6, ho6, hf⟩ := Option.bind_eq_some_iff.mp hf
  have hFc := hF_all hD hS hAz
  refine va_calli (va_runV (As := [.int (xs (i + (1 : Int32)).toNatClampNeg), .int (xs (i + (2 : Int32)).toNatClampNeg)]) (rest := [.int o3.1]) ⟨hx, hb, hml, hown, hts⟩ (C_X6_race l dC dI cI cZ cR cJ ad o3.2 o6.2 (p_1 := xs (i + (1 : Int32)).toNatClampNeg) (p_2 := xs (i + (2 : Int32)).toNatClampNeg) (N := N) (sz := H.size) (r0 := o6.1) ho6) (cwV 2 hts gL_law_X6_race rfl rfl rfl (by decide +kernel) ⟨Nat.le_of_ble_eq_true rfl, Nat.le_of_ble_eq_true rfl⟩) ⟨wr_blind, va_recv hK hP (ci := 6) (q0 := 51) rfl rfl, wr_pre hP hG hD⟩ rfl rfl hl.1 rfl (lv_room (Nat.le_of_ble_eq_true rfl)) dL_law_157 ⟨by show _ ≤ 601024; omega, by show _ ≤ 7293034; omega⟩) hS (fun q _ h => hFc q h) hFc (fun r9 u9 t9 H1 locs ht9 hv9 hw9 hB9 hz9 hk9 hS => ?_)
  subst hw9
  rw [ht9] at hB9
  have hP := hB9
  have hD : va_D (fun q : Nat => s.heap.size ≤ q) (LW cI cZ cR cJ ad o6.2) := va_D_fst hD rfl
  generalize H1 = H at hP hS ⊢
  clear hFc hB9 hz9 hk9 hv9 ht9
  refine lv_icmp_eq (tgt := 1269) hx hb dL_law_160 (by decide) (fun hc => ?_) (fun hc => ?_)
  · replace hf := (if_pos hc).symm.trans hf
    refine lv_iinc (v := i + (4 : Int32)) (lv' := [(4, .int (i + (4 : Int32))), (0, .ref b), (1, .ref (ad 0)), (2, .ref (ad 51)), (3, .ref (ad 62))]) hx hb dL_law_1269 hl (k := 4) rfl rfl (by decide) rfl (fun ls hl => ?_)
    refine lv_goto (tgt := 23) hx hb dL_law_1272 (by decide) ?_
    exact ih (i + (4 : Int32)) o6.2 H locs _ _ (by omega) (by omega) hP hD hS ls (lv_sub hl [1, 2, 3, 4, 0] rfl) hf
  · replace hf := (if_neg hc).symm.trans hf
    refine lv_iconst (v := (0 : Int32)) hx hb dL_law_163 (by decide) ?_
    cases hf
set_option maxHeartbeats 4000000 in
set_option maxRecDepth 100000 in
theorem law_case1 {p : Program} {l : Launch} {e : Env} {s : State} {m : MethodId} {below : List Frame} {meth : Method} {c : Code} {b L : Nat} {xs : Nat → Int32} {ad : Nat → Nat} (hL : L ≤ 2048) (hst : l.stackTraces = false) (dC : Nat → ClassId) (dI : Nat → Nat → Nat) (cI cZ cR cJ : ClassId) (hG : GG dC dI cI cZ cR cJ s) (hZU : vx_Zq Bundle.tN "UNASSIGNED_STACK" Bundle.steD (fun q : Nat => s.heap.size ≤ q) s s.heap) (hZN : vx_Zq Bundle.tN "SUPPRESSED_SENTINEL" Bundle.listD (fun q : Nat => s.heap.size ≤ q) s s.heap) (C0 : lw_At p s m meth c b L xs) (N : Nat) (n : Nat) (ih : ∀ (i : Int32) (S : LSt9) (H : Heap) (locs : List Loc) (cells slots : Nat) (_ : cells + n ≤ 601024) (_ : slots + 6 * n ≤ 7293034) (_ : va_P (dC, dI) vwCl (LW cI cZ cR cJ ad S) H) (_ : va_D (fun q : Nat => s.heap.size ≤ q) (LW cI cZ cR cJ ad S)) (_ : va_S (fun q : Nat => s.heap.size ≤ q) s.heap H locs) (ls : Array Slot) (_ : lv_has ls 7 [(0, .ref b), (1, .ref (ad 0)), (2, .ref (ad 51)), (3, .ref (ad 62)), (4, .int i)]), fL N xs L n i S = some () → W p l e room_1 s m #[Value.ref b] below meth c H locs cells slots (lw_Z below #[Value.ref b] s) (F0 m 23 ls [])) (i : Int32) (S : LSt9) (H : Heap) (locs : List Loc) (cells slots : Nat) (hcl : cells + (n + 1) ≤ 601024) (hsl : slots + 6 * (n + 1) ≤ 7293034) (hP : va_P (dC, dI) vwCl (LW cI cZ cR cJ ad S) H) (hD : va_D (fun q : Nat => s.heap.size ≤ q) (LW cI cZ cR cJ ad S)) (hS : va_S (fun q : Nat => s.heap.size ≤ q) s.heap H locs) (ls : Array Slot) (hl : lv_has ls 7 [(0, .ref b), (1, .ref (ad 0)), (2, .ref (ad 51)), (3, .ref (ad 62)), (4, .int i)]) (hf : fC1 N xs L (fun i S => fL N xs L n i S) i S = some ()) : W p l e room_1 s m #[Value.ref b] below meth c H locs cells slots (lw_Z below #[Value.ref b] s) (F0 m 165 ls []) := by
  obtain ⟨hx, hb, hr, hml, hown, hts, hX, hbl, hlocks, hgv⟩ := C0
  have hown : s.vm.findClass RL = some m.cls := hown
  have hts := fun w h => hts w (wsL_law_in w h)
  have hAz : ∀ q : Nat, s.heap.size ≤ q → (fun q : Nat => s.heap.size ≤ q) q := fun _ h => h
  have hbA : ¬ (fun q : Nat => s.heap.size ≤ q) b := Nat.not_le.mpr hbl
  have hK := hG.1
  unfold fC1 at hf
  refine lv_aload_n hx hb dL_law_165 rfl (lv_at hl 1 rfl) ?_
  obtain ⟨o1, ho1, hf⟩ := Option.bind_eq_some_iff.mp hf
  have hFc := hF_all hD hS hAz
  refine va_calli (va_runV (As := []) (rest := []) ⟨hx, hb, hml, hown, hts⟩ (C_X5_box l dC dI cI cZ cR cJ ad S o1.2  (N := N) (sz := H.size) (r0 := o1.1) ho1) (cwV 0 hts gL_law_X5_box rfl rfl rfl (by decide +kernel) ⟨Nat.le_of_ble_eq_true rfl, Nat.le_of_ble_eq_true rfl⟩) ⟨wr_blind, va_recv hK hP (ci := 5) (q0 := 0) rfl rfl, wr_pre hP hG hD⟩ rfl rfl hl.1 rfl (lv_room (Nat.le_of_ble_eq_true rfl)) dL_law_166 ⟨by show _ ≤ 601024; omega, by show _ ≤ 7293034; omega⟩) hS (fun q _ h => hFc q h) hFc (fun r9 u9 t9 H1 locs ht9 hv9 hw9 hB9 hz9 hk9 hS => ?_)
  subst hw9
  rw [ht9] at hB9
  have hP := hB9
  have hD : va_D (fun q : Nat => s.heap.size ≤ q) (LW cI cZ cR cJ ad o1.2) := va_D_fst hD rfl
  generalize H1 = H at hP hS ⊢
  clear hFc hB9 hz9 hk9 hv9 ht9
  refine lv_aload_n hx hb dL_law_169 rfl (lv_at hl 2 rfl) ?_
  obtain ⟨o2, ho2, hf⟩ := Option.bind_eq_some_iff.mp hf
  have hFc := hF_all hD hS hAz
  refine va_calli (va_runV (As := []) (rest := [.int o1.1]) ⟨hx, hb, hml, hown, hts⟩ (C_X6_box l dC dI cI cZ cR cJ ad o1.2 o2.2  (N := N) (sz := H.size) (r0 := o2.1) ho2) (cwV 0 hts gL_law_X6_box rfl rfl rfl (by decide +kernel) ⟨Nat.le_of_ble_eq_true rfl, Nat.le_of_ble_eq_true rfl⟩) ⟨wr_blind, va_recv hK hP (ci := 6) (q0 := 51) rfl rfl, wr_pre hP hG hD⟩ rfl rfl hl.1 rfl (lv_room (Nat.le_of_ble_eq_true rfl)) dL_law_170 ⟨by show _ ≤ 601024; omega, by show _ ≤ 7293034; omega⟩) hS (fun q _ h => hFc q h) hFc (fun r9 u9 t9 H1 locs ht9 hv9 hw9 hB9 hz9 hk9 hS => ?_)
  subst hw9
  rw [ht9] at hB9
  have hP := hB9
  have hD : va_D (fun q : Nat => s.heap.size ≤ q) (LW cI cZ cR cJ ad o2.2) := va_D_fst hD rfl
  generalize H1 = H at hP hS ⊢
  clear hFc hB9 hz9 hk9 hv9 ht9
  refine lv_icmp_eq (tgt := 1269) hx hb dL_law_173 (by decide) (fun hc => ?_) (fun hc => ?_)
  · replace hf := (if_pos hc).symm.trans hf
    refine lv_iinc (v := i + (4 : Int32)) (lv' := [(4, .int (i + (4 : Int32))), (0, .ref b), (1, .ref (ad 0)), (2, .ref (ad 51)), (3, .ref (ad 62))]) hx hb dL_law_1269 hl (k := 4) rfl rfl (by decide) rfl (fun ls hl => ?_)
    refine lv_goto (tgt := 23) hx hb dL_law_1272 (by decide) ?_
    exact ih (i + (4 : Int32)) o2.2 H locs _ _ (by omega) (by omega) hP hD hS ls (lv_sub hl [1, 2, 3, 4, 0] rfl) hf
  · replace hf := (if_neg hc).symm.trans hf
    refine lv_iconst (v := (0 : Int32)) hx hb dL_law_176 (by decide) ?_
    cases hf
set_option maxHeartbeats 4000000 in
set_option maxRecDepth 100000 in
theorem law_case2 {p : Program} {l : Launch} {e : Env} {s : State} {m : MethodId} {below : List Frame} {meth : Method} {c : Code} {b L : Nat} {xs : Nat → Int32} {ad : Nat → Nat} (hL : L ≤ 2048) (hst : l.stackTraces = false) (dC : Nat → ClassId) (dI : Nat → Nat → Nat) (cI cZ cR cJ : ClassId) (hG : GG dC dI cI cZ cR cJ s) (hZU : vx_Zq Bundle.tN "UNASSIGNED_STACK" Bundle.steD (fun q : Nat => s.heap.size ≤ q) s s.heap) (hZN : vx_Zq Bundle.tN "SUPPRESSED_SENTINEL" Bundle.listD (fun q : Nat => s.heap.size ≤ q) s s.heap) (C0 : lw_At p s m meth c b L xs) (N : Nat) (n : Nat) (ih : ∀ (i : Int32) (S : LSt9) (H : Heap) (locs : List Loc) (cells slots : Nat) (_ : cells + n ≤ 601024) (_ : slots + 6 * n ≤ 7293034) (_ : va_P (dC, dI) vwCl (LW cI cZ cR cJ ad S) H) (_ : va_D (fun q : Nat => s.heap.size ≤ q) (LW cI cZ cR cJ ad S)) (_ : va_S (fun q : Nat => s.heap.size ≤ q) s.heap H locs) (ls : Array Slot) (_ : lv_has ls 7 [(0, .ref b), (1, .ref (ad 0)), (2, .ref (ad 51)), (3, .ref (ad 62)), (4, .int i)]), fL N xs L n i S = some () → W p l e room_1 s m #[Value.ref b] below meth c H locs cells slots (lw_Z below #[Value.ref b] s) (F0 m 23 ls [])) (i : Int32) (S : LSt9) (H : Heap) (locs : List Loc) (cells slots : Nat) (hcl : cells + (n + 1) ≤ 601024) (hsl : slots + 6 * (n + 1) ≤ 7293034) (hP : va_P (dC, dI) vwCl (LW cI cZ cR cJ ad S) H) (hD : va_D (fun q : Nat => s.heap.size ≤ q) (LW cI cZ cR cJ ad S)) (hS : va_S (fun q : Nat => s.heap.size ≤ q) s.heap H locs) (ls : Array Slot) (hl : lv_has ls 7 [(0, .ref b), (1, .ref (ad 0)), (2, .ref (ad 51)), (3, .ref (ad 62)), (4, .int i)]) (hf : fC2 N xs L (fun i S => fL N xs L n i S) i S = some ()) : W p l e room_1 s m #[Value.ref b] below meth c H locs cells slots (lw_Z below #[Value.ref b] s) (F0 m 178 ls []) := by
  obtain ⟨hx, hb, hr, hml, hown, hts, hX, hbl, hlocks, hgv⟩ := C0
  have hown : s.vm.findClass RL = some m.cls := hown
  have hts := fun w h => hts w (wsL_law_in w h)
  have hAz : ∀ q : Nat, s.heap.size ≤ q → (fun q : Nat => s.heap.size ≤ q) q := fun _ h => h
  have hbA : ¬ (fun q : Nat => s.heap.size ≤ q) b := Nat.not_le.mpr hbl
  have hK := hG.1
  unfold fC2 at hf
  refine lv_aload_n hx hb dL_law_178 rfl (lv_at hl 1 rfl) ?_
  refine lv_aload_n hx hb dL_law_179 rfl (lv_at hl 0 rfl) ?_
  refine lv_iload hx hb dL_law_180 (lv_at hl 4 rfl) ?_
  refine lv_iconst (v := (1 : Int32)) hx hb dL_law_182 (by decide) ?_
  refine lv_iadd hx hb dL_law_183 ?_
  have hi1 := (gd_some hf).1
  replace hf := (gd_some hf).2
  refine va_sld hx hb hX hbl hbA hS hi1 dL_law_184 ?_
  refine lv_aload_n hx hb dL_law_185 rfl (lv_at hl 0 rfl) ?_
  refine lv_iload hx hb dL_law_186 (lv_at hl 4 rfl) ?_
  refine lv_iconst (v := (2 : Int32)) hx hb dL_law_188 (by decide) ?_
  refine lv_iadd hx hb dL_law_189 ?_
  have hi2 := (gd_some hf).1
  replace hf := (gd_some hf).2
  refine va_sld hx hb hX hbl hbA hS hi2 dL_law_190 ?_
  refine lv_aload_n hx hb dL_law_191 rfl (lv_at hl 3 rfl) ?_
  obtain ⟨o3, ho3, hf⟩ := Option.bind_eq_some_iff.mp hf
  have hFc := hF_all hD hS hAz
  refine va_calli (vx_runSW (As := [.ref (ad 0), .int (xs (i + (1 : Int32)).toNatClampNeg), .int (xs (i + (2 : Int32)).toNatClampNeg), .ref (ad 62)]) (rest := []) ⟨hx, hb, hml, hown, hts⟩ (C_L_paper l hst dC dI cI cZ cR cJ ad S o3.2 (p_1 := xs (i + (1 : Int32)).toNatClampNeg) (p_2 := xs (i + (2 : Int32)).toNatClampNeg) (N := N) (sz := H.size) (r0 := o3.1) ho3) (vx_cwSW 4 hts gL_law_L_paper rfl rfl rfl (by decide +kernel) ⟨Nat.le_of_ble_eq_true rfl, Nat.le_of_ble_eq_true rfl⟩) ⟨xr_blind, xr_pre hP hG hD hZU hZN hS hFc⟩ rfl rfl hl.1 rfl (lv_room (Nat.le_of_ble_eq_true rfl)) dL_law_192 ⟨by show _ ≤ 601024; omega, by show _ ≤ 7293034; omega⟩) hS (fun q _ h => hFc q h) hFc (fun r9 u9 t9 H1 locs ht9 hv9 hw9 hB9 hz9 hk9 hS => ?_)
  subst hw9
  rw [ht9] at hB9
  have hP := hB9
  have hD : va_D (fun q : Nat => s.heap.size ≤ q) (LW cI cZ cR cJ ad o3.2) := va_D_fst hD rfl
  generalize H1 = H at hP hS ⊢
  clear hFc hB9 hz9 hk9 hv9 ht9
  refine lv_istore (lv' := [(5, .int o3.1), (0, .ref b), (1, .ref (ad 0)), (2, .ref (ad 51)), (3, .ref (ad 62)), (4, .int i)]) hx hb dL_law_195 hl (by decide) rfl (fun ls hl => ?_)
  refine lv_aload_n hx hb dL_law_197 rfl (lv_at hl 3 rfl) ?_
  refine lv_aload_n hx hb dL_law_198 rfl (lv_at hl 1 rfl) ?_
  refine lv_iload hx hb dL_law_199 (lv_at hl 5 rfl) ?_
  refine lv_iconst (v := (1 : Int32)) hx hb dL_law_201 (by decide) ?_
  refine lv_iadd hx hb dL_law_202 ?_
  have hi4 := (gd_some hf).1
  replace hf := (gd_some hf).2
  refine va_sld hx hb hX hbl hbA hS hi4 dL_law_203 ?_
  refine lv_aload_n hx hb dL_law_204 rfl (lv_at hl 1 rfl) ?_
  refine lv_iload hx hb dL_law_205 (lv_at hl 5 rfl) ?_
  refine lv_iconst (v := (2 : Int32)) hx hb dL_law_207 (by decide) ?_
  refine lv_iadd hx hb dL_law_208 ?_
  have hi5 := (gd_some hf).1
  replace hf := (gd_some hf).2
  refine va_sld hx hb hX hbl hbA hS hi5 dL_law_209 ?_
  obtain ⟨o6, ho6, hf⟩ := Option.bind_eq_some_iff.mp hf
  have hFc := hF_all hD hS hAz
  refine va_calli (va_runV (As := [.int (xs (i + (1 : Int32)).toNatClampNeg), .int (xs (i + (2 : Int32)).toNatClampNeg)]) (rest := []) ⟨hx, hb, hml, hown, hts⟩ (C_X6_paper l dC dI cI cZ cR cJ ad o3.2 o6.2 (p_1 := xs (i + (1 : Int32)).toNatClampNeg) (p_2 := xs (i + (2 : Int32)).toNatClampNeg) (N := N) (sz := H.size) (r0 := o6.1) ho6) (cwV 2 hts gL_law_X6_paper rfl rfl rfl (by decide +kernel) ⟨Nat.le_of_ble_eq_true rfl, Nat.le_of_ble_eq_true rfl⟩) ⟨wr_blind, va_recv hK hP (ci := 6) (q0 := 51) rfl rfl, wr_pre hP hG hD⟩ rfl rfl hl.1 rfl (lv_room (Nat.le_of_ble_eq_true rfl)) dL_law_210 ⟨by show _ ≤ 601024; omega, by show _ ≤ 7293034; omega⟩) hS (fun q _ h => hFc q h) hFc (fun r9 u9 t9 H1 locs ht9 hv9 hw9 hB9 hz9 hk9 hS => ?_)
  subst hw9
  rw [ht9] at hB9
  have hP := hB9
  have hD : va_D (fun q : Nat => s.heap.size ≤ q) (LW cI cZ cR cJ ad o6.2) := va_D_fst hD rfl
  generalize H1 = H at hP hS ⊢
  clear hFc hB9 hz9 hk9 hv9 ht9
  refine lv_istore (lv' := [(6, .int o6.1), (5, .int o3.1), (0, .ref b), (1, .ref (ad 0)), (2, .ref (ad 51)), (3, .ref (ad 62)), (4, .int i)]) hx hb dL_law_213 hl (by decide) rfl (fun ls hl => ?_)
  refine lv_aload_n hx hb dL_law_215 rfl (lv_at hl 4 rfl) ?_
  obtain ⟨o7, ho7, hf⟩ := Option.bind_eq_some_iff.mp hf
  refine pcI (va_runV (As := []) (rest := []) ⟨hx, hb, hml, hown, hts⟩ (c_X6_thrown l dC dI cI cZ cR cJ (a_this := ad 51) (a_this_candidates := ad 52) (a_this_winners := ad 53) (a_this_boxOf := ad 54) (a_this_word := ad 55) (a_this_drawn := ad 56) (a_this_isLost := ad 57) (a_this_hasRead := ad 58) (a_this_hand := ad 59) (a_this_votes := ad 60) (a_this_isWinner := ad 61) (v_this_thrown := o6.2.1 32) (v_this_races := o6.2.1 33) (v_this_boxes := o6.2.1 34) (v_this_papers := o6.2.1 35) (v_this_draws := o6.2.1 36) (v_this_isSealed := o6.2.1 37) (v_this_state := o6.2.2.2.2.1) (v_this_margin := o6.2.1 38) (v_this_having := o6.2.1 39) (v_this_x := o6.2.1 40) (v_this_m := o6.2.1 41) (v_this_took := o6.2.1 42) (N := N) (r0 := o7) ho7) (cwV 0 hts gL_law_X6_thrown rfl rfl rfl (by decide +kernel) ⟨Nat.le_of_ble_eq_true rfl, Nat.le_of_ble_eq_true rfl⟩) ⟨rd_blind, va_recv hK hP (ci := 6) (q0 := 51) rfl rfl, rd_pre (hP.sub [51] rfl) hG⟩ rfl rfl hl.1 rfl (lv_room (Nat.le_of_ble_eq_true rfl)) dL_law_216 ⟨by show _ ≤ 601024; omega, by show _ ≤ 7293034; omega⟩) ?_
  refine lv_iload hx hb dL_law_219 (lv_at hl 1 rfl) ?_
  refine lv_icmp_eq (tgt := 226) hx hb dL_law_221 (by decide) (fun hc => ?_) (fun hc => ?_)
  · replace hf := (if_pos hc).symm.trans hf
    refine lv_iload hx hb dL_law_226 (lv_at hl 1 rfl) ?_
    refine lv_if_ne (tgt := 243) hx hb dL_law_228 (by decide) (fun hc => ?_) (fun hc => ?_)
    · replace hf := (if_neg hc).symm.trans hf
      refine lv_goto (tgt := 1269) hx hb dL_law_243 (by decide) ?_
      refine lv_iinc (v := i + (4 : Int32)) (lv' := [(4, .int (i + (4 : Int32))), (6, .int o6.1), (5, .int o3.1), (0, .ref b), (1, .ref (ad 0)), (2, .ref (ad 51)), (3, .ref (ad 62))]) hx hb dL_law_1269 hl (k := 6) rfl rfl (by decide) rfl (fun ls hl => ?_)
      refine lv_goto (tgt := 23) hx hb dL_law_1272 (by decide) ?_
      exact ih (i + (4 : Int32)) o6.2 H locs _ _ (by omega) (by omega) hP hD hS ls (lv_sub hl [3, 4, 5, 6, 0] rfl) hf
    · replace hf := (if_pos hc).symm.trans hf
      refine lv_aload_n hx hb dL_law_231 rfl (lv_at hl 5 rfl) ?_
      refine lv_iconst (v := (0 : Int32)) hx hb dL_law_232 (by decide) ?_
      refine va_lald hx hb hK hP 62 3 rfl rfl (show vp_in (0 : Int32) 1 by unfold vp_in; decide) dL_law_233 ?_
      refine lv_iload hx hb dL_law_234 (lv_at hl 0 rfl) ?_
      refine lv_i2l (v := o6.1.toInt64) hx hb dL_law_236 rfl ?_
      refine W.lcmp hx hb dL_law_237 ?_
      refine lv_if_eq (tgt := 243) hx hb dL_law_238 (by decide) (fun hc => ?_) (fun hc => ?_)
      · replace hf := (if_pos hc).symm.trans hf
        refine lv_goto (tgt := 1269) hx hb dL_law_243 (by decide) ?_
        refine lv_iinc (v := i + (4 : Int32)) (lv' := [(4, .int (i + (4 : Int32))), (6, .int o6.1), (5, .int o3.1), (0, .ref b), (1, .ref (ad 0)), (2, .ref (ad 51)), (3, .ref (ad 62))]) hx hb dL_law_1269 hl (k := 6) rfl rfl (by decide) rfl (fun ls hl => ?_)
        refine lv_goto (tgt := 23) hx hb dL_law_1272 (by decide) ?_
        exact ih (i + (4 : Int32)) o6.2 H locs _ _ (by omega) (by omega) hP hD hS ls (lv_sub hl [3, 4, 5, 6, 0] rfl) hf
      · replace hf := (if_neg hc).symm.trans hf
        refine lv_iconst (v := (0 : Int32)) hx hb dL_law_241 (by decide) ?_
        cases hf
  · replace hf := (if_neg hc).symm.trans hf
    refine lv_iconst (v := (0 : Int32)) hx hb dL_law_224 (by decide) ?_
    cases hf
set_option maxHeartbeats 4000000 in
set_option maxRecDepth 100000 in
theorem law_case3 {p : Program} {l : Launch} {e : Env} {s : State} {m : MethodId} {below : List Frame} {meth : Method} {c : Code} {b L : Nat} {xs : Nat → Int32} {ad : Nat → Nat} (hL : L ≤ 2048) (hst : l.stackTraces = false) (dC : Nat → ClassId) (dI : Nat → Nat → Nat) (cI cZ cR cJ : ClassId) (hG : GG dC dI cI cZ cR cJ s) (hZU : vx_Zq Bundle.tN "UNASSIGNED_STACK" Bundle.steD (fun q : Nat => s.heap.size ≤ q) s s.heap) (hZN : vx_Zq Bundle.tN "SUPPRESSED_SENTINEL" Bundle.listD (fun q : Nat => s.heap.size ≤ q) s s.heap) (C0 : lw_At p s m meth c b L xs) (N : Nat) (n : Nat) (ih : ∀ (i : Int32) (S : LSt9) (H : Heap) (locs : List Loc) (cells slots : Nat) (_ : cells + n ≤ 601024) (_ : slots + 6 * n ≤ 7293034) (_ : va_P (dC, dI) vwCl (LW cI cZ cR cJ ad S) H) (_ : va_D (fun q : Nat => s.heap.size ≤ q) (LW cI cZ cR cJ ad S)) (_ : va_S (fun q : Nat => s.heap.size ≤ q) s.heap H locs) (ls : Array Slot) (_ : lv_has ls 7 [(0, .ref b), (1, .ref (ad 0)), (2, .ref (ad 51)), (3, .ref (ad 62)), (4, .int i)]), fL N xs L n i S = some () → W p l e room_1 s m #[Value.ref b] below meth c H locs cells slots (lw_Z below #[Value.ref b] s) (F0 m 23 ls [])) (i : Int32) (S : LSt9) (H : Heap) (locs : List Loc) (cells slots : Nat) (hcl : cells + (n + 1) ≤ 601024) (hsl : slots + 6 * (n + 1) ≤ 7293034) (hP : va_P (dC, dI) vwCl (LW cI cZ cR cJ ad S) H) (hD : va_D (fun q : Nat => s.heap.size ≤ q) (LW cI cZ cR cJ ad S)) (hS : va_S (fun q : Nat => s.heap.size ≤ q) s.heap H locs) (ls : Array Slot) (hl : lv_has ls 7 [(0, .ref b), (1, .ref (ad 0)), (2, .ref (ad 51)), (3, .ref (ad 62)), (4, .int i)]) (hf : fC3 N xs L (fun i S => fL N xs L n i S) i S = some ()) : W p l e room_1 s m #[Value.ref b] below meth c H locs cells slots (lw_Z below #[Value.ref b] s) (F0 m 246 ls []) := by
  obtain ⟨hx, hb, hr, hml, hown, hts, hX, hbl, hlocks, hgv⟩ := C0
  have hown : s.vm.findClass RL = some m.cls := hown
  have hts := fun w h => hts w (wsL_law_in w h)
  have hAz : ∀ q : Nat, s.heap.size ≤ q → (fun q : Nat => s.heap.size ≤ q) q := fun _ h => h
  have hbA : ¬ (fun q : Nat => s.heap.size ≤ q) b := Nat.not_le.mpr hbl
  have hK := hG.1
  unfold fC3 at hf
  refine lv_aload_n hx hb dL_law_246 rfl (lv_at hl 1 rfl) ?_
  refine lv_aload_n hx hb dL_law_247 rfl (lv_at hl 0 rfl) ?_
  refine lv_iload hx hb dL_law_248 (lv_at hl 4 rfl) ?_
  refine lv_iconst (v := (1 : Int32)) hx hb dL_law_250 (by decide) ?_
  refine lv_iadd hx hb dL_law_251 ?_
  have hi1 := (gd_some hf).1
  replace hf := (gd_some hf).2
  refine va_sld hx hb hX hbl hbA hS hi1 dL_law_252 ?_
  refine lv_aload_n hx hb dL_law_253 rfl (lv_at hl 0 rfl) ?_
  refine lv_iload hx hb dL_law_254 (lv_at hl 4 rfl) ?_
  refine lv_iconst (v := (2 : Int32)) hx hb dL_law_256 (by decide) ?_
  refine lv_iadd hx hb dL_law_257 ?_
  have hi2 := (gd_some hf).1
  replace hf := (gd_some hf).2
  refine va_sld hx hb hX hbl hbA hS hi2 dL_law_258 ?_
  refine lv_if_eq (tgt := 266) hx hb dL_law_259 (by decide) (fun hc => ?_) (fun hc => ?_)
  · replace hf := (if_pos hc).symm.trans hf
    refine lv_iconst (v := (0 : Int32)) hx hb dL_law_266 (by decide) ?_
    refine lv_aload_n hx hb dL_law_267 rfl (lv_at hl 3 rfl) ?_
    obtain ⟨o3, ho3, hf⟩ := Option.bind_eq_some_iff.mp hf
    have hFc := hF_all hD hS hAz
    refine va_calli (vx_runSW (As := [.ref (ad 0), .int (xs (i + (1 : Int32)).toNatClampNeg), .int (0 : Int32), .ref (ad 62)]) (rest := []) ⟨hx, hb, hml, hown, hts⟩ (C_L_lose l hst dC dI cI cZ cR cJ ad S o3.2 (p_1 := xs (i + (1 : Int32)).toNatClampNeg) (p_2 := (0 : Int32)) (N := N) (sz := H.size) (r0 := o3.1) ho3) (vx_cwSW 4 hts gL_law_L_lose rfl rfl rfl (by decide +kernel) ⟨Nat.le_of_ble_eq_true rfl, Nat.le_of_ble_eq_true rfl⟩) ⟨xr_blind, xr_pre hP hG hD hZU hZN hS hFc⟩ rfl rfl hl.1 rfl (lv_room (Nat.le_of_ble_eq_true rfl)) dL_law_268 ⟨by show _ ≤ 601024; omega, by show _ ≤ 7293034; omega⟩) hS (fun q _ h => hFc q h) hFc (fun r9 u9 t9 H1 locs ht9 hv9 hw9 hB9 hz9 hk9 hS => ?_)
    subst hw9
    rw [ht9] at hB9
    have hP := hB9
    have hD : va_D (fun q : Nat => s.heap.size ≤ q) (LW cI cZ cR cJ ad o3.2) := va_D_fst hD rfl
    generalize H1 = H at hP hS ⊢
    clear hFc hB9 hz9 hk9 hv9 ht9
    refine lv_istore (lv' := [(5, .int o3.1), (0, .ref b), (1, .ref (ad 0)), (2, .ref (ad 51)), (3, .ref (ad 62)), (4, .int i)]) hx hb dL_law_271 hl (by decide) rfl (fun ls hl => ?_)
    refine lv_aload_n hx hb dL_law_273 rfl (lv_at hl 3 rfl) ?_
    refine lv_aload_n hx hb dL_law_274 rfl (lv_at hl 1 rfl) ?_
    refine lv_iload hx hb dL_law_275 (lv_at hl 5 rfl) ?_
    refine lv_iconst (v := (1 : Int32)) hx hb dL_law_277 (by decide) ?_
    refine lv_iadd hx hb dL_law_278 ?_
    have hi4 := (gd_some hf).1
    replace hf := (gd_some hf).2
    refine va_sld hx hb hX hbl hbA hS hi4 dL_law_279 ?_
    refine lv_aload_n hx hb dL_law_280 rfl (lv_at hl 1 rfl) ?_
    refine lv_iload hx hb dL_law_281 (lv_at hl 5 rfl) ?_
    refine lv_iconst (v := (2 : Int32)) hx hb dL_law_283 (by decide) ?_
    refine lv_iadd hx hb dL_law_284 ?_
    have hi5 := (gd_some hf).1
    replace hf := (gd_some hf).2
    refine va_sld hx hb hX hbl hbA hS hi5 dL_law_285 ?_
    refine lv_if_eq (tgt := 293) hx hb dL_law_286 (by decide) (fun hc => ?_) (fun hc => ?_)
    · replace hf := (if_pos hc).symm.trans hf
      refine lv_iconst (v := (0 : Int32)) hx hb dL_law_293 (by decide) ?_
      obtain ⟨o6, ho6, hf⟩ := Option.bind_eq_some_iff.mp hf
      have hFc := hF_all hD hS hAz
      refine va_calli (va_runV (As := [.int (xs (i + (1 : Int32)).toNatClampNeg), .int (0 : Int32)]) (rest := []) ⟨hx, hb, hml, hown, hts⟩ (C_X6_lose l dC dI cI cZ cR cJ ad o3.2 o6.2 (p_1 := xs (i + (1 : Int32)).toNatClampNeg) (p_2 := (0 : Int32)) (N := N) (sz := H.size) (r0 := o6.1) ho6) (cwV 2 hts gL_law_X6_lose rfl rfl rfl (by decide +kernel) ⟨Nat.le_of_ble_eq_true rfl, Nat.le_of_ble_eq_true rfl⟩) ⟨wr_blind, va_recv hK hP (ci := 6) (q0 := 51) rfl rfl, wr_pre hP hG hD⟩ rfl rfl hl.1 rfl (lv_room (Nat.le_of_ble_eq_true rfl)) dL_law_294 ⟨by show _ ≤ 601024; omega, by show _ ≤ 7293034; omega⟩) hS (fun q _ h => hFc q h) hFc (fun r9 u9 t9 H1 locs ht9 hv9 hw9 hB9 hz9 hk9 hS => ?_)
      subst hw9
      rw [ht9] at hB9
      have hP := hB9
      have hD : va_D (fun q : Nat => s.heap.size ≤ q) (LW cI cZ cR cJ ad o6.2) := va_D_fst hD rfl
      generalize H1 = H at hP hS ⊢
      clear hFc hB9 hz9 hk9 hv9 ht9
      refine lv_istore (lv' := [(6, .int o6.1), (5, .int o3.1), (0, .ref b), (1, .ref (ad 0)), (2, .ref (ad 51)), (3, .ref (ad 62)), (4, .int i)]) hx hb dL_law_297 hl (by decide) rfl (fun ls hl => ?_)
      refine lv_aload_n hx hb dL_law_299 rfl (lv_at hl 4 rfl) ?_
      obtain ⟨o7, ho7, hf⟩ := Option.bind_eq_some_iff.mp hf
      refine pcI (va_runV (As := []) (rest := []) ⟨hx, hb, hml, hown, hts⟩ (c_X6_thrown l dC dI cI cZ cR cJ (a_this := ad 51) (a_this_candidates := ad 52) (a_this_winners := ad 53) (a_this_boxOf := ad 54) (a_this_word := ad 55) (a_this_drawn := ad 56) (a_this_isLost := ad 57) (a_this_hasRead := ad 58) (a_this_hand := ad 59) (a_this_votes := ad 60) (a_this_isWinner := ad 61) (v_this_thrown := o6.2.1 32) (v_this_races := o6.2.1 33) (v_this_boxes := o6.2.1 34) (v_this_papers := o6.2.1 35) (v_this_draws := o6.2.1 36) (v_this_isSealed := o6.2.1 37) (v_this_state := o6.2.2.2.2.1) (v_this_margin := o6.2.1 38) (v_this_having := o6.2.1 39) (v_this_x := o6.2.1 40) (v_this_m := o6.2.1 41) (v_this_took := o6.2.1 42) (N := N) (r0 := o7) ho7) (cwV 0 hts gL_law_X6_thrown rfl rfl rfl (by decide +kernel) ⟨Nat.le_of_ble_eq_true rfl, Nat.le_of_ble_eq_true rfl⟩) ⟨rd_blind, va_recv hK hP (ci := 6) (q0 := 51) rfl rfl, rd_pre (hP.sub [51] rfl) hG⟩ rfl rfl hl.1 rfl (lv_room (Nat.le_of_ble_eq_true rfl)) dL_law_300 ⟨by show _ ≤ 601024; omega, by show _ ≤ 7293034; omega⟩) ?_
      refine lv_iload hx hb dL_law_303 (lv_at hl 1 rfl) ?_
      refine lv_icmp_eq (tgt := 310) hx hb dL_law_305 (by decide) (fun hc => ?_) (fun hc => ?_)
      · replace hf := (if_pos hc).symm.trans hf
        refine lv_iload hx hb dL_law_310 (lv_at hl 1 rfl) ?_
        refine lv_if_ne (tgt := 334) hx hb dL_law_312 (by decide) (fun hc => ?_) (fun hc => ?_)
        · replace hf := (if_neg hc).symm.trans hf
          refine lv_goto (tgt := 1269) hx hb dL_law_334 (by decide) ?_
          refine lv_iinc (v := i + (4 : Int32)) (lv' := [(4, .int (i + (4 : Int32))), (6, .int o6.1), (5, .int o3.1), (0, .ref b), (1, .ref (ad 0)), (2, .ref (ad 51)), (3, .ref (ad 62))]) hx hb dL_law_1269 hl (k := 6) rfl rfl (by decide) rfl (fun ls hl => ?_)
          refine lv_goto (tgt := 23) hx hb dL_law_1272 (by decide) ?_
          exact ih (i + (4 : Int32)) o6.2 H locs _ _ (by omega) (by omega) hP hD hS ls (lv_sub hl [3, 4, 5, 6, 0] rfl) hf
        · replace hf := (if_pos hc).symm.trans hf
          refine lv_aload_n hx hb dL_law_315 rfl (lv_at hl 5 rfl) ?_
          refine lv_iconst (v := (0 : Int32)) hx hb dL_law_316 (by decide) ?_
          refine va_lald hx hb hK hP 62 3 rfl rfl (show vp_in (0 : Int32) 1 by unfold vp_in; decide) dL_law_317 ?_
          refine lv_iload hx hb dL_law_318 (lv_at hl 0 rfl) ?_
          refine lv_if_eq (tgt := 327) hx hb dL_law_320 (by decide) (fun hc => ?_) (fun hc => ?_)
          · replace hf := (if_pos hc).symm.trans hf
            refine lv_lconst (v := (0 : Int64)) hx hb dL_law_327 (by decide) ?_
            refine W.lcmp hx hb dL_law_328 ?_
            refine lv_if_eq (tgt := 334) hx hb dL_law_329 (by decide) (fun hc => ?_) (fun hc => ?_)
            · replace hf := (if_pos hc).symm.trans hf
              refine lv_goto (tgt := 1269) hx hb dL_law_334 (by decide) ?_
              refine lv_iinc (v := i + (4 : Int32)) (lv' := [(4, .int (i + (4 : Int32))), (6, .int o6.1), (5, .int o3.1), (0, .ref b), (1, .ref (ad 0)), (2, .ref (ad 51)), (3, .ref (ad 62))]) hx hb dL_law_1269 hl (k := 6) rfl rfl (by decide) rfl (fun ls hl => ?_)
              refine lv_goto (tgt := 23) hx hb dL_law_1272 (by decide) ?_
              exact ih (i + (4 : Int32)) o6.2 H locs _ _ (by omega) (by omega) hP hD hS ls (lv_sub hl [3, 4, 5, 6, 0] rfl) hf
            · replace hf := (if_neg hc).symm.trans hf
              refine lv_iconst (v := (0 : Int32)) hx hb dL_law_332 (by decide) ?_
              cases hf
          · replace hf := (if_neg hc).symm.trans hf
            refine lv_lconst (v := (1 : Int64)) hx hb dL_law_323 (by decide) ?_
            refine lv_goto (tgt := 328) hx hb dL_law_324 (by decide) ?_
            refine W.lcmp hx hb dL_law_328 ?_
            refine lv_if_eq (tgt := 334) hx hb dL_law_329 (by decide) (fun hc => ?_) (fun hc => ?_)
            · replace hf := (if_pos hc).symm.trans hf
              refine lv_goto (tgt := 1269) hx hb dL_law_334 (by decide) ?_
              refine lv_iinc (v := i + (4 : Int32)) (lv' := [(4, .int (i + (4 : Int32))), (6, .int o6.1), (5, .int o3.1), (0, .ref b), (1, .ref (ad 0)), (2, .ref (ad 51)), (3, .ref (ad 62))]) hx hb dL_law_1269 hl (k := 6) rfl rfl (by decide) rfl (fun ls hl => ?_)
              refine lv_goto (tgt := 23) hx hb dL_law_1272 (by decide) ?_
              exact ih (i + (4 : Int32)) o6.2 H locs _ _ (by omega) (by omega) hP hD hS ls (lv_sub hl [3, 4, 5, 6, 0] rfl) hf
            · replace hf := (if_neg hc).symm.trans hf
              refine lv_iconst (v := (0 : Int32)) hx hb dL_law_332 (by decide) ?_
              cases hf
      · replace hf := (if_neg hc).symm.trans hf
        refine lv_iconst (v := (0 : Int32)) hx hb dL_law_308 (by decide) ?_
        cases hf
    · replace hf := (if_neg hc).symm.trans hf
      refine lv_iconst (v := (1 : Int32)) hx hb dL_law_289 (by decide) ?_
      refine lv_goto (tgt := 294) hx hb dL_law_290 (by decide) ?_
      obtain ⟨o8, ho8, hf⟩ := Option.bind_eq_some_iff.mp hf
      have hFc := hF_all hD hS hAz
      refine va_calli (va_runV (As := [.int (xs (i + (1 : Int32)).toNatClampNeg), .int (1 : Int32)]) (rest := []) ⟨hx, hb, hml, hown, hts⟩ (C_X6_lose l dC dI cI cZ cR cJ ad o3.2 o8.2 (p_1 := xs (i + (1 : Int32)).toNatClampNeg) (p_2 := (1 : Int32)) (N := N) (sz := H.size) (r0 := o8.1) ho8) (cwV 2 hts gL_law_X6_lose rfl rfl rfl (by decide +kernel) ⟨Nat.le_of_ble_eq_true rfl, Nat.le_of_ble_eq_true rfl⟩) ⟨wr_blind, va_recv hK hP (ci := 6) (q0 := 51) rfl rfl, wr_pre hP hG hD⟩ rfl rfl hl.1 rfl (lv_room (Nat.le_of_ble_eq_true rfl)) dL_law_294 ⟨by show _ ≤ 601024; omega, by show _ ≤ 7293034; omega⟩) hS (fun q _ h => hFc q h) hFc (fun r9 u9 t9 H1 locs ht9 hv9 hw9 hB9 hz9 hk9 hS => ?_)
      subst hw9
      rw [ht9] at hB9
      have hP := hB9
      have hD : va_D (fun q : Nat => s.heap.size ≤ q) (LW cI cZ cR cJ ad o8.2) := va_D_fst hD rfl
      generalize H1 = H at hP hS ⊢
      clear hFc hB9 hz9 hk9 hv9 ht9
      refine lv_istore (lv' := [(6, .int o8.1), (5, .int o3.1), (0, .ref b), (1, .ref (ad 0)), (2, .ref (ad 51)), (3, .ref (ad 62)), (4, .int i)]) hx hb dL_law_297 hl (by decide) rfl (fun ls hl => ?_)
      refine lv_aload_n hx hb dL_law_299 rfl (lv_at hl 4 rfl) ?_
      obtain ⟨o9, ho9, hf⟩ := Option.bind_eq_some_iff.mp hf
      refine pcI (va_runV (As := []) (rest := []) ⟨hx, hb, hml, hown, hts⟩ (c_X6_thrown l dC dI cI cZ cR cJ (a_this := ad 51) (a_this_candidates := ad 52) (a_this_winners := ad 53) (a_this_boxOf := ad 54) (a_this_word := ad 55) (a_this_drawn := ad 56) (a_this_isLost := ad 57) (a_this_hasRead := ad 58) (a_this_hand := ad 59) (a_this_votes := ad 60) (a_this_isWinner := ad 61) (v_this_thrown := o8.2.1 32) (v_this_races := o8.2.1 33) (v_this_boxes := o8.2.1 34) (v_this_papers := o8.2.1 35) (v_this_draws := o8.2.1 36) (v_this_isSealed := o8.2.1 37) (v_this_state := o8.2.2.2.2.1) (v_this_margin := o8.2.1 38) (v_this_having := o8.2.1 39) (v_this_x := o8.2.1 40) (v_this_m := o8.2.1 41) (v_this_took := o8.2.1 42) (N := N) (r0 := o9) ho9) (cwV 0 hts gL_law_X6_thrown rfl rfl rfl (by decide +kernel) ⟨Nat.le_of_ble_eq_true rfl, Nat.le_of_ble_eq_true rfl⟩) ⟨rd_blind, va_recv hK hP (ci := 6) (q0 := 51) rfl rfl, rd_pre (hP.sub [51] rfl) hG⟩ rfl rfl hl.1 rfl (lv_room (Nat.le_of_ble_eq_true rfl)) dL_law_300 ⟨by show _ ≤ 601024; omega, by show _ ≤ 7293034; omega⟩) ?_
      refine lv_iload hx hb dL_law_303 (lv_at hl 1 rfl) ?_
      refine lv_icmp_eq (tgt := 310) hx hb dL_law_305 (by decide) (fun hc => ?_) (fun hc => ?_)
      · replace hf := (if_pos hc).symm.trans hf
        refine lv_iload hx hb dL_law_310 (lv_at hl 1 rfl) ?_
        refine lv_if_ne (tgt := 334) hx hb dL_law_312 (by decide) (fun hc => ?_) (fun hc => ?_)
        · replace hf := (if_neg hc).symm.trans hf
          refine lv_goto (tgt := 1269) hx hb dL_law_334 (by decide) ?_
          refine lv_iinc (v := i + (4 : Int32)) (lv' := [(4, .int (i + (4 : Int32))), (6, .int o8.1), (5, .int o3.1), (0, .ref b), (1, .ref (ad 0)), (2, .ref (ad 51)), (3, .ref (ad 62))]) hx hb dL_law_1269 hl (k := 6) rfl rfl (by decide) rfl (fun ls hl => ?_)
          refine lv_goto (tgt := 23) hx hb dL_law_1272 (by decide) ?_
          exact ih (i + (4 : Int32)) o8.2 H locs _ _ (by omega) (by omega) hP hD hS ls (lv_sub hl [3, 4, 5, 6, 0] rfl) hf
        · replace hf := (if_pos hc).symm.trans hf
          refine lv_aload_n hx hb dL_law_315 rfl (lv_at hl 5 rfl) ?_
          refine lv_iconst (v := (0 : Int32)) hx hb dL_law_316 (by decide) ?_
          refine va_lald hx hb hK hP 62 3 rfl rfl (show vp_in (0 : Int32) 1 by unfold vp_in; decide) dL_law_317 ?_
          refine lv_iload hx hb dL_law_318 (lv_at hl 0 rfl) ?_
          refine lv_if_eq (tgt := 327) hx hb dL_law_320 (by decide) (fun hc => ?_) (fun hc => ?_)
          · replace hf := (if_pos hc).symm.trans hf
            refine lv_lconst (v := (0 : Int64)) hx hb dL_law_327 (by decide) ?_
            refine W.lcmp hx hb dL_law_328 ?_
            refine lv_if_eq (tgt := 334) hx hb dL_law_329 (by decide) (fun hc => ?_) (fun hc => ?_)
            · replace hf := (if_pos hc).symm.trans hf
              refine lv_goto (tgt := 1269) hx hb dL_law_334 (by decide) ?_
              refine lv_iinc (v := i + (4 : Int32)) (lv' := [(4, .int (i + (4 : Int32))), (6, .int o8.1), (5, .int o3.1), (0, .ref b), (1, .ref (ad 0)), (2, .ref (ad 51)), (3, .ref (ad 62))]) hx hb dL_law_1269 hl (k := 6) rfl rfl (by decide) rfl (fun ls hl => ?_)
              refine lv_goto (tgt := 23) hx hb dL_law_1272 (by decide) ?_
              exact ih (i + (4 : Int32)) o8.2 H locs _ _ (by omega) (by omega) hP hD hS ls (lv_sub hl [3, 4, 5, 6, 0] rfl) hf
            · replace hf := (if_neg hc).symm.trans hf
              refine lv_iconst (v := (0 : Int32)) hx hb dL_law_332 (by decide) ?_
              cases hf
          · replace hf := (if_neg hc).symm.trans hf
            refine lv_lconst (v := (1 : Int64)) hx hb dL_law_323 (by decide) ?_
            refine lv_goto (tgt := 328) hx hb dL_law_324 (by decide) ?_
            refine W.lcmp hx hb dL_law_328 ?_
            refine lv_if_eq (tgt := 334) hx hb dL_law_329 (by decide) (fun hc => ?_) (fun hc => ?_)
            · replace hf := (if_pos hc).symm.trans hf
              refine lv_goto (tgt := 1269) hx hb dL_law_334 (by decide) ?_
              refine lv_iinc (v := i + (4 : Int32)) (lv' := [(4, .int (i + (4 : Int32))), (6, .int o8.1), (5, .int o3.1), (0, .ref b), (1, .ref (ad 0)), (2, .ref (ad 51)), (3, .ref (ad 62))]) hx hb dL_law_1269 hl (k := 6) rfl rfl (by decide) rfl (fun ls hl => ?_)
              refine lv_goto (tgt := 23) hx hb dL_law_1272 (by decide) ?_
              exact ih (i + (4 : Int32)) o8.2 H locs _ _ (by omega) (by omega) hP hD hS ls (lv_sub hl [3, 4, 5, 6, 0] rfl) hf
            · replace hf := (if_neg hc).symm.trans hf
              refine lv_iconst (v := (0 : Int32)) hx hb dL_law_332 (by decide) ?_
              cases hf
      · replace hf := (if_neg hc).symm.trans hf
        refine lv_iconst (v := (0 : Int32)) hx hb dL_law_308 (by decide) ?_
        cases hf
  · replace hf := (if_neg hc).symm.trans hf
    refine lv_iconst (v := (1 : Int32)) hx hb dL_law_262 (by decide) ?_
    refine lv_goto (tgt := 267) hx hb dL_law_263 (by decide) ?_
    refine lv_aload_n hx hb dL_law_267 rfl (lv_at hl 3 rfl) ?_
    obtain ⟨o10, ho10, hf⟩ := Option.bind_eq_some_iff.mp hf
    have hFc := hF_all hD hS hAz
    refine va_calli (vx_runSW (As := [.ref (ad 0), .int (xs (i + (1 : Int32)).toNatClampNeg), .int (1 : Int32), .ref (ad 62)]) (rest := []) ⟨hx, hb, hml, hown, hts⟩ (C_L_lose l hst dC dI cI cZ cR cJ ad S o10.2 (p_1 := xs (i + (1 : Int32)).toNatClampNeg) (p_2 := (1 : Int32)) (N := N) (sz := H.size) (r0 := o10.1) ho10) (vx_cwSW 4 hts gL_law_L_lose rfl rfl rfl (by decide +kernel) ⟨Nat.le_of_ble_eq_true rfl, Nat.le_of_ble_eq_true rfl⟩) ⟨xr_blind, xr_pre hP hG hD hZU hZN hS hFc⟩ rfl rfl hl.1 rfl (lv_room (Nat.le_of_ble_eq_true rfl)) dL_law_268 ⟨by show _ ≤ 601024; omega, by show _ ≤ 7293034; omega⟩) hS (fun q _ h => hFc q h) hFc (fun r9 u9 t9 H1 locs ht9 hv9 hw9 hB9 hz9 hk9 hS => ?_)
    subst hw9
    rw [ht9] at hB9
    have hP := hB9
    have hD : va_D (fun q : Nat => s.heap.size ≤ q) (LW cI cZ cR cJ ad o10.2) := va_D_fst hD rfl
    generalize H1 = H at hP hS ⊢
    clear hFc hB9 hz9 hk9 hv9 ht9
    refine lv_istore (lv' := [(5, .int o10.1), (0, .ref b), (1, .ref (ad 0)), (2, .ref (ad 51)), (3, .ref (ad 62)), (4, .int i)]) hx hb dL_law_271 hl (by decide) rfl (fun ls hl => ?_)
    refine lv_aload_n hx hb dL_law_273 rfl (lv_at hl 3 rfl) ?_
    refine lv_aload_n hx hb dL_law_274 rfl (lv_at hl 1 rfl) ?_
    refine lv_iload hx hb dL_law_275 (lv_at hl 5 rfl) ?_
    refine lv_iconst (v := (1 : Int32)) hx hb dL_law_277 (by decide) ?_
    refine lv_iadd hx hb dL_law_278 ?_
    have hi11 := (gd_some hf).1
    replace hf := (gd_some hf).2
    refine va_sld hx hb hX hbl hbA hS hi11 dL_law_279 ?_
    refine lv_aload_n hx hb dL_law_280 rfl (lv_at hl 1 rfl) ?_
    refine lv_iload hx hb dL_law_281 (lv_at hl 5 rfl) ?_
    refine lv_iconst (v := (2 : Int32)) hx hb dL_law_283 (by decide) ?_
    refine lv_iadd hx hb dL_law_284 ?_
    have hi12 := (gd_some hf).1
    replace hf := (gd_some hf).2
    refine va_sld hx hb hX hbl hbA hS hi12 dL_law_285 ?_
    refine lv_if_eq (tgt := 293) hx hb dL_law_286 (by decide) (fun hc => ?_) (fun hc => ?_)
    · replace hf := (if_pos hc).symm.trans hf
      refine lv_iconst (v := (0 : Int32)) hx hb dL_law_293 (by decide) ?_
      obtain ⟨o13, ho13, hf⟩ := Option.bind_eq_some_iff.mp hf
      have hFc := hF_all hD hS hAz
      refine va_calli (va_runV (As := [.int (xs (i + (1 : Int32)).toNatClampNeg), .int (0 : Int32)]) (rest := []) ⟨hx, hb, hml, hown, hts⟩ (C_X6_lose l dC dI cI cZ cR cJ ad o10.2 o13.2 (p_1 := xs (i + (1 : Int32)).toNatClampNeg) (p_2 := (0 : Int32)) (N := N) (sz := H.size) (r0 := o13.1) ho13) (cwV 2 hts gL_law_X6_lose rfl rfl rfl (by decide +kernel) ⟨Nat.le_of_ble_eq_true rfl, Nat.le_of_ble_eq_true rfl⟩) ⟨wr_blind, va_recv hK hP (ci := 6) (q0 := 51) rfl rfl, wr_pre hP hG hD⟩ rfl rfl hl.1 rfl (lv_room (Nat.le_of_ble_eq_true rfl)) dL_law_294 ⟨by show _ ≤ 601024; omega, by show _ ≤ 7293034; omega⟩) hS (fun q _ h => hFc q h) hFc (fun r9 u9 t9 H1 locs ht9 hv9 hw9 hB9 hz9 hk9 hS => ?_)
      subst hw9
      rw [ht9] at hB9
      have hP := hB9
      have hD : va_D (fun q : Nat => s.heap.size ≤ q) (LW cI cZ cR cJ ad o13.2) := va_D_fst hD rfl
      generalize H1 = H at hP hS ⊢
      clear hFc hB9 hz9 hk9 hv9 ht9
      refine lv_istore (lv' := [(6, .int o13.1), (5, .int o10.1), (0, .ref b), (1, .ref (ad 0)), (2, .ref (ad 51)), (3, .ref (ad 62)), (4, .int i)]) hx hb dL_law_297 hl (by decide) rfl (fun ls hl => ?_)
      refine lv_aload_n hx hb dL_law_299 rfl (lv_at hl 4 rfl) ?_
      obtain ⟨o14, ho14, hf⟩ := Option.bind_eq_some_iff.mp hf
      refine pcI (va_runV (As := []) (rest := []) ⟨hx, hb, hml, hown, hts⟩ (c_X6_thrown l dC dI cI cZ cR cJ (a_this := ad 51) (a_this_candidates := ad 52) (a_this_winners := ad 53) (a_this_boxOf := ad 54) (a_this_word := ad 55) (a_this_drawn := ad 56) (a_this_isLost := ad 57) (a_this_hasRead := ad 58) (a_this_hand := ad 59) (a_this_votes := ad 60) (a_this_isWinner := ad 61) (v_this_thrown := o13.2.1 32) (v_this_races := o13.2.1 33) (v_this_boxes := o13.2.1 34) (v_this_papers := o13.2.1 35) (v_this_draws := o13.2.1 36) (v_this_isSealed := o13.2.1 37) (v_this_state := o13.2.2.2.2.1) (v_this_margin := o13.2.1 38) (v_this_having := o13.2.1 39) (v_this_x := o13.2.1 40) (v_this_m := o13.2.1 41) (v_this_took := o13.2.1 42) (N := N) (r0 := o14) ho14) (cwV 0 hts gL_law_X6_thrown rfl rfl rfl (by decide +kernel) ⟨Nat.le_of_ble_eq_true rfl, Nat.le_of_ble_eq_true rfl⟩) ⟨rd_blind, va_recv hK hP (ci := 6) (q0 := 51) rfl rfl, rd_pre (hP.sub [51] rfl) hG⟩ rfl rfl hl.1 rfl (lv_room (Nat.le_of_ble_eq_true rfl)) dL_law_300 ⟨by show _ ≤ 601024; omega, by show _ ≤ 7293034; omega⟩) ?_
      refine lv_iload hx hb dL_law_303 (lv_at hl 1 rfl) ?_
      refine lv_icmp_eq (tgt := 310) hx hb dL_law_305 (by decide) (fun hc => ?_) (fun hc => ?_)
      · replace hf := (if_pos hc).symm.trans hf
        refine lv_iload hx hb dL_law_310 (lv_at hl 1 rfl) ?_
        refine lv_if_ne (tgt := 334) hx hb dL_law_312 (by decide) (fun hc => ?_) (fun hc => ?_)
        · replace hf := (if_neg hc).symm.trans hf
          refine lv_goto (tgt := 1269) hx hb dL_law_334 (by decide) ?_
          refine lv_iinc (v := i + (4 : Int32)) (lv' := [(4, .int (i + (4 : Int32))), (6, .int o13.1), (5, .int o10.1), (0, .ref b), (1, .ref (ad 0)), (2, .ref (ad 51)), (3, .ref (ad 62))]) hx hb dL_law_1269 hl (k := 6) rfl rfl (by decide) rfl (fun ls hl => ?_)
          refine lv_goto (tgt := 23) hx hb dL_law_1272 (by decide) ?_
          exact ih (i + (4 : Int32)) o13.2 H locs _ _ (by omega) (by omega) hP hD hS ls (lv_sub hl [3, 4, 5, 6, 0] rfl) hf
        · replace hf := (if_pos hc).symm.trans hf
          refine lv_aload_n hx hb dL_law_315 rfl (lv_at hl 5 rfl) ?_
          refine lv_iconst (v := (0 : Int32)) hx hb dL_law_316 (by decide) ?_
          refine va_lald hx hb hK hP 62 3 rfl rfl (show vp_in (0 : Int32) 1 by unfold vp_in; decide) dL_law_317 ?_
          refine lv_iload hx hb dL_law_318 (lv_at hl 0 rfl) ?_
          refine lv_if_eq (tgt := 327) hx hb dL_law_320 (by decide) (fun hc => ?_) (fun hc => ?_)
          · replace hf := (if_pos hc).symm.trans hf
            refine lv_lconst (v := (0 : Int64)) hx hb dL_law_327 (by decide) ?_
            refine W.lcmp hx hb dL_law_328 ?_
            refine lv_if_eq (tgt := 334) hx hb dL_law_329 (by decide) (fun hc => ?_) (fun hc => ?_)
            · replace hf := (if_pos hc).symm.trans hf
              refine lv_goto (tgt := 1269) hx hb dL_law_334 (by decide) ?_
              refine lv_iinc (v := i + (4 : Int32)) (lv' := [(4, .int (i + (4 : Int32))), (6, .int o13.1), (5, .int o10.1), (0, .ref b), (1, .ref (ad 0)), (2, .ref (ad 51)), (3, .ref (ad 62))]) hx hb dL_law_1269 hl (k := 6) rfl rfl (by decide) rfl (fun ls hl => ?_)
              refine lv_goto (tgt := 23) hx hb dL_law_1272 (by decide) ?_
              exact ih (i + (4 : Int32)) o13.2 H locs _ _ (by omega) (by omega) hP hD hS ls (lv_sub hl [3, 4, 5, 6, 0] rfl) hf
            · replace hf := (if_neg hc).symm.trans hf
              refine lv_iconst (v := (0 : Int32)) hx hb dL_law_332 (by decide) ?_
              cases hf
          · replace hf := (if_neg hc).symm.trans hf
            refine lv_lconst (v := (1 : Int64)) hx hb dL_law_323 (by decide) ?_
            refine lv_goto (tgt := 328) hx hb dL_law_324 (by decide) ?_
            refine W.lcmp hx hb dL_law_328 ?_
            refine lv_if_eq (tgt := 334) hx hb dL_law_329 (by decide) (fun hc => ?_) (fun hc => ?_)
            · replace hf := (if_pos hc).symm.trans hf
              refine lv_goto (tgt := 1269) hx hb dL_law_334 (by decide) ?_
              refine lv_iinc (v := i + (4 : Int32)) (lv' := [(4, .int (i + (4 : Int32))), (6, .int o13.1), (5, .int o10.1), (0, .ref b), (1, .ref (ad 0)), (2, .ref (ad 51)), (3, .ref (ad 62))]) hx hb dL_law_1269 hl (k := 6) rfl rfl (by decide) rfl (fun ls hl => ?_)
              refine lv_goto (tgt := 23) hx hb dL_law_1272 (by decide) ?_
              exact ih (i + (4 : Int32)) o13.2 H locs _ _ (by omega) (by omega) hP hD hS ls (lv_sub hl [3, 4, 5, 6, 0] rfl) hf
            · replace hf := (if_neg hc).symm.trans hf
              refine lv_iconst (v := (0 : Int32)) hx hb dL_law_332 (by decide) ?_
              cases hf
      · replace hf := (if_neg hc).symm.trans hf
        refine lv_iconst (v := (0 : Int32)) hx hb dL_law_308 (by decide) ?_
        cases hf
    · replace hf := (if_neg hc).symm.trans hf
      refine lv_iconst (v := (1 : Int32)) hx hb dL_law_289 (by decide) ?_
      refine lv_goto (tgt := 294) hx hb dL_law_290 (by decide) ?_
      obtain ⟨o15, ho15, hf⟩ := Option.bind_eq_some_iff.mp hf
      have hFc := hF_all hD hS hAz
      refine va_calli (va_runV (As := [.int (xs (i + (1 : Int32)).toNatClampNeg), .int (1 : Int32)]) (rest := []) ⟨hx, hb, hml, hown, hts⟩ (C_X6_lose l dC dI cI cZ cR cJ ad o10.2 o15.2 (p_1 := xs (i + (1 : Int32)).toNatClampNeg) (p_2 := (1 : Int32)) (N := N) (sz := H.size) (r0 := o15.1) ho15) (cwV 2 hts gL_law_X6_lose rfl rfl rfl (by decide +kernel) ⟨Nat.le_of_ble_eq_true rfl, Nat.le_of_ble_eq_true rfl⟩) ⟨wr_blind, va_recv hK hP (ci := 6) (q0 := 51) rfl rfl, wr_pre hP hG hD⟩ rfl rfl hl.1 rfl (lv_room (Nat.le_of_ble_eq_true rfl)) dL_law_294 ⟨by show _ ≤ 601024; omega, by show _ ≤ 7293034; omega⟩) hS (fun q _ h => hFc q h) hFc (fun r9 u9 t9 H1 locs ht9 hv9 hw9 hB9 hz9 hk9 hS => ?_)
      subst hw9
      rw [ht9] at hB9
      have hP := hB9
      have hD : va_D (fun q : Nat => s.heap.size ≤ q) (LW cI cZ cR cJ ad o15.2) := va_D_fst hD rfl
      generalize H1 = H at hP hS ⊢
      clear hFc hB9 hz9 hk9 hv9 ht9
      refine lv_istore (lv' := [(6, .int o15.1), (5, .int o10.1), (0, .ref b), (1, .ref (ad 0)), (2, .ref (ad 51)), (3, .ref (ad 62)), (4, .int i)]) hx hb dL_law_297 hl (by decide) rfl (fun ls hl => ?_)
      refine lv_aload_n hx hb dL_law_299 rfl (lv_at hl 4 rfl) ?_
      obtain ⟨o16, ho16, hf⟩ := Option.bind_eq_some_iff.mp hf
      refine pcI (va_runV (As := []) (rest := []) ⟨hx, hb, hml, hown, hts⟩ (c_X6_thrown l dC dI cI cZ cR cJ (a_this := ad 51) (a_this_candidates := ad 52) (a_this_winners := ad 53) (a_this_boxOf := ad 54) (a_this_word := ad 55) (a_this_drawn := ad 56) (a_this_isLost := ad 57) (a_this_hasRead := ad 58) (a_this_hand := ad 59) (a_this_votes := ad 60) (a_this_isWinner := ad 61) (v_this_thrown := o15.2.1 32) (v_this_races := o15.2.1 33) (v_this_boxes := o15.2.1 34) (v_this_papers := o15.2.1 35) (v_this_draws := o15.2.1 36) (v_this_isSealed := o15.2.1 37) (v_this_state := o15.2.2.2.2.1) (v_this_margin := o15.2.1 38) (v_this_having := o15.2.1 39) (v_this_x := o15.2.1 40) (v_this_m := o15.2.1 41) (v_this_took := o15.2.1 42) (N := N) (r0 := o16) ho16) (cwV 0 hts gL_law_X6_thrown rfl rfl rfl (by decide +kernel) ⟨Nat.le_of_ble_eq_true rfl, Nat.le_of_ble_eq_true rfl⟩) ⟨rd_blind, va_recv hK hP (ci := 6) (q0 := 51) rfl rfl, rd_pre (hP.sub [51] rfl) hG⟩ rfl rfl hl.1 rfl (lv_room (Nat.le_of_ble_eq_true rfl)) dL_law_300 ⟨by show _ ≤ 601024; omega, by show _ ≤ 7293034; omega⟩) ?_
      refine lv_iload hx hb dL_law_303 (lv_at hl 1 rfl) ?_
      refine lv_icmp_eq (tgt := 310) hx hb dL_law_305 (by decide) (fun hc => ?_) (fun hc => ?_)
      · replace hf := (if_pos hc).symm.trans hf
        refine lv_iload hx hb dL_law_310 (lv_at hl 1 rfl) ?_
        refine lv_if_ne (tgt := 334) hx hb dL_law_312 (by decide) (fun hc => ?_) (fun hc => ?_)
        · replace hf := (if_neg hc).symm.trans hf
          refine lv_goto (tgt := 1269) hx hb dL_law_334 (by decide) ?_
          refine lv_iinc (v := i + (4 : Int32)) (lv' := [(4, .int (i + (4 : Int32))), (6, .int o15.1), (5, .int o10.1), (0, .ref b), (1, .ref (ad 0)), (2, .ref (ad 51)), (3, .ref (ad 62))]) hx hb dL_law_1269 hl (k := 6) rfl rfl (by decide) rfl (fun ls hl => ?_)
          refine lv_goto (tgt := 23) hx hb dL_law_1272 (by decide) ?_
          exact ih (i + (4 : Int32)) o15.2 H locs _ _ (by omega) (by omega) hP hD hS ls (lv_sub hl [3, 4, 5, 6, 0] rfl) hf
        · replace hf := (if_pos hc).symm.trans hf
          refine lv_aload_n hx hb dL_law_315 rfl (lv_at hl 5 rfl) ?_
          refine lv_iconst (v := (0 : Int32)) hx hb dL_law_316 (by decide) ?_
          refine va_lald hx hb hK hP 62 3 rfl rfl (show vp_in (0 : Int32) 1 by unfold vp_in; decide) dL_law_317 ?_
          refine lv_iload hx hb dL_law_318 (lv_at hl 0 rfl) ?_
          refine lv_if_eq (tgt := 327) hx hb dL_law_320 (by decide) (fun hc => ?_) (fun hc => ?_)
          · replace hf := (if_pos hc).symm.trans hf
            refine lv_lconst (v := (0 : Int64)) hx hb dL_law_327 (by decide) ?_
            refine W.lcmp hx hb dL_law_328 ?_
            refine lv_if_eq (tgt := 334) hx hb dL_law_329 (by decide) (fun hc => ?_) (fun hc => ?_)
            · replace hf := (if_pos hc).symm.trans hf
              refine lv_goto (tgt := 1269) hx hb dL_law_334 (by decide) ?_
              refine lv_iinc (v := i + (4 : Int32)) (lv' := [(4, .int (i + (4 : Int32))), (6, .int o15.1), (5, .int o10.1), (0, .ref b), (1, .ref (ad 0)), (2, .ref (ad 51)), (3, .ref (ad 62))]) hx hb dL_law_1269 hl (k := 6) rfl rfl (by decide) rfl (fun ls hl => ?_)
              refine lv_goto (tgt := 23) hx hb dL_law_1272 (by decide) ?_
              exact ih (i + (4 : Int32)) o15.2 H locs _ _ (by omega) (by omega) hP hD hS ls (lv_sub hl [3, 4, 5, 6, 0] rfl) hf
            · replace hf := (if_neg hc).symm.trans hf
              refine lv_iconst (v := (0 : Int32)) hx hb dL_law_332 (by decide) ?_
              cases hf
          · replace hf := (if_neg hc).symm.trans hf
            refine lv_lconst (v := (1 : Int64)) hx hb dL_law_323 (by decide) ?_
            refine lv_goto (tgt := 328) hx hb dL_law_324 (by decide) ?_
            refine W.lcmp hx hb dL_law_328 ?_
            refine lv_if_eq (tgt := 334) hx hb dL_law_329 (by decide) (fun hc => ?_) (fun hc => ?_)
            · replace hf := (if_pos hc).symm.trans hf
              refine lv_goto (tgt := 1269) hx hb dL_law_334 (by decide) ?_
              refine lv_iinc (v := i + (4 : Int32)) (lv' := [(4, .int (i + (4 : Int32))), (6, .int o15.1), (5, .int o10.1), (0, .ref b), (1, .ref (ad 0)), (2, .ref (ad 51)), (3, .ref (ad 62))]) hx hb dL_law_1269 hl (k := 6) rfl rfl (by decide) rfl (fun ls hl => ?_)
              refine lv_goto (tgt := 23) hx hb dL_law_1272 (by decide) ?_
              exact ih (i + (4 : Int32)) o15.2 H locs _ _ (by omega) (by omega) hP hD hS ls (lv_sub hl [3, 4, 5, 6, 0] rfl) hf
            · replace hf := (if_neg hc).symm.trans hf
              refine lv_iconst (v := (0 : Int32)) hx hb dL_law_332 (by decide) ?_
              cases hf
      · replace hf := (if_neg hc).symm.trans hf
        refine lv_iconst (v := (0 : Int32)) hx hb dL_law_308 (by decide) ?_
        cases hf
