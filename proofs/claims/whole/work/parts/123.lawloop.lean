set_option maxHeartbeats 4000000 in
set_option maxRecDepth 100000 in
theorem law_loop {p : Program} {l : Launch} {e : Env} {s : State} {m : MethodId} {below : List Frame} {meth : Method} {c : Code} {b L : Nat} {xs : Nat → Int32} {ad : Nat → Nat} (hL : L ≤ 2048) (hst : l.stackTraces = false) (dC : Nat → ClassId) (dI : Nat → Nat → Nat) (cI cZ cR cJ : ClassId) (hG : GG dC dI cI cZ cR cJ s) (hZU : vx_Zq Bundle.tN "UNASSIGNED_STACK" Bundle.steD (fun q : Nat => s.heap.size ≤ q) s s.heap) (hZN : vx_Zq Bundle.tN "SUPPRESSED_SENTINEL" Bundle.listD (fun q : Nat => s.heap.size ≤ q) s s.heap) (C0 : lw_At p s m meth c b L xs) (N : Nat) : ∀ (n : Nat) (i : Int32) (S : LSt9) (H : Heap) (locs : List Loc) (cells slots : Nat) (hcl : cells + n ≤ 601024) (hsl : slots + 6 * n ≤ 7293034) (hP : va_P (dC, dI) vwCl (LW cI cZ cR cJ ad S) H) (hD : va_D (fun q : Nat => s.heap.size ≤ q) (LW cI cZ cR cJ ad S)) (hS : va_S (fun q : Nat => s.heap.size ≤ q) s.heap H locs) (ls : Array Slot) (hl : lv_has ls 7 [(0, .ref b), (1, .ref (ad 0)), (2, .ref (ad 51)), (3, .ref (ad 62)), (4, .int i)]), fL N xs L n i S = some () → W p l e room_1 s m #[Value.ref b] below meth c H locs cells slots (lw_Z below #[Value.ref b] s) (F0 m 23 ls []) := by
  intro n
  induction n with
  | zero => intro i S H locs cells slots hcl hsl hP hD hS ls hl hf; rw [fL] at hf; cases hf
  | succ n ih =>
    intro i S H locs cells slots hcl hsl hP hD hS ls hl hf
    obtain ⟨hx, hb, hr, hml, hown, hts, hX, hbl, hlocks, hgv⟩ := id C0
    have hown : s.vm.findClass RL = some m.cls := hown
    have hts := fun w h => hts w (wsL_law_in w h)
    have hAz : ∀ q : Nat, s.heap.size ≤ q → (fun q : Nat => s.heap.size ≤ q) q := fun _ h => h
    have hbA : ¬ (fun q : Nat => s.heap.size ≤ q) b := Nat.not_le.mpr hbl
    have hK := hG.1
    rw [fL] at hf
    refine lv_iload hx hb dL_law_23 (lv_at hl 4 rfl) ?_
    refine lv_aload_n hx hb dL_law_25 rfl (lv_at hl 0 rfl) ?_
    refine va_slen hx hb hX hbl hbA hS dL_law_26 ?_
    refine lv_iconst (v := (4 : Int32)) hx hb dL_law_27 (by decide) ?_
    refine lv_isub hx hb dL_law_28 ?_
    refine lv_icmp_gt (tgt := 1275) hx hb dL_law_29 (by decide) (fun hc => ?_) (fun hc => ?_)
    · replace hf := (if_pos hc).symm.trans hf
      refine lv_iconst (v := (1 : Int32)) hx hb dL_law_1275 (by decide) ?_
      refine va_forget (fun q hq => hS.2.2 q hq) ?_
      refine W.widen (k := 601024) (n := 7293034) (by omega) (by omega) ?_
      exact lw_ret hx hb hr hlocks dL_law_1276
    · replace hf := (if_neg hc).symm.trans hf
      refine lv_aload_n hx hb dL_law_32 rfl (lv_at hl 0 rfl) ?_
      refine lv_iload hx hb dL_law_33 (lv_at hl 4 rfl) ?_
      have hi1 := (gd_some hf).1
      replace hf := (gd_some hf).2
      refine va_sld hx hb hX hbl hbA hS hi1 dL_law_35 ?_
      refine lv_bipush (v := (31 : Int32)) hx hb dL_law_36 (by decide) ?_
      refine lv_iand hx hb dL_law_38 ?_
      rcases sw_cases 18 ((xs i.toNatClampNeg) &&& (31 : Int32)) with hsw | ⟨k, hk, hsw⟩
      · replace hf := (sw_out hsw).symm.trans hf
        refine lv_tableOut (tgt := 1269) hx hb dL_law_39 hsw (by decide) ?_
        refine lv_iinc (v := i + (4 : Int32)) (lv' := [(4, .int (i + (4 : Int32))), (0, .ref b), (1, .ref (ad 0)), (2, .ref (ad 51)), (3, .ref (ad 62))]) hx hb dL_law_1269 hl (k := 4) rfl rfl (by decide) rfl (fun ls hl => ?_)
        refine lv_goto (tgt := 23) hx hb dL_law_1272 (by decide) ?_
        exact ih (i + (4 : Int32)) S H locs _ _ (by omega) (by omega) hP hD hS ls (lv_sub hl [1, 2, 3, 4, 0] rfl) hf
      · rcases sw_in18 hk with rfl | rfl | rfl | rfl | rfl | rfl | rfl | rfl | rfl | rfl | rfl | rfl | rfl | rfl | rfl | rfl | rfl | rfl | rfl
        · replace hf := (sw_at (k := 0) (hi := 18) (by decide) hsw).symm.trans hf
          refine lv_tableIn (tgt := 128) (off := 89) hx hb dL_law_39 (sw_lo hsw) (sw_hi (hi := 18) (by decide) hsw) (by rw [hsw]; rfl) (by decide) ?_
          exact law_case0 hL hst dC dI cI cZ cR cJ hG hZU hZN C0 N n ih i S H locs cells slots hcl hsl hP hD hS ls hl hf
        · replace hf := (sw_at (k := 1) (hi := 18) (by decide) hsw).symm.trans hf
          refine lv_tableIn (tgt := 165) (off := 126) hx hb dL_law_39 (sw_lo hsw) (sw_hi (hi := 18) (by decide) hsw) (by rw [hsw]; rfl) (by decide) ?_
          exact law_case1 hL hst dC dI cI cZ cR cJ hG hZU hZN C0 N n ih i S H locs cells slots hcl hsl hP hD hS ls hl hf
        · replace hf := (sw_at (k := 2) (hi := 18) (by decide) hsw).symm.trans hf
          refine lv_tableIn (tgt := 178) (off := 139) hx hb dL_law_39 (sw_lo hsw) (sw_hi (hi := 18) (by decide) hsw) (by rw [hsw]; rfl) (by decide) ?_
          exact law_case2 hL hst dC dI cI cZ cR cJ hG hZU hZN C0 N n ih i S H locs cells slots hcl hsl hP hD hS ls hl hf
        · replace hf := (sw_at (k := 3) (hi := 18) (by decide) hsw).symm.trans hf
          refine lv_tableIn (tgt := 246) (off := 207) hx hb dL_law_39 (sw_lo hsw) (sw_hi (hi := 18) (by decide) hsw) (by rw [hsw]; rfl) (by decide) ?_
          exact law_case3 hL hst dC dI cI cZ cR cJ hG hZU hZN C0 N n ih i S H locs cells slots hcl hsl hP hD hS ls hl hf
        · replace hf := (sw_at (k := 4) (hi := 18) (by decide) hsw).symm.trans hf
          refine lv_tableIn (tgt := 337) (off := 298) hx hb dL_law_39 (sw_lo hsw) (sw_hi (hi := 18) (by decide) hsw) (by rw [hsw]; rfl) (by decide) ?_
          exact law_case4 hL hst dC dI cI cZ cR cJ hG hZU hZN C0 N n ih i S H locs cells slots hcl hsl hP hD hS ls hl hf
        · replace hf := (sw_at (k := 5) (hi := 18) (by decide) hsw).symm.trans hf
          refine lv_tableIn (tgt := 394) (off := 355) hx hb dL_law_39 (sw_lo hsw) (sw_hi (hi := 18) (by decide) hsw) (by rw [hsw]; rfl) (by decide) ?_
          exact law_case5 hL hst dC dI cI cZ cR cJ hG hZU hZN C0 N n ih i S H locs cells slots hcl hsl hP hD hS ls hl hf
        · replace hf := (sw_at (k := 6) (hi := 18) (by decide) hsw).symm.trans hf
          refine lv_tableIn (tgt := 474) (off := 435) hx hb dL_law_39 (sw_lo hsw) (sw_hi (hi := 18) (by decide) hsw) (by rw [hsw]; rfl) (by decide) ?_
          exact law_case6 hL hst dC dI cI cZ cR cJ hG hZU hZN C0 N n ih i S H locs cells slots hcl hsl hP hD hS ls hl hf
        · replace hf := (sw_at (k := 7) (hi := 18) (by decide) hsw).symm.trans hf
          refine lv_tableIn (tgt := 561) (off := 522) hx hb dL_law_39 (sw_lo hsw) (sw_hi (hi := 18) (by decide) hsw) (by rw [hsw]; rfl) (by decide) ?_
          exact law_case7 hL hst dC dI cI cZ cR cJ hG hZU hZN C0 N n ih i S H locs cells slots hcl hsl hP hD hS ls hl hf
        · replace hf := (sw_at (k := 8) (hi := 18) (by decide) hsw).symm.trans hf
          refine lv_tableIn (tgt := 629) (off := 590) hx hb dL_law_39 (sw_lo hsw) (sw_hi (hi := 18) (by decide) hsw) (by rw [hsw]; rfl) (by decide) ?_
          exact law_case8 hL hst dC dI cI cZ cR cJ hG hZU hZN C0 N n ih i S H locs cells slots hcl hsl hP hD hS ls hl hf
        · replace hf := (sw_at (k := 9) (hi := 18) (by decide) hsw).symm.trans hf
          refine lv_tableIn (tgt := 685) (off := 646) hx hb dL_law_39 (sw_lo hsw) (sw_hi (hi := 18) (by decide) hsw) (by rw [hsw]; rfl) (by decide) ?_
          exact law_case9 hL hst dC dI cI cZ cR cJ hG hZU hZN C0 N n ih i S H locs cells slots hcl hsl hP hD hS ls hl hf
        · replace hf := (sw_at (k := 10) (hi := 18) (by decide) hsw).symm.trans hf
          refine lv_tableIn (tgt := 741) (off := 702) hx hb dL_law_39 (sw_lo hsw) (sw_hi (hi := 18) (by decide) hsw) (by rw [hsw]; rfl) (by decide) ?_
          exact law_case10 hL hst dC dI cI cZ cR cJ hG hZU hZN C0 N n ih i S H locs cells slots hcl hsl hP hD hS ls hl hf
        · replace hf := (sw_at (k := 11) (hi := 18) (by decide) hsw).symm.trans hf
          refine lv_tableIn (tgt := 754) (off := 715) hx hb dL_law_39 (sw_lo hsw) (sw_hi (hi := 18) (by decide) hsw) (by rw [hsw]; rfl) (by decide) ?_
          exact law_case11 hL hst dC dI cI cZ cR cJ hG hZU hZN C0 N n ih i S H locs cells slots hcl hsl hP hD hS ls hl hf
        · replace hf := (sw_at (k := 12) (hi := 18) (by decide) hsw).symm.trans hf
          refine lv_tableIn (tgt := 810) (off := 771) hx hb dL_law_39 (sw_lo hsw) (sw_hi (hi := 18) (by decide) hsw) (by rw [hsw]; rfl) (by decide) ?_
          exact law_case12 hL hst dC dI cI cZ cR cJ hG hZU hZN C0 N n ih i S H locs cells slots hcl hsl hP hD hS ls hl hf
        · replace hf := (sw_at (k := 13) (hi := 18) (by decide) hsw).symm.trans hf
          refine lv_tableIn (tgt := 897) (off := 858) hx hb dL_law_39 (sw_lo hsw) (sw_hi (hi := 18) (by decide) hsw) (by rw [hsw]; rfl) (by decide) ?_
          exact law_case13 hL hst dC dI cI cZ cR cJ hG hZU hZN C0 N n ih i S H locs cells slots hcl hsl hP hD hS ls hl hf
        · replace hf := (sw_at (k := 14) (hi := 18) (by decide) hsw).symm.trans hf
          refine lv_tableIn (tgt := 965) (off := 926) hx hb dL_law_39 (sw_lo hsw) (sw_hi (hi := 18) (by decide) hsw) (by rw [hsw]; rfl) (by decide) ?_
          exact law_case14 hL hst dC dI cI cZ cR cJ hG hZU hZN C0 N n ih i S H locs cells slots hcl hsl hP hD hS ls hl hf
        · replace hf := (sw_at (k := 15) (hi := 18) (by decide) hsw).symm.trans hf
          refine lv_tableIn (tgt := 1021) (off := 982) hx hb dL_law_39 (sw_lo hsw) (sw_hi (hi := 18) (by decide) hsw) (by rw [hsw]; rfl) (by decide) ?_
          exact law_case15 hL hst dC dI cI cZ cR cJ hG hZU hZN C0 N n ih i S H locs cells slots hcl hsl hP hD hS ls hl hf
        · replace hf := (sw_at (k := 16) (hi := 18) (by decide) hsw).symm.trans hf
          refine lv_tableIn (tgt := 1077) (off := 1038) hx hb dL_law_39 (sw_lo hsw) (sw_hi (hi := 18) (by decide) hsw) (by rw [hsw]; rfl) (by decide) ?_
          exact law_case16 hL hst dC dI cI cZ cR cJ hG hZU hZN C0 N n ih i S H locs cells slots hcl hsl hP hD hS ls hl hf
        · replace hf := (sw_at (k := 17) (hi := 18) (by decide) hsw).symm.trans hf
          refine lv_tableIn (tgt := 1145) (off := 1106) hx hb dL_law_39 (sw_lo hsw) (sw_hi (hi := 18) (by decide) hsw) (by rw [hsw]; rfl) (by decide) ?_
          exact law_case17 hL hst dC dI cI cZ cR cJ hG hZU hZN C0 N n ih i S H locs cells slots hcl hsl hP hD hS ls hl hf
        · replace hf := (sw_at (k := 18) (hi := 18) (by decide) hsw).symm.trans hf
          refine lv_tableIn (tgt := 1213) (off := 1174) hx hb dL_law_39 (sw_lo hsw) (sw_hi (hi := 18) (by decide) hsw) (by rw [hsw]; rfl) (by decide) ?_
          exact law_case18 hL hst dC dI cI cZ cR cJ hG hZU hZN C0 N n ih i S H locs cells slots hcl hsl hP hD hS ls hl hf
