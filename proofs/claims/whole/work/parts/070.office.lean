def f_X5_race (N : Nat) (p_1 : Int32) (p_2 : Int32) (v_this_raceCount : Int32) (v_this_papers_size : Int32) (v_R_pairs : Int32) (v_R_candidates : Int32) (v_R_seats : Int32) (v_R_margin : Int32) (f_R_pairMargin : Nat → Int32) (f_R_winsByWord : Nat → Int32) (f_R_pairWinner : Nat → Int32) (f_R_pairLoser : Nat → Int32) (f_R_wordTally_papersOf : Nat → Int32) : Option (Int32 × Int32 × Int32 × Int32 × Int32 × Int32 × (Nat → Int32) × (Nat → Int32) × (Nat → Int32) × (Nat → Int32)) := if (5 : Int32) ≤ v_this_raceCount then (some ((-1 : Int32), v_this_raceCount, v_R_pairs, v_R_candidates, v_R_seats, v_R_margin, f_R_pairMargin, f_R_winsByWord, f_R_pairWinner, f_R_pairLoser)) else (if v_this_papers_size ≤ 0 then (if p_1 < (2 : Int32) then (some ((-1 : Int32), v_this_raceCount, v_R_pairs, v_R_candidates, v_R_seats, v_R_margin, f_R_pairMargin, f_R_winsByWord, f_R_pairWinner, f_R_pairLoser)) else (if p_1 ≤ (6 : Int32) then (if p_2 < (1 : Int32) then (some ((-1 : Int32), v_this_raceCount, v_R_pairs, v_R_candidates, v_R_seats, v_R_margin, f_R_pairMargin, f_R_winsByWord, f_R_pairWinner, f_R_pairLoser)) else (if p_2 < p_1 then (gd v_this_raceCount 5 (Option.bind (f_X2_open N p_1 p_2 v_R_pairs v_R_margin f_R_pairMargin f_R_winsByWord f_R_pairWinner f_R_pairLoser f_R_wordTally_papersOf) (fun o2 => some ((v_this_raceCount + (1 : Int32)) - (1 : Int32), v_this_raceCount + (1 : Int32), o2.1, o2.2.1, o2.2.2.1, o2.2.2.2.1, o2.2.2.2.2.1, o2.2.2.2.2.2.1, o2.2.2.2.2.2.2.1, o2.2.2.2.2.2.2.2)))) else (some ((-1 : Int32), v_this_raceCount, v_R_pairs, v_R_candidates, v_R_seats, v_R_margin, f_R_pairMargin, f_R_winsByWord, f_R_pairWinner, f_R_pairLoser)))) else (some ((-1 : Int32), v_this_raceCount, v_R_pairs, v_R_candidates, v_R_seats, v_R_margin, f_R_pairMargin, f_R_winsByWord, f_R_pairWinner, f_R_pairLoser)))) else (some ((-1 : Int32), v_this_raceCount, v_R_pairs, v_R_candidates, v_R_seats, v_R_margin, f_R_pairMargin, f_R_winsByWord, f_R_pairWinner, f_R_pairLoser)))
set_option maxHeartbeats 4000000 in
set_option maxRecDepth 100000 in
theorem c_X5_race (l : Launch) (dC : Nat → ClassId) (dI : Nat → Nat → Nat) (cI cZ cR cJ : ClassId) (a_this a_R a_this_races a_this_papers a_this_draws a_this_walk a_this_handTally a_this_papers_boxOf a_this_papers_wordOf a_this_papers_isLost a_this_papers_wasDrawn a_this_papers_handsOf a_this_papers_handWords a_R_wordTally a_R_winsByWord a_R_pairWinner a_R_pairLoser a_R_pairMargin a_R_wordTally_papersOf : Nat) (v_this_raceCount : Int32) (v_this_boxCount : Int32) (v_this_isSealed : Int32) (v_this_papers_size : Int32) (f_this_races : Nat → Option Nat) (v_R_pairs : Int32) (v_R_candidates : Int32) (v_R_seats : Int32) (v_R_size : Int32) (v_R_margin : Int32) (f_R_pairMargin : Nat → Int32) (f_R_winsByWord : Nat → Int32) (f_R_pairWinner : Nat → Int32) (f_R_pairLoser : Nat → Int32) (f_R_wordTally_papersOf : Nat → Int32) (p_1 : Int32) (p_2 : Int32) (N : Nat) (r0 : Int32) (z_v_this_raceCount : Int32) (z_v_R_pairs : Int32) (z_v_R_candidates : Int32) (z_v_R_seats : Int32) (z_v_R_margin : Int32) (z_f_R_pairMargin : Nat → Int32) (z_f_R_winsByWord : Nat → Int32) (z_f_R_pairWinner : Nat → Int32) (z_f_R_pairLoser : Nat → Int32) (sz : Nat) (A : Addr → Prop) (hA : A = va_A [(a_this, .inr (5, [.ref a_this_races, .ref a_this_papers, .ref a_this_draws, .ref a_this_walk, .ref a_this_handTally, .int v_this_raceCount, .int v_this_boxCount, .int v_this_isSealed])), (a_this_papers, .inr (1, [.ref a_this_papers_boxOf, .ref a_this_papers_wordOf, .ref a_this_papers_isLost, .ref a_this_papers_wasDrawn, .ref a_this_papers_handsOf, .ref a_this_papers_handWords, .int v_this_papers_size])), (a_this_races, .inl (cR, 5, .inr (.inr (.inr (.inr f_this_races))))), (a_R, .inr (2, [.ref a_R_wordTally, .ref a_R_winsByWord, .ref a_R_pairWinner, .ref a_R_pairLoser, .ref a_R_pairMargin, .int v_R_pairs, .int v_R_candidates, .int v_R_seats, .int v_R_size, .int v_R_margin])), (a_R_pairMargin, .inl (cI, 9, .inl f_R_pairMargin)), (a_R_winsByWord, .inl (cZ, 8, .inl f_R_winsByWord)), (a_R_pairWinner, .inl (cI, 9, .inl f_R_pairWinner)), (a_R_pairLoser, .inl (cI, 9, .inl f_R_pairLoser)), (a_R_wordTally, .inr (3, [.ref a_R_wordTally_papersOf])), (a_R_wordTally_papersOf, .inl (cI, 8, .inl f_R_wordTally_papersOf))] sz) (hR : vp_in v_this_raceCount 5 → f_this_races v_this_raceCount.toNatClampNeg = some a_R) (hf : f_X5_race N p_1 p_2 v_this_raceCount v_this_papers_size v_R_pairs v_R_candidates v_R_seats v_R_margin f_R_pairMargin f_R_winsByWord f_R_pairWinner f_R_pairLoser f_R_wordTally_papersOf = some (r0, z_v_this_raceCount, z_v_R_pairs, z_v_R_candidates, z_v_R_seats, z_v_R_margin, z_f_R_pairMargin, z_f_R_winsByWord, z_f_R_pairWinner, z_f_R_pairLoser)) : Met l yX5_race wsX5_race ({ frames := 4, cells := 0, slots := 0, locals := 90 } : Room) (va_Pc ([.ref a_this, .int p_1, .int p_2] : List Value) (wrB (dC, dI) sz [(a_this, .inr (5, [.ref a_this_races, .ref a_this_papers, .ref a_this_draws, .ref a_this_walk, .ref a_this_handTally, .int v_this_raceCount, .int v_this_boxCount, .int v_this_isSealed])), (a_this_papers, .inr (1, [.ref a_this_papers_boxOf, .ref a_this_papers_wordOf, .ref a_this_papers_isLost, .ref a_this_papers_wasDrawn, .ref a_this_papers_handsOf, .ref a_this_papers_handWords, .int v_this_papers_size])), (a_this_races, .inl (cR, 5, .inr (.inr (.inr (.inr f_this_races))))), (a_R, .inr (2, [.ref a_R_wordTally, .ref a_R_winsByWord, .ref a_R_pairWinner, .ref a_R_pairLoser, .ref a_R_pairMargin, .int v_R_pairs, .int v_R_candidates, .int v_R_seats, .int v_R_size, .int v_R_margin])), (a_R_pairMargin, .inl (cI, 9, .inl f_R_pairMargin)), (a_R_winsByWord, .inl (cZ, 8, .inl f_R_winsByWord)), (a_R_pairWinner, .inl (cI, 9, .inl f_R_pairWinner)), (a_R_pairLoser, .inl (cI, 9, .inl f_R_pairLoser)), (a_R_wordTally, .inr (3, [.ref a_R_wordTally_papersOf])), (a_R_wordTally_papersOf, .inl (cI, 8, .inl f_R_wordTally_papersOf))] (GG dC dI cI cZ cR cJ))) (va_Qi (fun (r : Int32) (_ : Unit) => r = r0) (fun _ t => va_P (dC, dI) vwCl [(a_this, .inr (5, [.ref a_this_races, .ref a_this_papers, .ref a_this_draws, .ref a_this_walk, .ref a_this_handTally, .int z_v_this_raceCount, .int v_this_boxCount, .int v_this_isSealed])), (a_this_papers, .inr (1, [.ref a_this_papers_boxOf, .ref a_this_papers_wordOf, .ref a_this_papers_isLost, .ref a_this_papers_wasDrawn, .ref a_this_papers_handsOf, .ref a_this_papers_handWords, .int v_this_papers_size])), (a_this_races, .inl (cR, 5, .inr (.inr (.inr (.inr f_this_races))))), (a_R, .inr (2, [.ref a_R_wordTally, .ref a_R_winsByWord, .ref a_R_pairWinner, .ref a_R_pairLoser, .ref a_R_pairMargin, .int z_v_R_pairs, .int z_v_R_candidates, .int z_v_R_seats, .int v_R_size, .int z_v_R_margin])), (a_R_pairMargin, .inl (cI, 9, .inl z_f_R_pairMargin)), (a_R_winsByWord, .inl (cZ, 8, .inl z_f_R_winsByWord)), (a_R_pairWinner, .inl (cI, 9, .inl z_f_R_pairWinner)), (a_R_pairLoser, .inl (cI, 9, .inl z_f_R_pairLoser)), (a_R_wordTally, .inr (3, [.ref a_R_wordTally_papersOf])), (a_R_wordTally_papersOf, .inl (cI, 8, .inl f_R_wordTally_papersOf))] t.heap) A) 0 0 A := by
  refine Met.ofW (cc := cX5_race) (maxL := 3) (ret := (some .int)) (by decide) rfl ?_
  intro p e s m args below meth c s₁ B hml hv
  obtain ⟨rfl, rfl, hP, hG, hD0⟩ := hv
  have hD := hD0.self (sz := s.heap.size)
  rw [← hA] at hD
  have hAz : ∀ q : Nat, s.heap.size ≤ q → A q := fun q h => by rw [hA]; exact Or.inr h
  have hx := B.exec
  have hb := B.bytes
  have hr := B.returns
  have hts := atoms_spec (ws := wsX5_race) B.pre
  have hown : s.vm.findClass RX5 = some m.cls := findClass_of_methodNamed B.named
  have hlocks := B.notSynchronized
  have hK := hG.1
  have hiX1 : ∀ w ∈ u_ws RX1 TX1 7, w ∈ wsX5_race := by decide +kernel
  have hiX5 : ∀ w ∈ u_ws RX5 TX5 8, w ∈ wsX5_race := by decide +kernel
  refine w_entry [(0, .ref a_this), (1, .int p_1), (2, .int p_2)] (Nat.le_of_ble_eq_true rfl) rfl (fun ls hl => ?_)
  refine w_start (A := A) hP (fun H locs hP hS => ?_)
  rw [f_X5_race] at hf
  refine lv_aload_n hx hb dX5_race_0 rfl (lv_at hl 0 rfl) ?_
  refine va_get (D := (dC, dI)) (ci := 5) (v := .int v_this_raceCount) (C := RX5) (T := TX5) (N := 8) hx hb hts hiX5 hown hK hP 0 rfl rfl 5 (by decide) (hts (.fieldLink RX5 44 "SureCount" "raceCount" "I") (by decide +kernel)) (fun _ h9 => h9) rfl dX5_race_1 ?_
  refine lv_iconst (v := (5 : Int32)) hx hb dX5_race_4 (by decide) ?_
  refine lv_icmp_ge (tgt := 18) hx hb dX5_race_5 (by decide) (fun hc => ?_) (fun hc => ?_)
  · replace hf := (if_pos hc).symm.trans hf
    refine lv_iconst (v := (-1 : Int32)) hx hb dX5_race_18 (by decide) ?_
    cases hf
    exact W.iret hx hb hr (fun t ht hW => ⟨⟨_, (), rfl, rfl, va_Pt ht hP⟩, hS.F ht⟩) hS.2.2 dX5_race_19
  · replace hf := (if_neg hc).symm.trans hf
    refine lv_aload_n hx hb dX5_race_8 rfl (lv_at hl 0 rfl) ?_
    refine va_get (D := (dC, dI)) (ci := 5) (v := .ref a_this_papers) (C := RX5) (T := TX5) (N := 8) hx hb hts hiX5 hown hK hP 0 rfl rfl 1 (by decide) (hts (.fieldLink RX5 19 "SureCount" "papers" "LSureCount$Papers;") (by decide +kernel)) (fun _ h9 => h9) rfl dX5_race_9 ?_
    refine va_getN (D := (dC, dI)) (ci := 1) (v := .int v_this_papers_size) (C := RX1) (T := TX1) (N := 7) (host := "SureCount") hx hb hts hiX1 hown hK hP 1 rfl rfl 6 (by decide) (va_Nw.use rfl (hG.2.1 (RX5, 55, "SureCount$Papers", "size", "I", "SureCount") (List.mem_of_getElem? (i := 14) rfl))) (fun _ h9 => h9) rfl dX5_race_12 ?_
    refine lv_if_le (tgt := 20) hx hb dX5_race_15 (by decide) (fun hc => ?_) (fun hc => ?_)
    · replace hf := (if_pos hc).symm.trans hf
      refine lv_iload_n hx hb dX5_race_20 rfl (lv_at hl 1 rfl) ?_
      refine lv_iconst (v := (2 : Int32)) hx hb dX5_race_21 (by decide) ?_
      refine lv_icmp_lt (tgt := 31) hx hb dX5_race_22 (by decide) (fun hc => ?_) (fun hc => ?_)
      · replace hf := (if_pos hc).symm.trans hf
        refine lv_iconst (v := (-1 : Int32)) hx hb dX5_race_31 (by decide) ?_
        cases hf
        exact W.iret hx hb hr (fun t ht hW => ⟨⟨_, (), rfl, rfl, va_Pt ht hP⟩, hS.F ht⟩) hS.2.2 dX5_race_32
      · replace hf := (if_neg hc).symm.trans hf
        refine lv_iload_n hx hb dX5_race_25 rfl (lv_at hl 1 rfl) ?_
        refine lv_bipush (v := (6 : Int32)) hx hb dX5_race_26 (by decide) ?_
        refine lv_icmp_le (tgt := 33) hx hb dX5_race_28 (by decide) (fun hc => ?_) (fun hc => ?_)
        · replace hf := (if_pos hc).symm.trans hf
          refine lv_iload_n hx hb dX5_race_33 rfl (lv_at hl 2 rfl) ?_
          refine lv_iconst (v := (1 : Int32)) hx hb dX5_race_34 (by decide) ?_
          refine lv_icmp_lt (tgt := 43) hx hb dX5_race_35 (by decide) (fun hc => ?_) (fun hc => ?_)
          · replace hf := (if_pos hc).symm.trans hf
            refine lv_iconst (v := (-1 : Int32)) hx hb dX5_race_43 (by decide) ?_
            cases hf
            exact W.iret hx hb hr (fun t ht hW => ⟨⟨_, (), rfl, rfl, va_Pt ht hP⟩, hS.F ht⟩) hS.2.2 dX5_race_44
          · replace hf := (if_neg hc).symm.trans hf
            refine lv_iload_n hx hb dX5_race_38 rfl (lv_at hl 2 rfl) ?_
            refine lv_iload_n hx hb dX5_race_39 rfl (lv_at hl 1 rfl) ?_
            refine lv_icmp_lt (tgt := 45) hx hb dX5_race_40 (by decide) (fun hc => ?_) (fun hc => ?_)
            · replace hf := (if_pos hc).symm.trans hf
              refine lv_aload_n hx hb dX5_race_45 rfl (lv_at hl 0 rfl) ?_
              refine va_get (D := (dC, dI)) (ci := 5) (v := .ref a_this_races) (C := RX5) (T := TX5) (N := 8) hx hb hts hiX5 hown hK hP 0 rfl rfl 0 (by decide) (hts (.fieldLink RX5 11 "SureCount" "races" "[LSureCount$Race;") (by decide +kernel)) (fun _ h9 => h9) rfl dX5_race_46 ?_
              refine lv_aload_n hx hb dX5_race_49 rfl (lv_at hl 0 rfl) ?_
              refine va_get (D := (dC, dI)) (ci := 5) (v := .int v_this_raceCount) (C := RX5) (T := TX5) (N := 8) hx hb hts hiX5 hown hK hP 0 rfl rfl 5 (by decide) (hts (.fieldLink RX5 44 "SureCount" "raceCount" "I") (by decide +kernel)) (fun _ h9 => h9) rfl dX5_race_50 ?_
              have hi1 := (gd_some hf).1
              replace hf := (gd_some hf).2
              refine va_aldq hx hb hK hP 2 2 rfl rfl hi1 dX5_race_53 ?_
              refine W.eq (g2 := F0 m 54 ls [.ref a_R]) (by rw [hR hi1]; rfl) ?_
              refine lv_iload_n hx hb dX5_race_54 rfl (lv_at hl 1 rfl) ?_
              refine lv_iload_n hx hb dX5_race_55 rfl (lv_at hl 2 rfl) ?_
              obtain ⟨o2, ho2, hf⟩ := Option.bind_eq_some_iff.mp hf
              have hFc := va_free (wc := [(a_R, .inr (2, [.ref a_R_wordTally, .ref a_R_winsByWord, .ref a_R_pairWinner, .ref a_R_pairLoser, .ref a_R_pairMargin, .int v_R_pairs, .int v_R_candidates, .int v_R_seats, .int v_R_size, .int v_R_margin])), (a_R_pairMargin, .inl (cI, 9, .inl f_R_pairMargin)), (a_R_winsByWord, .inl (cZ, 8, .inl f_R_winsByWord)), (a_R_pairWinner, .inl (cI, 9, .inl f_R_pairWinner)), (a_R_pairLoser, .inl (cI, 9, .inl f_R_pairLoser)), (a_R_wordTally, .inr (3, [.ref a_R_wordTally_papersOf])), (a_R_wordTally_papersOf, .inl (cI, 8, .inl f_R_wordTally_papersOf))]) hD hS hAz [3, 4, 5, 6, 7, 8, 9] rfl
              refine va_callv (va_runV (As := [.int p_1, .int p_2]) (rest := []) ⟨hx, hb, hml, hown, hts⟩ (c_X2_open l dC dI cI cZ cR cJ (a_this := a_R) (a_this_wordTally := a_R_wordTally) (a_this_winsByWord := a_R_winsByWord) (a_this_pairWinner := a_R_pairWinner) (a_this_pairLoser := a_R_pairLoser) (a_this_pairMargin := a_R_pairMargin) (a_this_wordTally_papersOf := a_R_wordTally_papersOf) (v_this_pairs := v_R_pairs) (v_this_candidates := v_R_candidates) (v_this_seats := v_R_seats) (v_this_size := v_R_size) (v_this_margin := v_R_margin) (f_this_pairMargin := f_R_pairMargin) (f_this_winsByWord := f_R_winsByWord) (f_this_pairWinner := f_R_pairWinner) (f_this_pairLoser := f_R_pairLoser) (f_this_wordTally_papersOf := f_R_wordTally_papersOf) (p_1 := p_1) (p_2 := p_2) (z_v_this_pairs := o2.1) (z_v_this_candidates := o2.2.1) (z_v_this_seats := o2.2.2.1) (z_v_this_margin := o2.2.2.2.1) (z_f_this_pairMargin := o2.2.2.2.2.1) (z_f_this_winsByWord := o2.2.2.2.2.2.1) (z_f_this_pairWinner := o2.2.2.2.2.2.2.1) (z_f_this_pairLoser := o2.2.2.2.2.2.2.2) (N := N) (sz := H.size) (A := va_A [(a_R, .inr (2, [.ref a_R_wordTally, .ref a_R_winsByWord, .ref a_R_pairWinner, .ref a_R_pairLoser, .ref a_R_pairMargin, .int v_R_pairs, .int v_R_candidates, .int v_R_seats, .int v_R_size, .int v_R_margin])), (a_R_pairMargin, .inl (cI, 9, .inl f_R_pairMargin)), (a_R_winsByWord, .inl (cZ, 8, .inl f_R_winsByWord)), (a_R_pairWinner, .inl (cI, 9, .inl f_R_pairWinner)), (a_R_pairLoser, .inl (cI, 9, .inl f_R_pairLoser)), (a_R_wordTally, .inr (3, [.ref a_R_wordTally_papersOf])), (a_R_wordTally_papersOf, .inl (cI, 8, .inl f_R_wordTally_papersOf))] H.size) rfl  ho2) (cwV 2 hts gX5_race_X2_open rfl rfl rfl (by decide +kernel) ⟨Nat.le_of_ble_eq_true rfl, Nat.le_of_ble_eq_true rfl⟩) ⟨wr_blind, va_recv hK hP (ci := 2) (q0 := 3) rfl rfl, wr_pre (hP.sub [3, 4, 5, 6, 7, 8, 9] rfl) hG (hD.sub [3, 4, 5, 6, 7, 8, 9] (by decide) rfl)⟩ rfl rfl hl.1 rfl (lv_room (Nat.le_of_ble_eq_true rfl)) dX5_race_56 ⟨Nat.zero_le _, Nat.zero_le _⟩) hS (fun q _ h => hFc q h) hFc (fun u9 t9 H1 locs ht9 hv9 hw9 hB9 hz9 hk9 hS => ?_)
              rw [ht9] at hB9
              have hP : va_P (dC, dI) vwCl [(a_this, .inr (5, [.ref a_this_races, .ref a_this_papers, .ref a_this_draws, .ref a_this_walk, .ref a_this_handTally, .int v_this_raceCount, .int v_this_boxCount, .int v_this_isSealed])), (a_this_papers, .inr (1, [.ref a_this_papers_boxOf, .ref a_this_papers_wordOf, .ref a_this_papers_isLost, .ref a_this_papers_wasDrawn, .ref a_this_papers_handsOf, .ref a_this_papers_handWords, .int v_this_papers_size])), (a_this_races, .inl (cR, 5, .inr (.inr (.inr (.inr f_this_races))))), (a_R, .inr (2, [.ref a_R_wordTally, .ref a_R_winsByWord, .ref a_R_pairWinner, .ref a_R_pairLoser, .ref a_R_pairMargin, .int o2.1, .int o2.2.1, .int o2.2.2.1, .int v_R_size, .int o2.2.2.2.1])), (a_R_pairMargin, .inl (cI, 9, .inl o2.2.2.2.2.1)), (a_R_winsByWord, .inl (cZ, 8, .inl o2.2.2.2.2.2.1)), (a_R_pairWinner, .inl (cI, 9, .inl o2.2.2.2.2.2.2.1)), (a_R_pairLoser, .inl (cI, 9, .inl o2.2.2.2.2.2.2.2)), (a_R_wordTally, .inr (3, [.ref a_R_wordTally_papersOf])), (a_R_wordTally_papersOf, .inl (cI, 8, .inl f_R_wordTally_papersOf))] H1 := wj hP hD hk9 hB9 [3, 4, 5, 6, 7, 8, 9] [0, 1, 2] 10 rfl rfl rfl rfl (by decide) (by decide)
              have hD : va_D A [(a_this, .inr (5, [.ref a_this_races, .ref a_this_papers, .ref a_this_draws, .ref a_this_walk, .ref a_this_handTally, .int v_this_raceCount, .int v_this_boxCount, .int v_this_isSealed])), (a_this_papers, .inr (1, [.ref a_this_papers_boxOf, .ref a_this_papers_wordOf, .ref a_this_papers_isLost, .ref a_this_papers_wasDrawn, .ref a_this_papers_handsOf, .ref a_this_papers_handWords, .int v_this_papers_size])), (a_this_races, .inl (cR, 5, .inr (.inr (.inr (.inr f_this_races))))), (a_R, .inr (2, [.ref a_R_wordTally, .ref a_R_winsByWord, .ref a_R_pairWinner, .ref a_R_pairLoser, .ref a_R_pairMargin, .int o2.1, .int o2.2.1, .int o2.2.2.1, .int v_R_size, .int o2.2.2.2.1])), (a_R_pairMargin, .inl (cI, 9, .inl o2.2.2.2.2.1)), (a_R_winsByWord, .inl (cZ, 8, .inl o2.2.2.2.2.2.1)), (a_R_pairWinner, .inl (cI, 9, .inl o2.2.2.2.2.2.2.1)), (a_R_pairLoser, .inl (cI, 9, .inl o2.2.2.2.2.2.2.2)), (a_R_wordTally, .inr (3, [.ref a_R_wordTally_papersOf])), (a_R_wordTally_papersOf, .inl (cI, 8, .inl f_R_wordTally_papersOf))] := va_D_fst hD rfl
              generalize H1 = H at hP hS ⊢
              refine lv_aload_n hx hb dX5_race_59 rfl (lv_at hl 0 rfl) ?_
              refine lv_dup hx hb dX5_race_60 rfl ?_
              refine va_get (D := (dC, dI)) (ci := 5) (v := .int v_this_raceCount) (C := RX5) (T := TX5) (N := 8) hx hb hts hiX5 hown hK hP 0 rfl rfl 5 (by decide) (hts (.fieldLink RX5 44 "SureCount" "raceCount" "I") (by decide +kernel)) (fun _ h9 => h9) rfl dX5_race_61 ?_
              refine lv_iconst (v := (1 : Int32)) hx hb dX5_race_64 (by decide) ?_
              refine lv_iadd hx hb dX5_race_65 ?_
              refine va_put (D := (dC, dI)) (ci := 5) (v := .int (v_this_raceCount + (1 : Int32))) (ty := .int) (C := RX5) (T := TX5) (N := 8) hx hb hts hiX5 tyX5 tyX5_ok nmX5 hown hK hP hD hS 0 rfl rfl 5 (by decide) (hts (.fieldLink RX5 44 "SureCount" "raceCount" "I") (by decide +kernel)) (fun _ h9 => h9) rfl (by decide +kernel) rfl rfl (Nat.le_of_ble_eq_true rfl) dX5_race_66 (fun H locs hP hD hS => ?_)
              have hP : va_P (dC, dI) vwCl [(a_this, .inr (5, [.ref a_this_races, .ref a_this_papers, .ref a_this_draws, .ref a_this_walk, .ref a_this_handTally, .int (v_this_raceCount + (1 : Int32)), .int v_this_boxCount, .int v_this_isSealed])), (a_this_papers, .inr (1, [.ref a_this_papers_boxOf, .ref a_this_papers_wordOf, .ref a_this_papers_isLost, .ref a_this_papers_wasDrawn, .ref a_this_papers_handsOf, .ref a_this_papers_handWords, .int v_this_papers_size])), (a_this_races, .inl (cR, 5, .inr (.inr (.inr (.inr f_this_races))))), (a_R, .inr (2, [.ref a_R_wordTally, .ref a_R_winsByWord, .ref a_R_pairWinner, .ref a_R_pairLoser, .ref a_R_pairMargin, .int o2.1, .int o2.2.1, .int o2.2.2.1, .int v_R_size, .int o2.2.2.2.1])), (a_R_pairMargin, .inl (cI, 9, .inl o2.2.2.2.2.1)), (a_R_winsByWord, .inl (cZ, 8, .inl o2.2.2.2.2.2.1)), (a_R_pairWinner, .inl (cI, 9, .inl o2.2.2.2.2.2.2.1)), (a_R_pairLoser, .inl (cI, 9, .inl o2.2.2.2.2.2.2.2)), (a_R_wordTally, .inr (3, [.ref a_R_wordTally_papersOf])), (a_R_wordTally_papersOf, .inl (cI, 8, .inl f_R_wordTally_papersOf))] H := hP
              have hD : va_D A [(a_this, .inr (5, [.ref a_this_races, .ref a_this_papers, .ref a_this_draws, .ref a_this_walk, .ref a_this_handTally, .int (v_this_raceCount + (1 : Int32)), .int v_this_boxCount, .int v_this_isSealed])), (a_this_papers, .inr (1, [.ref a_this_papers_boxOf, .ref a_this_papers_wordOf, .ref a_this_papers_isLost, .ref a_this_papers_wasDrawn, .ref a_this_papers_handsOf, .ref a_this_papers_handWords, .int v_this_papers_size])), (a_this_races, .inl (cR, 5, .inr (.inr (.inr (.inr f_this_races))))), (a_R, .inr (2, [.ref a_R_wordTally, .ref a_R_winsByWord, .ref a_R_pairWinner, .ref a_R_pairLoser, .ref a_R_pairMargin, .int o2.1, .int o2.2.1, .int o2.2.2.1, .int v_R_size, .int o2.2.2.2.1])), (a_R_pairMargin, .inl (cI, 9, .inl o2.2.2.2.2.1)), (a_R_winsByWord, .inl (cZ, 8, .inl o2.2.2.2.2.2.1)), (a_R_pairWinner, .inl (cI, 9, .inl o2.2.2.2.2.2.2.1)), (a_R_pairLoser, .inl (cI, 9, .inl o2.2.2.2.2.2.2.2)), (a_R_wordTally, .inr (3, [.ref a_R_wordTally_papersOf])), (a_R_wordTally_papersOf, .inl (cI, 8, .inl f_R_wordTally_papersOf))] := hD
              refine lv_aload_n hx hb dX5_race_69 rfl (lv_at hl 0 rfl) ?_
              refine va_get (D := (dC, dI)) (ci := 5) (v := .int (v_this_raceCount + (1 : Int32))) (C := RX5) (T := TX5) (N := 8) hx hb hts hiX5 hown hK hP 0 rfl rfl 5 (by decide) (hts (.fieldLink RX5 44 "SureCount" "raceCount" "I") (by decide +kernel)) (fun _ h9 => h9) rfl dX5_race_70 ?_
              refine lv_iconst (v := (1 : Int32)) hx hb dX5_race_73 (by decide) ?_
              refine lv_isub hx hb dX5_race_74 ?_
              cases hf
              exact W.iret hx hb hr (fun t ht hW => ⟨⟨_, (), rfl, rfl, va_Pt ht hP⟩, hS.F ht⟩) hS.2.2 dX5_race_75
            · replace hf := (if_neg hc).symm.trans hf
              refine lv_iconst (v := (-1 : Int32)) hx hb dX5_race_43 (by decide) ?_
              cases hf
              exact W.iret hx hb hr (fun t ht hW => ⟨⟨_, (), rfl, rfl, va_Pt ht hP⟩, hS.F ht⟩) hS.2.2 dX5_race_44
        · replace hf := (if_neg hc).symm.trans hf
          refine lv_iconst (v := (-1 : Int32)) hx hb dX5_race_31 (by decide) ?_
          cases hf
          exact W.iret hx hb hr (fun t ht hW => ⟨⟨_, (), rfl, rfl, va_Pt ht hP⟩, hS.F ht⟩) hS.2.2 dX5_race_32
    · replace hf := (if_neg hc).symm.trans hf
      refine lv_iconst (v := (-1 : Int32)) hx hb dX5_race_18 (by decide) ?_
      cases hf
      exact W.iret hx hb hr (fun t ht hW => ⟨⟨_, (), rfl, rfl, va_Pt ht hP⟩, hS.F ht⟩) hS.2.2 dX5_race_19
def f_X5_box (v_this_boxCount : Int32) (v_this_isSealed : Int32) : Option (Int32 × Int32) := if (10 : Int32) ≤ v_this_boxCount then (some ((-1 : Int32), v_this_boxCount)) else (if v_this_isSealed = 0 then (some ((v_this_boxCount + (1 : Int32)) - (1 : Int32), v_this_boxCount + (1 : Int32))) else (some ((-1 : Int32), v_this_boxCount)))
set_option maxHeartbeats 4000000 in
set_option maxRecDepth 100000 in
theorem c_X5_box (l : Launch) (dC : Nat → ClassId) (dI : Nat → Nat → Nat) (cI cZ cR cJ : ClassId) (a_this a_this_races a_this_papers a_this_draws a_this_walk a_this_handTally : Nat) (v_this_raceCount : Int32) (v_this_boxCount : Int32) (v_this_isSealed : Int32) (N : Nat) (r0 : Int32) (z_v_this_boxCount : Int32) (sz : Nat) (A : Addr → Prop) (hA : A = va_A [(a_this, .inr (5, [.ref a_this_races, .ref a_this_papers, .ref a_this_draws, .ref a_this_walk, .ref a_this_handTally, .int v_this_raceCount, .int v_this_boxCount, .int v_this_isSealed]))] sz) (hf : f_X5_box v_this_boxCount v_this_isSealed = some (r0, z_v_this_boxCount)) : Met l yX5_box wsX5_box ({ frames := 0, cells := 0, slots := 0, locals := 0 } : Room) (va_Pc ([.ref a_this] : List Value) (wrB (dC, dI) sz [(a_this, .inr (5, [.ref a_this_races, .ref a_this_papers, .ref a_this_draws, .ref a_this_walk, .ref a_this_handTally, .int v_this_raceCount, .int v_this_boxCount, .int v_this_isSealed]))] (GG dC dI cI cZ cR cJ))) (va_Qi (fun (r : Int32) (_ : Unit) => r = r0) (fun _ t => va_P (dC, dI) vwCl [(a_this, .inr (5, [.ref a_this_races, .ref a_this_papers, .ref a_this_draws, .ref a_this_walk, .ref a_this_handTally, .int v_this_raceCount, .int z_v_this_boxCount, .int v_this_isSealed]))] t.heap) A) 0 0 A := by
  refine Met.ofW (cc := cX5_box) (maxL := 1) (ret := (some .int)) (by decide) rfl ?_
  intro p e s m args below meth c s₁ B hml hv
  obtain ⟨rfl, rfl, hP, hG, hD0⟩ := hv
  have hD := hD0.self (sz := s.heap.size)
  rw [← hA] at hD
  have hAz : ∀ q : Nat, s.heap.size ≤ q → A q := fun q h => by rw [hA]; exact Or.inr h
  have hx := B.exec
  have hb := B.bytes
  have hr := B.returns
  have hts := atoms_spec (ws := wsX5_box) B.pre
  have hown : s.vm.findClass RX5 = some m.cls := findClass_of_methodNamed B.named
  have hlocks := B.notSynchronized
  have hK := hG.1
  have hiX5 : ∀ w ∈ u_ws RX5 TX5 8, w ∈ wsX5_box := by decide +kernel
  refine w_entry [(0, .ref a_this)] (Nat.le_of_ble_eq_true rfl) rfl (fun ls hl => ?_)
  refine w_start (A := A) hP (fun H locs hP hS => ?_)
  rw [f_X5_box] at hf
  refine lv_aload_n hx hb dX5_box_0 rfl (lv_at hl 0 rfl) ?_
  refine va_get (D := (dC, dI)) (ci := 5) (v := .int v_this_boxCount) (C := RX5) (T := TX5) (N := 8) hx hb hts hiX5 hown hK hP 0 rfl rfl 6 (by decide) (hts (.fieldLink RX5 48 "SureCount" "boxCount" "I") (by decide +kernel)) (fun _ h9 => h9) rfl dX5_box_1 ?_
  refine lv_bipush (v := (10 : Int32)) hx hb dX5_box_4 (by decide) ?_
  refine lv_icmp_ge (tgt := 16) hx hb dX5_box_6 (by decide) (fun hc => ?_) (fun hc => ?_)
  · replace hf := (if_pos hc).symm.trans hf
    refine lv_iconst (v := (-1 : Int32)) hx hb dX5_box_16 (by decide) ?_
    cases hf
    exact W.iret hx hb hr (fun t ht hW => ⟨⟨_, (), rfl, rfl, va_Pt ht hP⟩, hS.F ht⟩) hS.2.2 dX5_box_17
  · replace hf := (if_neg hc).symm.trans hf
    refine lv_aload_n hx hb dX5_box_9 rfl (lv_at hl 0 rfl) ?_
    refine va_get (D := (dC, dI)) (ci := 5) (v := .int v_this_isSealed) (C := RX5) (T := TX5) (N := 8) hx hb hts hiX5 hown hK hP 0 rfl rfl 7 (by decide) (hts (.fieldLink RX5 51 "SureCount" "isSealed" "Z") (by decide +kernel)) (fun _ h9 => h9) rfl dX5_box_10 ?_
    refine lv_if_eq (tgt := 18) hx hb dX5_box_13 (by decide) (fun hc => ?_) (fun hc => ?_)
    · replace hf := (if_pos hc).symm.trans hf
      refine lv_aload_n hx hb dX5_box_18 rfl (lv_at hl 0 rfl) ?_
      refine lv_dup hx hb dX5_box_19 rfl ?_
      refine va_get (D := (dC, dI)) (ci := 5) (v := .int v_this_boxCount) (C := RX5) (T := TX5) (N := 8) hx hb hts hiX5 hown hK hP 0 rfl rfl 6 (by decide) (hts (.fieldLink RX5 48 "SureCount" "boxCount" "I") (by decide +kernel)) (fun _ h9 => h9) rfl dX5_box_20 ?_
      refine lv_iconst (v := (1 : Int32)) hx hb dX5_box_23 (by decide) ?_
      refine lv_iadd hx hb dX5_box_24 ?_
      refine va_put (D := (dC, dI)) (ci := 5) (v := .int (v_this_boxCount + (1 : Int32))) (ty := .int) (C := RX5) (T := TX5) (N := 8) hx hb hts hiX5 tyX5 tyX5_ok nmX5 hown hK hP hD hS 0 rfl rfl 6 (by decide) (hts (.fieldLink RX5 48 "SureCount" "boxCount" "I") (by decide +kernel)) (fun _ h9 => h9) rfl (by decide +kernel) rfl rfl (Nat.le_of_ble_eq_true rfl) dX5_box_25 (fun H locs hP hD hS => ?_)
      have hP : va_P (dC, dI) vwCl [(a_this, .inr (5, [.ref a_this_races, .ref a_this_papers, .ref a_this_draws, .ref a_this_walk, .ref a_this_handTally, .int v_this_raceCount, .int (v_this_boxCount + (1 : Int32)), .int v_this_isSealed]))] H := hP
      have hD : va_D A [(a_this, .inr (5, [.ref a_this_races, .ref a_this_papers, .ref a_this_draws, .ref a_this_walk, .ref a_this_handTally, .int v_this_raceCount, .int (v_this_boxCount + (1 : Int32)), .int v_this_isSealed]))] := hD
      refine lv_aload_n hx hb dX5_box_28 rfl (lv_at hl 0 rfl) ?_
      refine va_get (D := (dC, dI)) (ci := 5) (v := .int (v_this_boxCount + (1 : Int32))) (C := RX5) (T := TX5) (N := 8) hx hb hts hiX5 hown hK hP 0 rfl rfl 6 (by decide) (hts (.fieldLink RX5 48 "SureCount" "boxCount" "I") (by decide +kernel)) (fun _ h9 => h9) rfl dX5_box_29 ?_
      refine lv_iconst (v := (1 : Int32)) hx hb dX5_box_32 (by decide) ?_
      refine lv_isub hx hb dX5_box_33 ?_
      cases hf
      exact W.iret hx hb hr (fun t ht hW => ⟨⟨_, (), rfl, rfl, va_Pt ht hP⟩, hS.F ht⟩) hS.2.2 dX5_box_34
    · replace hf := (if_neg hc).symm.trans hf
      refine lv_iconst (v := (-1 : Int32)) hx hb dX5_box_16 (by decide) ?_
      cases hf
      exact W.iret hx hb hr (fun t ht hW => ⟨⟨_, (), rfl, rfl, va_Pt ht hP⟩, hS.F ht⟩) hS.2.2 dX5_box_17
def f_X5_seal (p_1 : Int64) (v_this_isSealed : Int32) (v_this_papers_size : Int32) (v_this_draws_dice : Int64) : Option (Int32 × Int32 × Int64) := if v_this_isSealed = 0 then (if v_this_papers_size = 0 then (some ((0 : Int32), v_this_isSealed, v_this_draws_dice)) else (Option.bind (f_X0_begin p_1) (fun o1 => some ((1 : Int32), (1 : Int32), o1)))) else (some ((0 : Int32), v_this_isSealed, v_this_draws_dice))
set_option maxHeartbeats 4000000 in
set_option maxRecDepth 100000 in
theorem c_X5_seal (l : Launch) (dC : Nat → ClassId) (dI : Nat → Nat → Nat) (cI cZ cR cJ : ClassId) (a_this a_this_races a_this_papers a_this_draws a_this_walk a_this_handTally a_this_papers_boxOf a_this_papers_wordOf a_this_papers_isLost a_this_papers_wasDrawn a_this_papers_handsOf a_this_papers_handWords a_this_draws_paperOf : Nat) (v_this_raceCount : Int32) (v_this_boxCount : Int32) (v_this_isSealed : Int32) (v_this_papers_size : Int32) (v_this_draws_size : Int32) (v_this_draws_dice : Int64) (p_1 : Int64) (N : Nat) (r0 : Int32) (z_v_this_isSealed : Int32) (z_v_this_draws_dice : Int64) (sz : Nat) (A : Addr → Prop) (hA : A = va_A [(a_this, .inr (5, [.ref a_this_races, .ref a_this_papers, .ref a_this_draws, .ref a_this_walk, .ref a_this_handTally, .int v_this_raceCount, .int v_this_boxCount, .int v_this_isSealed])), (a_this_papers, .inr (1, [.ref a_this_papers_boxOf, .ref a_this_papers_wordOf, .ref a_this_papers_isLost, .ref a_this_papers_wasDrawn, .ref a_this_papers_handsOf, .ref a_this_papers_handWords, .int v_this_papers_size])), (a_this_draws, .inr (0, [.ref a_this_draws_paperOf, .int v_this_draws_size, .long v_this_draws_dice]))] sz) (hf : f_X5_seal p_1 v_this_isSealed v_this_papers_size v_this_draws_dice = some (r0, z_v_this_isSealed, z_v_this_draws_dice)) : Met l yX5_seal wsX5_seal ({ frames := 1, cells := 0, slots := 0, locals := 22 } : Room) (va_Pc ([.ref a_this, .long p_1] : List Value) (wrB (dC, dI) sz [(a_this, .inr (5, [.ref a_this_races, .ref a_this_papers, .ref a_this_draws, .ref a_this_walk, .ref a_this_handTally, .int v_this_raceCount, .int v_this_boxCount, .int v_this_isSealed])), (a_this_papers, .inr (1, [.ref a_this_papers_boxOf, .ref a_this_papers_wordOf, .ref a_this_papers_isLost, .ref a_this_papers_wasDrawn, .ref a_this_papers_handsOf, .ref a_this_papers_handWords, .int v_this_papers_size])), (a_this_draws, .inr (0, [.ref a_this_draws_paperOf, .int v_this_draws_size, .long v_this_draws_dice]))] (GG dC dI cI cZ cR cJ))) (va_Qi (fun (r : Int32) (_ : Unit) => r = r0) (fun _ t => va_P (dC, dI) vwCl [(a_this, .inr (5, [.ref a_this_races, .ref a_this_papers, .ref a_this_draws, .ref a_this_walk, .ref a_this_handTally, .int v_this_raceCount, .int v_this_boxCount, .int z_v_this_isSealed])), (a_this_papers, .inr (1, [.ref a_this_papers_boxOf, .ref a_this_papers_wordOf, .ref a_this_papers_isLost, .ref a_this_papers_wasDrawn, .ref a_this_papers_handsOf, .ref a_this_papers_handWords, .int v_this_papers_size])), (a_this_draws, .inr (0, [.ref a_this_draws_paperOf, .int v_this_draws_size, .long z_v_this_draws_dice]))] t.heap) A) 0 0 A := by
  refine Met.ofW (cc := cX5_seal) (maxL := 3) (ret := (some .boolean)) (by decide) rfl ?_
  intro p e s m args below meth c s₁ B hml hv
  obtain ⟨rfl, rfl, hP, hG, hD0⟩ := hv
  have hD := hD0.self (sz := s.heap.size)
  rw [← hA] at hD
  have hAz : ∀ q : Nat, s.heap.size ≤ q → A q := fun q h => by rw [hA]; exact Or.inr h
  have hx := B.exec
  have hb := B.bytes
  have hr := B.returns
  have hts := atoms_spec (ws := wsX5_seal) B.pre
  have hown : s.vm.findClass RX5 = some m.cls := findClass_of_methodNamed B.named
  have hlocks := B.notSynchronized
  have hK := hG.1
  have hiX1 : ∀ w ∈ u_ws RX1 TX1 7, w ∈ wsX5_seal := by decide +kernel
  have hiX5 : ∀ w ∈ u_ws RX5 TX5 8, w ∈ wsX5_seal := by decide +kernel
  refine w_entry [(0, .ref a_this), (1, .long p_1)] (Nat.le_of_ble_eq_true rfl) rfl (fun ls hl => ?_)
  refine w_start (A := A) hP (fun H locs hP hS => ?_)
  rw [f_X5_seal] at hf
  refine lv_aload_n hx hb dX5_seal_0 rfl (lv_at hl 0 rfl) ?_
  refine va_get (D := (dC, dI)) (ci := 5) (v := .int v_this_isSealed) (C := RX5) (T := TX5) (N := 8) hx hb hts hiX5 hown hK hP 0 rfl rfl 7 (by decide) (hts (.fieldLink RX5 51 "SureCount" "isSealed" "Z") (by decide +kernel)) (fun _ h9 => h9) rfl dX5_seal_1 ?_
  refine lv_if_ne (tgt := 17) hx hb dX5_seal_4 (by decide) (fun hc => ?_) (fun hc => ?_)
  · replace hf := (if_neg hc).symm.trans hf
    refine lv_iconst (v := (0 : Int32)) hx hb dX5_seal_17 (by decide) ?_
    cases hf
    exact W.zret hx hb hr rfl (fun t ht hW => ⟨⟨_, (), rfl, rfl, va_Pt ht hP⟩, hS.F ht⟩) hS.2.2 dX5_seal_18
  · replace hf := (if_pos hc).symm.trans hf
    refine lv_aload_n hx hb dX5_seal_7 rfl (lv_at hl 0 rfl) ?_
    refine va_get (D := (dC, dI)) (ci := 5) (v := .ref a_this_papers) (C := RX5) (T := TX5) (N := 8) hx hb hts hiX5 hown hK hP 0 rfl rfl 1 (by decide) (hts (.fieldLink RX5 19 "SureCount" "papers" "LSureCount$Papers;") (by decide +kernel)) (fun _ h9 => h9) rfl dX5_seal_8 ?_
    refine va_getN (D := (dC, dI)) (ci := 1) (v := .int v_this_papers_size) (C := RX1) (T := TX1) (N := 7) (host := "SureCount") hx hb hts hiX1 hown hK hP 1 rfl rfl 6 (by decide) (va_Nw.use rfl (hG.2.1 (RX5, 55, "SureCount$Papers", "size", "I", "SureCount") (List.mem_of_getElem? (i := 14) rfl))) (fun _ h9 => h9) rfl dX5_seal_11 ?_
    refine lv_if_ne (tgt := 19) hx hb dX5_seal_14 (by decide) (fun hc => ?_) (fun hc => ?_)
    · replace hf := (if_neg hc).symm.trans hf
      refine lv_aload_n hx hb dX5_seal_19 rfl (lv_at hl 0 rfl) ?_
      refine lv_iconst (v := (1 : Int32)) hx hb dX5_seal_20 (by decide) ?_
      refine va_put (D := (dC, dI)) (ci := 5) (v := .int (1 : Int32)) (ty := .boolean) (C := RX5) (T := TX5) (N := 8) hx hb hts hiX5 tyX5 tyX5_ok nmX5 hown hK hP hD hS 0 rfl rfl 7 (by decide) (hts (.fieldLink RX5 51 "SureCount" "isSealed" "Z") (by decide +kernel)) (fun _ h9 => h9) rfl (by decide +kernel) rfl rfl (Nat.le_of_ble_eq_true rfl) dX5_seal_21 (fun H locs hP hD hS => ?_)
      have hP : va_P (dC, dI) vwCl [(a_this, .inr (5, [.ref a_this_races, .ref a_this_papers, .ref a_this_draws, .ref a_this_walk, .ref a_this_handTally, .int v_this_raceCount, .int v_this_boxCount, .int (1 : Int32)])), (a_this_papers, .inr (1, [.ref a_this_papers_boxOf, .ref a_this_papers_wordOf, .ref a_this_papers_isLost, .ref a_this_papers_wasDrawn, .ref a_this_papers_handsOf, .ref a_this_papers_handWords, .int v_this_papers_size])), (a_this_draws, .inr (0, [.ref a_this_draws_paperOf, .int v_this_draws_size, .long v_this_draws_dice]))] H := hP
      have hD : va_D A [(a_this, .inr (5, [.ref a_this_races, .ref a_this_papers, .ref a_this_draws, .ref a_this_walk, .ref a_this_handTally, .int v_this_raceCount, .int v_this_boxCount, .int (1 : Int32)])), (a_this_papers, .inr (1, [.ref a_this_papers_boxOf, .ref a_this_papers_wordOf, .ref a_this_papers_isLost, .ref a_this_papers_wasDrawn, .ref a_this_papers_handsOf, .ref a_this_papers_handWords, .int v_this_papers_size])), (a_this_draws, .inr (0, [.ref a_this_draws_paperOf, .int v_this_draws_size, .long v_this_draws_dice]))] := hD
      refine lv_aload_n hx hb dX5_seal_24 rfl (lv_at hl 0 rfl) ?_
      refine va_get (D := (dC, dI)) (ci := 5) (v := .ref a_this_draws) (C := RX5) (T := TX5) (N := 8) hx hb hts hiX5 hown hK hP 0 rfl rfl 2 (by decide) (hts (.fieldLink RX5 26 "SureCount" "draws" "LSureCount$Draws;") (by decide +kernel)) (fun _ h9 => h9) rfl dX5_seal_25 ?_
      refine lv_lload_n hx hb dX5_seal_28 rfl (lv_at hl 1 rfl) ?_
      obtain ⟨o1, ho1, hf⟩ := Option.bind_eq_some_iff.mp hf
      have hFc := va_free (wc := [(a_this_draws, .inr (0, [.ref a_this_draws_paperOf, .int v_this_draws_size, .long v_this_draws_dice]))]) hD hS hAz [2] rfl
      refine va_callv (va_runV (As := [.long p_1]) (rest := []) ⟨hx, hb, hml, hown, hts⟩ (c_X0_begin l dC dI cI cZ cR cJ (a_this := a_this_draws) (a_this_paperOf := a_this_draws_paperOf) (v_this_size := v_this_draws_size) (v_this_dice := v_this_draws_dice) (p_1 := p_1) (z_v_this_dice := o1) (N := N) (sz := H.size) (A := va_A [(a_this_draws, .inr (0, [.ref a_this_draws_paperOf, .int v_this_draws_size, .long v_this_draws_dice]))] H.size) rfl  ho1) (cwV 1 hts gX5_seal_X0_begin rfl rfl rfl (by decide +kernel) ⟨Nat.le_of_ble_eq_true rfl, Nat.le_of_ble_eq_true rfl⟩) ⟨wr_blind, va_recv hK hP (ci := 0) (q0 := 2) rfl rfl, wr_pre (hP.sub [2] rfl) hG (hD.sub [2] (by decide) rfl)⟩ rfl rfl hl.1 rfl (lv_room (Nat.le_of_ble_eq_true rfl)) dX5_seal_29 ⟨Nat.zero_le _, Nat.zero_le _⟩) hS (fun q _ h => hFc q h) hFc (fun u9 t9 H1 locs ht9 hv9 hw9 hB9 hz9 hk9 hS => ?_)
      rw [ht9] at hB9
      have hP : va_P (dC, dI) vwCl [(a_this, .inr (5, [.ref a_this_races, .ref a_this_papers, .ref a_this_draws, .ref a_this_walk, .ref a_this_handTally, .int v_this_raceCount, .int v_this_boxCount, .int (1 : Int32)])), (a_this_papers, .inr (1, [.ref a_this_papers_boxOf, .ref a_this_papers_wordOf, .ref a_this_papers_isLost, .ref a_this_papers_wasDrawn, .ref a_this_papers_handsOf, .ref a_this_papers_handWords, .int v_this_papers_size])), (a_this_draws, .inr (0, [.ref a_this_draws_paperOf, .int v_this_draws_size, .long o1]))] H1 := wj hP hD hk9 hB9 [2] [0, 1] 3 rfl rfl rfl rfl (by decide) (by decide)
      have hD : va_D A [(a_this, .inr (5, [.ref a_this_races, .ref a_this_papers, .ref a_this_draws, .ref a_this_walk, .ref a_this_handTally, .int v_this_raceCount, .int v_this_boxCount, .int (1 : Int32)])), (a_this_papers, .inr (1, [.ref a_this_papers_boxOf, .ref a_this_papers_wordOf, .ref a_this_papers_isLost, .ref a_this_papers_wasDrawn, .ref a_this_papers_handsOf, .ref a_this_papers_handWords, .int v_this_papers_size])), (a_this_draws, .inr (0, [.ref a_this_draws_paperOf, .int v_this_draws_size, .long o1]))] := va_D_fst hD rfl
      generalize H1 = H at hP hS ⊢
      refine lv_iconst (v := (1 : Int32)) hx hb dX5_seal_32 (by decide) ?_
      cases hf
      exact W.zret hx hb hr rfl (fun t ht hW => ⟨⟨_, (), rfl, rfl, va_Pt ht hP⟩, hS.F ht⟩) hS.2.2 dX5_seal_33
    · replace hf := (if_pos hc).symm.trans hf
      refine lv_iconst (v := (0 : Int32)) hx hb dX5_seal_17 (by decide) ?_
      cases hf
      exact W.zret hx hb hr rfl (fun t ht hW => ⟨⟨_, (), rfl, rfl, va_Pt ht hP⟩, hS.F ht⟩) hS.2.2 dX5_seal_18
def f_X5_tallyOf_a (p_1 : Int32) : Option (Unit) := gd p_1 5 (some ())
set_option maxHeartbeats 4000000 in
set_option maxRecDepth 100000 in
theorem c_X5_tallyOf_a (l : Launch) (dC : Nat → ClassId) (dI : Nat → Nat → Nat) (cI cZ cR cJ : ClassId) (a_this a_R a_this_races a_this_papers a_this_draws a_this_walk a_this_handTally a_R_wordTally a_R_winsByWord a_R_pairWinner a_R_pairLoser a_R_pairMargin : Nat) (v_this_raceCount : Int32) (v_this_boxCount : Int32) (v_this_isSealed : Int32) (f_this_races : Nat → Option Nat) (v_R_pairs : Int32) (v_R_candidates : Int32) (v_R_seats : Int32) (v_R_size : Int32) (v_R_margin : Int32) (p_1 : Int32) (p_2 : Int32) (N : Nat) (sz : Nat) (A : Addr → Prop) (hA : A = va_A [(a_this, .inr (5, [.ref a_this_races, .ref a_this_papers, .ref a_this_draws, .ref a_this_walk, .ref a_this_handTally, .int v_this_raceCount, .int v_this_boxCount, .int v_this_isSealed])), (a_this_races, .inl (cR, 5, .inr (.inr (.inr (.inr f_this_races))))), (a_R, .inr (2, [.ref a_R_wordTally, .ref a_R_winsByWord, .ref a_R_pairWinner, .ref a_R_pairLoser, .ref a_R_pairMargin, .int v_R_pairs, .int v_R_candidates, .int v_R_seats, .int v_R_size, .int v_R_margin]))] sz) (hR : vp_in p_1 5 → f_this_races p_1.toNatClampNeg = some a_R) (h9 : p_2 = 0) (hf : f_X5_tallyOf_a p_1 = some ()) : Met l yX5_tallyOf wsX5_tallyOf ({ frames := 0, cells := 0, slots := 0, locals := 0 } : Room) (va_Pc ([.ref a_this, .int p_1, .int p_2] : List Value) (wrB (dC, dI) sz [(a_this, .inr (5, [.ref a_this_races, .ref a_this_papers, .ref a_this_draws, .ref a_this_walk, .ref a_this_handTally, .int v_this_raceCount, .int v_this_boxCount, .int v_this_isSealed])), (a_this_races, .inl (cR, 5, .inr (.inr (.inr (.inr f_this_races))))), (a_R, .inr (2, [.ref a_R_wordTally, .ref a_R_winsByWord, .ref a_R_pairWinner, .ref a_R_pairLoser, .ref a_R_pairMargin, .int v_R_pairs, .int v_R_candidates, .int v_R_seats, .int v_R_size, .int v_R_margin]))] (GG dC dI cI cZ cR cJ))) (va_Qr (fun (_ : Unit) => True) (fun _ a t => a = a_R_wordTally ∧ va_P (dC, dI) vwCl [(a_this, .inr (5, [.ref a_this_races, .ref a_this_papers, .ref a_this_draws, .ref a_this_walk, .ref a_this_handTally, .int v_this_raceCount, .int v_this_boxCount, .int v_this_isSealed])), (a_this_races, .inl (cR, 5, .inr (.inr (.inr (.inr f_this_races))))), (a_R, .inr (2, [.ref a_R_wordTally, .ref a_R_winsByWord, .ref a_R_pairWinner, .ref a_R_pairLoser, .ref a_R_pairMargin, .int v_R_pairs, .int v_R_candidates, .int v_R_seats, .int v_R_size, .int v_R_margin]))] t.heap) A) 0 0 A := by
  refine Met.ofW (cc := cX5_tallyOf) (maxL := 4) (ret := (some (.object "SureCount$Tally"))) (by decide) rfl ?_
  intro p e s m args below meth c s₁ B hml hv
  obtain ⟨rfl, rfl, hP, hG, hD0⟩ := hv
  have hD := hD0.self (sz := s.heap.size)
  rw [← hA] at hD
  have hAz : ∀ q : Nat, s.heap.size ≤ q → A q := fun q h => by rw [hA]; exact Or.inr h
  have hx := B.exec
  have hb := B.bytes
  have hr := B.returns
  have hts := atoms_spec (ws := wsX5_tallyOf) B.pre
  have hown : s.vm.findClass RX5 = some m.cls := findClass_of_methodNamed B.named
  have hlocks := B.notSynchronized
  have hK := hG.1
  have hiX2 : ∀ w ∈ u_ws RX2 TX2 10, w ∈ wsX5_tallyOf := by decide +kernel
  have hiX5 : ∀ w ∈ u_ws RX5 TX5 8, w ∈ wsX5_tallyOf := by decide +kernel
  refine w_entry [(0, .ref a_this), (1, .int p_1), (2, .int p_2)] (Nat.le_of_ble_eq_true rfl) rfl (fun ls hl => ?_)
  refine w_start (A := A) hP (fun H locs hP hS => ?_)
  rw [f_X5_tallyOf_a] at hf
  refine lv_iload_n hx hb dX5_tallyOf_0 rfl (lv_at hl 2 rfl) ?_
  refine lv_if_ne (tgt := 14) hx hb dX5_tallyOf_1 (by decide) (fun hc => absurd h9 hc) (fun _ => ?_)
  refine lv_aload_n hx hb dX5_tallyOf_4 rfl (lv_at hl 0 rfl) ?_
  refine va_get (D := (dC, dI)) (ci := 5) (v := .ref a_this_races) (C := RX5) (T := TX5) (N := 8) hx hb hts hiX5 hown hK hP 0 rfl rfl 0 (by decide) (hts (.fieldLink RX5 11 "SureCount" "races" "[LSureCount$Race;") (by decide +kernel)) (fun _ h9 => h9) rfl dX5_tallyOf_5 ?_
  refine lv_iload_n hx hb dX5_tallyOf_8 rfl (lv_at hl 1 rfl) ?_
  have hi1 := (gd_some hf).1
  replace hf := (gd_some hf).2
  refine va_aldq hx hb hK hP 1 2 rfl rfl hi1 dX5_tallyOf_9 ?_
  refine W.eq (g2 := F0 m 10 ls [.ref a_R]) (by rw [hR hi1]; rfl) ?_
  refine va_getN (D := (dC, dI)) (ci := 2) (v := .ref a_R_wordTally) (C := RX2) (T := TX2) (N := 10) (host := "SureCount") hx hb hts hiX2 hown hK hP 2 rfl rfl 0 (by decide) (va_Nw.use rfl (hG.2.1 (RX5, 223, "SureCount$Race", "wordTally", "LSureCount$Tally;", "SureCount") (List.mem_of_getElem? (i := 0) rfl))) (fun _ h9 => h9) rfl dX5_tallyOf_10 ?_
  cases hf
  exact W.aret hx hb hr (Or.inl ⟨_, rfl⟩) (Or.inr ⟨_, rfl⟩) (fun t ht hW => ⟨⟨(), _, rfl, trivial, rfl, va_Pt ht hP⟩, hS.F ht⟩) hS.2.2 dX5_tallyOf_13
def f_X5_tallyOf_b_L23 (p_1 : Int32) (v_this_papers_size : Int32) (f_this_papers_handsOf : Nat → Int32) (f_this_papers_wordOf : Nat → Int32) (f_this_papers_handWords : Nat → Int32)  : Nat → Int32 → (Nat → Int32) → Option ((Nat → Int32))
  | 0, _, _ => none
  | n23 + 1, x_3, y_f_this_handTally_papersOf => if v_this_papers_size ≤ x_3 then (some y_f_this_handTally_papersOf) else (Option.bind (f_X1_wholeMark x_3 p_1 f_this_papers_handsOf f_this_papers_wordOf f_this_papers_handWords) (fun o2 => Option.bind (f_X3_add o2 y_f_this_handTally_papersOf) (fun o3 => f_X5_tallyOf_b_L23 p_1 v_this_papers_size f_this_papers_handsOf f_this_papers_wordOf f_this_papers_handWords n23 (x_3 + (1 : Int32)) o3)))
def f_X5_tallyOf_b (N : Nat) (p_1 : Int32) (f_this_handTally_papersOf : Nat → Int32) (v_this_papers_size : Int32) (f_this_papers_handsOf : Nat → Int32) (f_this_papers_wordOf : Nat → Int32) (f_this_papers_handWords : Nat → Int32) : Option ((Nat → Int32)) := Option.bind (f_X3_clear N f_this_handTally_papersOf) (fun o1 => f_X5_tallyOf_b_L23 p_1 v_this_papers_size f_this_papers_handsOf f_this_papers_wordOf f_this_papers_handWords  N (0 : Int32) o1)
set_option maxHeartbeats 4000000 in
set_option maxRecDepth 100000 in
theorem c_X5_tallyOf_b (l : Launch) (dC : Nat → ClassId) (dI : Nat → Nat → Nat) (cI cZ cR cJ : ClassId) (a_this a_this_races a_this_papers a_this_draws a_this_walk a_this_handTally a_this_handTally_papersOf a_this_papers_boxOf a_this_papers_wordOf a_this_papers_isLost a_this_papers_wasDrawn a_this_papers_handsOf a_this_papers_handWords : Nat) (v_this_raceCount : Int32) (v_this_boxCount : Int32) (v_this_isSealed : Int32) (f_this_handTally_papersOf : Nat → Int32) (v_this_papers_size : Int32) (f_this_papers_handsOf : Nat → Int32) (f_this_papers_wordOf : Nat → Int32) (f_this_papers_handWords : Nat → Int32) (p_1 : Int32) (p_2 : Int32) (N : Nat) (z_f_this_handTally_papersOf : Nat → Int32) (sz : Nat) (A : Addr → Prop) (hA : A = va_A [(a_this, .inr (5, [.ref a_this_races, .ref a_this_papers, .ref a_this_draws, .ref a_this_walk, .ref a_this_handTally, .int v_this_raceCount, .int v_this_boxCount, .int v_this_isSealed])), (a_this_handTally, .inr (3, [.ref a_this_handTally_papersOf])), (a_this_handTally_papersOf, .inl (cI, 8, .inl f_this_handTally_papersOf)), (a_this_papers, .inr (1, [.ref a_this_papers_boxOf, .ref a_this_papers_wordOf, .ref a_this_papers_isLost, .ref a_this_papers_wasDrawn, .ref a_this_papers_handsOf, .ref a_this_papers_handWords, .int v_this_papers_size])), (a_this_papers_handsOf, .inl (cI, 300, .inl f_this_papers_handsOf)), (a_this_papers_wordOf, .inl (cI, 300, .inl f_this_papers_wordOf)), (a_this_papers_handWords, .inl (cI, 900, .inl f_this_papers_handWords))] sz) (h9 : ¬ p_2 = 0) (hf : f_X5_tallyOf_b N p_1 f_this_handTally_papersOf v_this_papers_size f_this_papers_handsOf f_this_papers_wordOf f_this_papers_handWords = some z_f_this_handTally_papersOf) : Met l yX5_tallyOf wsX5_tallyOf ({ frames := 4, cells := 0, slots := 0, locals := 92 } : Room) (va_Pc ([.ref a_this, .int p_1, .int p_2] : List Value) (wrB (dC, dI) sz [(a_this, .inr (5, [.ref a_this_races, .ref a_this_papers, .ref a_this_draws, .ref a_this_walk, .ref a_this_handTally, .int v_this_raceCount, .int v_this_boxCount, .int v_this_isSealed])), (a_this_handTally, .inr (3, [.ref a_this_handTally_papersOf])), (a_this_handTally_papersOf, .inl (cI, 8, .inl f_this_handTally_papersOf)), (a_this_papers, .inr (1, [.ref a_this_papers_boxOf, .ref a_this_papers_wordOf, .ref a_this_papers_isLost, .ref a_this_papers_wasDrawn, .ref a_this_papers_handsOf, .ref a_this_papers_handWords, .int v_this_papers_size])), (a_this_papers_handsOf, .inl (cI, 300, .inl f_this_papers_handsOf)), (a_this_papers_wordOf, .inl (cI, 300, .inl f_this_papers_wordOf)), (a_this_papers_handWords, .inl (cI, 900, .inl f_this_papers_handWords))] (GG dC dI cI cZ cR cJ))) (va_Qr (fun (_ : Unit) => True) (fun _ a t => a = a_this_handTally ∧ va_P (dC, dI) vwCl [(a_this, .inr (5, [.ref a_this_races, .ref a_this_papers, .ref a_this_draws, .ref a_this_walk, .ref a_this_handTally, .int v_this_raceCount, .int v_this_boxCount, .int v_this_isSealed])), (a_this_handTally, .inr (3, [.ref a_this_handTally_papersOf])), (a_this_handTally_papersOf, .inl (cI, 8, .inl z_f_this_handTally_papersOf)), (a_this_papers, .inr (1, [.ref a_this_papers_boxOf, .ref a_this_papers_wordOf, .ref a_this_papers_isLost, .ref a_this_papers_wasDrawn, .ref a_this_papers_handsOf, .ref a_this_papers_handWords, .int v_this_papers_size])), (a_this_papers_handsOf, .inl (cI, 300, .inl f_this_papers_handsOf)), (a_this_papers_wordOf, .inl (cI, 300, .inl f_this_papers_wordOf)), (a_this_papers_handWords, .inl (cI, 900, .inl f_this_papers_handWords))] t.heap) A) 0 0 A := by
  refine Met.ofW (cc := cX5_tallyOf) (maxL := 4) (ret := (some (.object "SureCount$Tally"))) (by decide) rfl ?_
  intro p e s m args below meth c s₁ B hml hv
  obtain ⟨rfl, rfl, hP, hG, hD0⟩ := hv
  have hD := hD0.self (sz := s.heap.size)
  rw [← hA] at hD
  have hAz : ∀ q : Nat, s.heap.size ≤ q → A q := fun q h => by rw [hA]; exact Or.inr h
  have hx := B.exec
  have hb := B.bytes
  have hr := B.returns
  have hts := atoms_spec (ws := wsX5_tallyOf) B.pre
  have hown : s.vm.findClass RX5 = some m.cls := findClass_of_methodNamed B.named
  have hlocks := B.notSynchronized
  have hK := hG.1
  have hiX1 : ∀ w ∈ u_ws RX1 TX1 7, w ∈ wsX5_tallyOf := by decide +kernel
  have hiX5 : ∀ w ∈ u_ws RX5 TX5 8, w ∈ wsX5_tallyOf := by decide +kernel
  have loop23 : ∀ (n : Nat) (x_3 : Int32) (y_f_this_handTally_papersOf : Nat → Int32) (H : Heap) (locs : List Loc) (hP : va_P (dC, dI) vwCl [(a_this, .inr (5, [.ref a_this_races, .ref a_this_papers, .ref a_this_draws, .ref a_this_walk, .ref a_this_handTally, .int v_this_raceCount, .int v_this_boxCount, .int v_this_isSealed])), (a_this_handTally, .inr (3, [.ref a_this_handTally_papersOf])), (a_this_handTally_papersOf, .inl (cI, 8, .inl y_f_this_handTally_papersOf)), (a_this_papers, .inr (1, [.ref a_this_papers_boxOf, .ref a_this_papers_wordOf, .ref a_this_papers_isLost, .ref a_this_papers_wasDrawn, .ref a_this_papers_handsOf, .ref a_this_papers_handWords, .int v_this_papers_size])), (a_this_papers_handsOf, .inl (cI, 300, .inl f_this_papers_handsOf)), (a_this_papers_wordOf, .inl (cI, 300, .inl f_this_papers_wordOf)), (a_this_papers_handWords, .inl (cI, 900, .inl f_this_papers_handWords))] H) (hD : va_D A [(a_this, .inr (5, [.ref a_this_races, .ref a_this_papers, .ref a_this_draws, .ref a_this_walk, .ref a_this_handTally, .int v_this_raceCount, .int v_this_boxCount, .int v_this_isSealed])), (a_this_handTally, .inr (3, [.ref a_this_handTally_papersOf])), (a_this_handTally_papersOf, .inl (cI, 8, .inl y_f_this_handTally_papersOf)), (a_this_papers, .inr (1, [.ref a_this_papers_boxOf, .ref a_this_papers_wordOf, .ref a_this_papers_isLost, .ref a_this_papers_wasDrawn, .ref a_this_papers_handsOf, .ref a_this_papers_handWords, .int v_this_papers_size])), (a_this_papers_handsOf, .inl (cI, 300, .inl f_this_papers_handsOf)), (a_this_papers_wordOf, .inl (cI, 300, .inl f_this_papers_wordOf)), (a_this_papers_handWords, .inl (cI, 900, .inl f_this_papers_handWords))]) (hS : va_S A s.heap H locs) (ls : Array Slot), lv_has ls 4 [(0, .ref a_this), (1, .int p_1), (2, .int p_2), (3, .int x_3)] → f_X5_tallyOf_b_L23 p_1 v_this_papers_size f_this_papers_handsOf f_this_papers_wordOf f_this_papers_handWords  n x_3 y_f_this_handTally_papersOf = some z_f_this_handTally_papersOf → W p l e (headSpec wsX5_tallyOf ({ frames := 4, cells := 0, slots := 0, locals := 92 } : Room)).room s m ([.ref a_this, .int p_1, .int p_2] : List Value).toArray below meth c H locs 0 0 (MQ below (va_Qr (fun (_ : Unit) => True) (fun _ a t => a = a_this_handTally ∧ va_P (dC, dI) vwCl [(a_this, .inr (5, [.ref a_this_races, .ref a_this_papers, .ref a_this_draws, .ref a_this_walk, .ref a_this_handTally, .int v_this_raceCount, .int v_this_boxCount, .int v_this_isSealed])), (a_this_handTally, .inr (3, [.ref a_this_handTally_papersOf])), (a_this_handTally_papersOf, .inl (cI, 8, .inl z_f_this_handTally_papersOf)), (a_this_papers, .inr (1, [.ref a_this_papers_boxOf, .ref a_this_papers_wordOf, .ref a_this_papers_isLost, .ref a_this_papers_wasDrawn, .ref a_this_papers_handsOf, .ref a_this_papers_handWords, .int v_this_papers_size])), (a_this_papers_handsOf, .inl (cI, 300, .inl f_this_papers_handsOf)), (a_this_papers_wordOf, .inl (cI, 300, .inl f_this_papers_wordOf)), (a_this_papers_handWords, .inl (cI, 900, .inl f_this_papers_handWords))] t.heap) A) ([.ref a_this, .int p_1, .int p_2] : List Value).toArray s 0 0 A) (F0 m 23 ls []) := by
    intro n
    induction n with
    | zero => intro x_3 y_f_this_handTally_papersOf H locs hP hD hS ls hl hf; rw [f_X5_tallyOf_b_L23] at hf; cases hf
    | succ n23 ih23 =>
      intro x_3 y_f_this_handTally_papersOf H locs hP hD hS ls hl hf
      rw [f_X5_tallyOf_b_L23] at hf
      refine lv_iload_n hx hb dX5_tallyOf_23 rfl (lv_at hl 3 rfl) ?_
      refine lv_aload_n hx hb dX5_tallyOf_24 rfl (lv_at hl 0 rfl) ?_
      refine va_get (D := (dC, dI)) (ci := 5) (v := .ref a_this_papers) (C := RX5) (T := TX5) (N := 8) hx hb hts hiX5 hown hK hP 0 rfl rfl 1 (by decide) (hts (.fieldLink RX5 19 "SureCount" "papers" "LSureCount$Papers;") (by decide +kernel)) (fun _ h9 => h9) rfl dX5_tallyOf_25 ?_
      refine va_getN (D := (dC, dI)) (ci := 1) (v := .int v_this_papers_size) (C := RX1) (T := TX1) (N := 7) (host := "SureCount") hx hb hts hiX1 hown hK hP 3 rfl rfl 6 (by decide) (va_Nw.use rfl (hG.2.1 (RX5, 55, "SureCount$Papers", "size", "I", "SureCount") (List.mem_of_getElem? (i := 14) rfl))) (fun _ h9 => h9) rfl dX5_tallyOf_28 ?_
      refine lv_icmp_ge (tgt := 56) hx hb dX5_tallyOf_31 (by decide) (fun hc => ?_) (fun hc => ?_)
      · replace hf := (if_pos hc).symm.trans hf
        refine lv_aload_n hx hb dX5_tallyOf_56 rfl (lv_at hl 0 rfl) ?_
        refine va_get (D := (dC, dI)) (ci := 5) (v := .ref a_this_handTally) (C := RX5) (T := TX5) (N := 8) hx hb hts hiX5 hown hK hP 0 rfl rfl 4 (by decide) (hts (.fieldLink RX5 40 "SureCount" "handTally" "LSureCount$Tally;") (by decide +kernel)) (fun _ h9 => h9) rfl dX5_tallyOf_57 ?_
        cases hf
        exact W.aret hx hb hr (Or.inl ⟨_, rfl⟩) (Or.inr ⟨_, rfl⟩) (fun t ht hW => ⟨⟨(), _, rfl, trivial, rfl, va_Pt ht hP⟩, hS.F ht⟩) hS.2.2 dX5_tallyOf_60
      · replace hf := (if_neg hc).symm.trans hf
        refine lv_aload_n hx hb dX5_tallyOf_34 rfl (lv_at hl 0 rfl) ?_
        refine va_get (D := (dC, dI)) (ci := 5) (v := .ref a_this_handTally) (C := RX5) (T := TX5) (N := 8) hx hb hts hiX5 hown hK hP 0 rfl rfl 4 (by decide) (hts (.fieldLink RX5 40 "SureCount" "handTally" "LSureCount$Tally;") (by decide +kernel)) (fun _ h9 => h9) rfl dX5_tallyOf_35 ?_
        refine lv_aload_n hx hb dX5_tallyOf_38 rfl (lv_at hl 0 rfl) ?_
        refine va_get (D := (dC, dI)) (ci := 5) (v := .ref a_this_papers) (C := RX5) (T := TX5) (N := 8) hx hb hts hiX5 hown hK hP 0 rfl rfl 1 (by decide) (hts (.fieldLink RX5 19 "SureCount" "papers" "LSureCount$Papers;") (by decide +kernel)) (fun _ h9 => h9) rfl dX5_tallyOf_39 ?_
        refine lv_iload_n hx hb dX5_tallyOf_42 rfl (lv_at hl 3 rfl) ?_
        refine lv_iload_n hx hb dX5_tallyOf_43 rfl (lv_at hl 1 rfl) ?_
        obtain ⟨o2, ho2, hf⟩ := Option.bind_eq_some_iff.mp hf
        refine pcI (va_runV (As := [.int x_3, .int p_1]) (rest := [.ref a_this_handTally]) ⟨hx, hb, hml, hown, hts⟩ (c_X1_wholeMark l dC dI cI cZ cR cJ (a_this := a_this_papers) (a_this_boxOf := a_this_papers_boxOf) (a_this_wordOf := a_this_papers_wordOf) (a_this_isLost := a_this_papers_isLost) (a_this_wasDrawn := a_this_papers_wasDrawn) (a_this_handsOf := a_this_papers_handsOf) (a_this_handWords := a_this_papers_handWords) (v_this_size := v_this_papers_size) (f_this_handsOf := f_this_papers_handsOf) (f_this_wordOf := f_this_papers_wordOf) (f_this_handWords := f_this_papers_handWords) (p_1 := x_3) (p_2 := p_1) (r0 := o2) (N := N)  ho2) (cwV 2 hts gX5_tallyOf_X1_wholeMark rfl rfl rfl (by decide +kernel) ⟨Nat.le_of_ble_eq_true rfl, Nat.le_of_ble_eq_true rfl⟩) ⟨rd_blind, va_recv hK hP (ci := 1) (q0 := 3) rfl rfl, rd_pre (hP.sub [3, 4, 5, 6] rfl) hG⟩ rfl rfl hl.1 rfl (lv_room (Nat.le_of_ble_eq_true rfl)) dX5_tallyOf_44 ⟨Nat.zero_le _, Nat.zero_le _⟩) ?_
        obtain ⟨o3, ho3, hf⟩ := Option.bind_eq_some_iff.mp hf
        have hFc := va_free (wc := [(a_this_handTally, .inr (3, [.ref a_this_handTally_papersOf])), (a_this_handTally_papersOf, .inl (cI, 8, .inl y_f_this_handTally_papersOf))]) hD hS hAz [1, 2] rfl
        refine va_callv (va_runV (As := [.int o2]) (rest := []) ⟨hx, hb, hml, hown, hts⟩ (c_X3_add l dC dI cI cZ cR cJ (a_this := a_this_handTally) (a_this_papersOf := a_this_handTally_papersOf) (f_this_papersOf := y_f_this_handTally_papersOf) (p_1 := o2) (z_f_this_papersOf := o3) (N := N) (sz := H.size) (A := va_A [(a_this_handTally, .inr (3, [.ref a_this_handTally_papersOf])), (a_this_handTally_papersOf, .inl (cI, 8, .inl y_f_this_handTally_papersOf))] H.size) rfl  ho3) (cwV 1 hts gX5_tallyOf_X3_add rfl rfl rfl (by decide +kernel) ⟨Nat.le_of_ble_eq_true rfl, Nat.le_of_ble_eq_true rfl⟩) ⟨wr_blind, va_recv hK hP (ci := 3) (q0 := 1) rfl rfl, wr_pre (hP.sub [1, 2] rfl) hG (hD.sub [1, 2] (by decide) rfl)⟩ rfl rfl hl.1 rfl (lv_room (Nat.le_of_ble_eq_true rfl)) dX5_tallyOf_47 ⟨Nat.zero_le _, Nat.zero_le _⟩) hS (fun q _ h => hFc q h) hFc (fun u9 t9 H1 locs ht9 hv9 hw9 hB9 hz9 hk9 hS => ?_)
        rw [ht9] at hB9
        have hP : va_P (dC, dI) vwCl [(a_this, .inr (5, [.ref a_this_races, .ref a_this_papers, .ref a_this_draws, .ref a_this_walk, .ref a_this_handTally, .int v_this_raceCount, .int v_this_boxCount, .int v_this_isSealed])), (a_this_handTally, .inr (3, [.ref a_this_handTally_papersOf])), (a_this_handTally_papersOf, .inl (cI, 8, .inl o3)), (a_this_papers, .inr (1, [.ref a_this_papers_boxOf, .ref a_this_papers_wordOf, .ref a_this_papers_isLost, .ref a_this_papers_wasDrawn, .ref a_this_papers_handsOf, .ref a_this_papers_handWords, .int v_this_papers_size])), (a_this_papers_handsOf, .inl (cI, 300, .inl f_this_papers_handsOf)), (a_this_papers_wordOf, .inl (cI, 300, .inl f_this_papers_wordOf)), (a_this_papers_handWords, .inl (cI, 900, .inl f_this_papers_handWords))] H1 := wj hP hD hk9 hB9 [1, 2] [0, 3, 4, 5, 6] 7 rfl rfl rfl rfl (by decide) (by decide)
        have hD : va_D A [(a_this, .inr (5, [.ref a_this_races, .ref a_this_papers, .ref a_this_draws, .ref a_this_walk, .ref a_this_handTally, .int v_this_raceCount, .int v_this_boxCount, .int v_this_isSealed])), (a_this_handTally, .inr (3, [.ref a_this_handTally_papersOf])), (a_this_handTally_papersOf, .inl (cI, 8, .inl o3)), (a_this_papers, .inr (1, [.ref a_this_papers_boxOf, .ref a_this_papers_wordOf, .ref a_this_papers_isLost, .ref a_this_papers_wasDrawn, .ref a_this_papers_handsOf, .ref a_this_papers_handWords, .int v_this_papers_size])), (a_this_papers_handsOf, .inl (cI, 300, .inl f_this_papers_handsOf)), (a_this_papers_wordOf, .inl (cI, 300, .inl f_this_papers_wordOf)), (a_this_papers_handWords, .inl (cI, 900, .inl f_this_papers_handWords))] := va_D_fst hD rfl
        generalize H1 = H at hP hS ⊢
        refine lv_iinc (v := x_3 + (1 : Int32)) (lv' := [(3, .int (x_3 + (1 : Int32))), (0, .ref a_this), (1, .int p_1), (2, .int p_2)]) hx hb dX5_tallyOf_50 hl (k := 3) rfl (by first | rfl | decide) (by decide) rfl (fun ls hl => ?_)
        refine lv_goto (tgt := 23) hx hb dX5_tallyOf_53 (by decide) ?_
        exact ih23 (x_3 + (1 : Int32)) o3 H locs hP hD hS ls (lv_sub hl [1, 2, 3, 0] rfl) hf
  refine w_entry [(0, .ref a_this), (1, .int p_1), (2, .int p_2)] (Nat.le_of_ble_eq_true rfl) rfl (fun ls hl => ?_)
  refine w_start (A := A) hP (fun H locs hP hS => ?_)
  rw [f_X5_tallyOf_b] at hf
  refine lv_iload_n hx hb dX5_tallyOf_0 rfl (lv_at hl 2 rfl) ?_
  refine lv_if_ne (tgt := 14) hx hb dX5_tallyOf_1 (by decide) (fun _ => ?_) (fun hc => absurd hc h9)
  refine lv_aload_n hx hb dX5_tallyOf_14 rfl (lv_at hl 0 rfl) ?_
  refine va_get (D := (dC, dI)) (ci := 5) (v := .ref a_this_handTally) (C := RX5) (T := TX5) (N := 8) hx hb hts hiX5 hown hK hP 0 rfl rfl 4 (by decide) (hts (.fieldLink RX5 40 "SureCount" "handTally" "LSureCount$Tally;") (by decide +kernel)) (fun _ h9 => h9) rfl dX5_tallyOf_15 ?_
  obtain ⟨o1, ho1, hf⟩ := Option.bind_eq_some_iff.mp hf
  have hFc := va_free (wc := [(a_this_handTally, .inr (3, [.ref a_this_handTally_papersOf])), (a_this_handTally_papersOf, .inl (cI, 8, .inl f_this_handTally_papersOf))]) hD hS hAz [1, 2] rfl
  refine va_callv (va_runV (As := []) (rest := []) ⟨hx, hb, hml, hown, hts⟩ (c_X3_clear l dC dI cI cZ cR cJ (a_this := a_this_handTally) (a_this_papersOf := a_this_handTally_papersOf) (f_this_papersOf := f_this_handTally_papersOf) (z_f_this_papersOf := o1) (N := N) (sz := H.size) (A := va_A [(a_this_handTally, .inr (3, [.ref a_this_handTally_papersOf])), (a_this_handTally_papersOf, .inl (cI, 8, .inl f_this_handTally_papersOf))] H.size) rfl  ho1) (cwV 0 hts gX5_tallyOf_X3_clear rfl rfl rfl (by decide +kernel) ⟨Nat.le_of_ble_eq_true rfl, Nat.le_of_ble_eq_true rfl⟩) ⟨wr_blind, va_recv hK hP (ci := 3) (q0 := 1) rfl rfl, wr_pre (hP.sub [1, 2] rfl) hG (hD.sub [1, 2] (by decide) rfl)⟩ rfl rfl hl.1 rfl (lv_room (Nat.le_of_ble_eq_true rfl)) dX5_tallyOf_18 ⟨Nat.zero_le _, Nat.zero_le _⟩) hS (fun q _ h => hFc q h) hFc (fun u9 t9 H1 locs ht9 hv9 hw9 hB9 hz9 hk9 hS => ?_)
  rw [ht9] at hB9
  have hP : va_P (dC, dI) vwCl [(a_this, .inr (5, [.ref a_this_races, .ref a_this_papers, .ref a_this_draws, .ref a_this_walk, .ref a_this_handTally, .int v_this_raceCount, .int v_this_boxCount, .int v_this_isSealed])), (a_this_handTally, .inr (3, [.ref a_this_handTally_papersOf])), (a_this_handTally_papersOf, .inl (cI, 8, .inl o1)), (a_this_papers, .inr (1, [.ref a_this_papers_boxOf, .ref a_this_papers_wordOf, .ref a_this_papers_isLost, .ref a_this_papers_wasDrawn, .ref a_this_papers_handsOf, .ref a_this_papers_handWords, .int v_this_papers_size])), (a_this_papers_handsOf, .inl (cI, 300, .inl f_this_papers_handsOf)), (a_this_papers_wordOf, .inl (cI, 300, .inl f_this_papers_wordOf)), (a_this_papers_handWords, .inl (cI, 900, .inl f_this_papers_handWords))] H1 := wj hP hD hk9 hB9 [1, 2] [0, 3, 4, 5, 6] 7 rfl rfl rfl rfl (by decide) (by decide)
  have hD : va_D A [(a_this, .inr (5, [.ref a_this_races, .ref a_this_papers, .ref a_this_draws, .ref a_this_walk, .ref a_this_handTally, .int v_this_raceCount, .int v_this_boxCount, .int v_this_isSealed])), (a_this_handTally, .inr (3, [.ref a_this_handTally_papersOf])), (a_this_handTally_papersOf, .inl (cI, 8, .inl o1)), (a_this_papers, .inr (1, [.ref a_this_papers_boxOf, .ref a_this_papers_wordOf, .ref a_this_papers_isLost, .ref a_this_papers_wasDrawn, .ref a_this_papers_handsOf, .ref a_this_papers_handWords, .int v_this_papers_size])), (a_this_papers_handsOf, .inl (cI, 300, .inl f_this_papers_handsOf)), (a_this_papers_wordOf, .inl (cI, 300, .inl f_this_papers_wordOf)), (a_this_papers_handWords, .inl (cI, 900, .inl f_this_papers_handWords))] := va_D_fst hD rfl
  generalize H1 = H at hP hS ⊢
  refine lv_iconst (v := (0 : Int32)) hx hb dX5_tallyOf_21 (by decide) ?_
  refine lv_istore_n (lv' := [(3, .int (0 : Int32)), (0, .ref a_this), (1, .int p_1), (2, .int p_2)]) hx hb dX5_tallyOf_22 rfl hl (by decide) rfl (fun ls hl => ?_)
  exact loop23 N (0 : Int32) o1 H locs hP hD hS ls (lv_sub hl [1, 2, 3, 0] rfl) hf
