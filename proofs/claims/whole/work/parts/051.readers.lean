def f_X3_papersWith (p_1 : Int32) (f_this_papersOf : Nat → Int32) : Option (Int32) := gd p_1 8 (some (f_this_papersOf p_1.toNatClampNeg))
set_option maxHeartbeats 4000000 in
set_option maxRecDepth 100000 in
theorem c_X3_papersWith (l : Launch) (dC : Nat → ClassId) (dI : Nat → Nat → Nat) (cI cZ cR cJ : ClassId) (a_this a_this_papersOf : Nat) (f_this_papersOf : Nat → Int32) (p_1 : Int32) (N : Nat) (r0 : Int32) (hf : f_X3_papersWith p_1 f_this_papersOf = some r0) : Met l yX3_papersWith wsX3_papersWith ({ frames := 0, cells := 0, slots := 0, locals := 0 } : Room) (va_Pc ([.ref a_this, .int p_1] : List Value) (rdB (dC, dI) [(a_this, .inr (3, [.ref a_this_papersOf])), (a_this_papersOf, .inl (cI, 8, .inl f_this_papersOf))] (GG dC dI cI cZ cR cJ))) (pqI r0) 0 0 noF := by
  refine Met.ofW (cc := cX3_papersWith) (maxL := 2) (ret := (some .int)) (by decide) rfl ?_
  intro p e s m args below meth c s₁ B hml hv
  obtain ⟨rfl, hP, hG⟩ := hv
  have hx := B.exec
  have hb := B.bytes
  have hr := B.returns
  have hts := atoms_spec (ws := wsX3_papersWith) B.pre
  have hown : s.vm.findClass RX3 = some m.cls := findClass_of_methodNamed B.named
  have hlocks := B.notSynchronized
  have hK := hG.1
  have hiX3 : ∀ w ∈ u_ws RX3 TX3 1, w ∈ wsX3_papersWith := by decide +kernel
  refine w_entry [(0, .ref a_this), (1, .int p_1)] (Nat.le_of_ble_eq_true rfl) rfl (fun ls hl => ?_)
  rw [f_X3_papersWith] at hf
  refine lv_aload_n hx hb dX3_papersWith_0 rfl (lv_at hl 0 rfl) ?_
  refine va_get (D := (dC, dI)) (ci := 3) (v := .ref a_this_papersOf) (C := RX3) (T := TX3) (N := 1) hx hb hts hiX3 hown hK hP 0 rfl rfl 0 (by decide) (hts (.fieldLink RX3 9 "SureCount$Tally" "papersOf" "[I") (by decide +kernel)) (fun _ h9 => h9) rfl dX3_papersWith_1 ?_
  refine lv_iload_n hx hb dX3_papersWith_4 rfl (lv_at hl 1 rfl) ?_
  have hi1 := (gd_some hf).1
  replace hf := (gd_some hf).2
  refine va_iald hx hb hK hP 1 0 rfl rfl hi1 dX3_papersWith_5 ?_
  cases hf
  exact W.iret hx hb hr (fun t ht hW => ⟨rfl, ht⟩) (fun _ h => nomatch h) dX3_papersWith_6
def f_X2_hasCandidate (p_1 : Int32) (v_this_candidates : Int32) : Option (Int32) := if p_1 < (1 : Int32) then (some (0 : Int32)) else (if v_this_candidates < p_1 then (some (0 : Int32)) else (some (1 : Int32)))
set_option maxHeartbeats 4000000 in
set_option maxRecDepth 100000 in
theorem c_X2_hasCandidate (l : Launch) (dC : Nat → ClassId) (dI : Nat → Nat → Nat) (cI cZ cR cJ : ClassId) (a_this a_this_wordTally a_this_winsByWord a_this_pairWinner a_this_pairLoser a_this_pairMargin : Nat) (v_this_pairs : Int32) (v_this_candidates : Int32) (v_this_seats : Int32) (v_this_size : Int32) (v_this_margin : Int32) (p_1 : Int32) (N : Nat) (r0 : Int32) (hf : f_X2_hasCandidate p_1 v_this_candidates = some r0) : Met l yX2_hasCandidate wsX2_hasCandidate ({ frames := 0, cells := 0, slots := 0, locals := 0 } : Room) (va_Pc ([.ref a_this, .int p_1] : List Value) (rdB (dC, dI) [(a_this, .inr (2, [.ref a_this_wordTally, .ref a_this_winsByWord, .ref a_this_pairWinner, .ref a_this_pairLoser, .ref a_this_pairMargin, .int v_this_pairs, .int v_this_candidates, .int v_this_seats, .int v_this_size, .int v_this_margin]))] (GG dC dI cI cZ cR cJ))) (pqI r0) 0 0 noF := by
  refine Met.ofW (cc := cX2_hasCandidate) (maxL := 2) (ret := (some .boolean)) (by decide) rfl ?_
  intro p e s m args below meth c s₁ B hml hv
  obtain ⟨rfl, hP, hG⟩ := hv
  have hx := B.exec
  have hb := B.bytes
  have hr := B.returns
  have hts := atoms_spec (ws := wsX2_hasCandidate) B.pre
  have hown : s.vm.findClass RX2 = some m.cls := findClass_of_methodNamed B.named
  have hlocks := B.notSynchronized
  have hK := hG.1
  have hiX2 : ∀ w ∈ u_ws RX2 TX2 10, w ∈ wsX2_hasCandidate := by decide +kernel
  refine w_entry [(0, .ref a_this), (1, .int p_1)] (Nat.le_of_ble_eq_true rfl) rfl (fun ls hl => ?_)
  rw [f_X2_hasCandidate] at hf
  refine lv_iload_n hx hb dX2_hasCandidate_0 rfl (lv_at hl 1 rfl) ?_
  refine lv_iconst (v := (1 : Int32)) hx hb dX2_hasCandidate_1 (by decide) ?_
  refine lv_icmp_lt (tgt := 17) hx hb dX2_hasCandidate_2 (by decide) (fun hc => ?_) (fun hc => ?_)
  · replace hf := (if_pos hc).symm.trans hf
    refine lv_iconst (v := (0 : Int32)) hx hb dX2_hasCandidate_17 (by decide) ?_
    cases hf
    exact W.zret hx hb hr rfl (fun t ht hW => ⟨rfl, ht⟩) (fun _ h => nomatch h) dX2_hasCandidate_18
  · replace hf := (if_neg hc).symm.trans hf
    refine lv_iload_n hx hb dX2_hasCandidate_5 rfl (lv_at hl 1 rfl) ?_
    refine lv_aload_n hx hb dX2_hasCandidate_6 rfl (lv_at hl 0 rfl) ?_
    refine va_get (D := (dC, dI)) (ci := 2) (v := .int v_this_candidates) (C := RX2) (T := TX2) (N := 10) hx hb hts hiX2 hown hK hP 0 rfl rfl 6 (by decide) (hts (.fieldLink RX2 36 "SureCount$Race" "candidates" "I") (by decide +kernel)) (fun _ h9 => h9) rfl dX2_hasCandidate_7 ?_
    refine lv_icmp_gt (tgt := 17) hx hb dX2_hasCandidate_10 (by decide) (fun hc => ?_) (fun hc => ?_)
    · replace hf := (if_pos hc).symm.trans hf
      refine lv_iconst (v := (0 : Int32)) hx hb dX2_hasCandidate_17 (by decide) ?_
      cases hf
      exact W.zret hx hb hr rfl (fun t ht hW => ⟨rfl, ht⟩) (fun _ h => nomatch h) dX2_hasCandidate_18
    · replace hf := (if_neg hc).symm.trans hf
      refine lv_iconst (v := (1 : Int32)) hx hb dX2_hasCandidate_13 (by decide) ?_
      refine lv_goto (tgt := 18) hx hb dX2_hasCandidate_14 (by decide) ?_
      cases hf
      exact W.zret hx hb hr rfl (fun t ht hW => ⟨rfl, ht⟩) (fun _ h => nomatch h) dX2_hasCandidate_18
def f_X2_allows (p_1 : Int32) (v_this_candidates : Int32) : Option (Int32) := if p_1 = (7 : Int32) then (some (1 : Int32)) else (if v_this_candidates < p_1 then (some (0 : Int32)) else (some (1 : Int32)))
set_option maxHeartbeats 4000000 in
set_option maxRecDepth 100000 in
theorem c_X2_allows (l : Launch) (dC : Nat → ClassId) (dI : Nat → Nat → Nat) (cI cZ cR cJ : ClassId) (a_this a_this_wordTally a_this_winsByWord a_this_pairWinner a_this_pairLoser a_this_pairMargin : Nat) (v_this_pairs : Int32) (v_this_candidates : Int32) (v_this_seats : Int32) (v_this_size : Int32) (v_this_margin : Int32) (p_1 : Int32) (N : Nat) (r0 : Int32) (hf : f_X2_allows p_1 v_this_candidates = some r0) : Met l yX2_allows wsX2_allows ({ frames := 0, cells := 0, slots := 0, locals := 0 } : Room) (va_Pc ([.ref a_this, .int p_1] : List Value) (rdB (dC, dI) [(a_this, .inr (2, [.ref a_this_wordTally, .ref a_this_winsByWord, .ref a_this_pairWinner, .ref a_this_pairLoser, .ref a_this_pairMargin, .int v_this_pairs, .int v_this_candidates, .int v_this_seats, .int v_this_size, .int v_this_margin]))] (GG dC dI cI cZ cR cJ))) (pqI r0) 0 0 noF := by
  refine Met.ofW (cc := cX2_allows) (maxL := 2) (ret := (some .boolean)) (by decide) rfl ?_
  intro p e s m args below meth c s₁ B hml hv
  obtain ⟨rfl, hP, hG⟩ := hv
  have hx := B.exec
  have hb := B.bytes
  have hr := B.returns
  have hts := atoms_spec (ws := wsX2_allows) B.pre
  have hown : s.vm.findClass RX2 = some m.cls := findClass_of_methodNamed B.named
  have hlocks := B.notSynchronized
  have hK := hG.1
  have hiX2 : ∀ w ∈ u_ws RX2 TX2 10, w ∈ wsX2_allows := by decide +kernel
  refine w_entry [(0, .ref a_this), (1, .int p_1)] (Nat.le_of_ble_eq_true rfl) rfl (fun ls hl => ?_)
  rw [f_X2_allows] at hf
  refine lv_iload_n hx hb dX2_allows_0 rfl (lv_at hl 1 rfl) ?_
  refine lv_bipush (v := (7 : Int32)) hx hb dX2_allows_1 (by decide) ?_
  refine lv_icmp_eq (tgt := 14) hx hb dX2_allows_3 (by decide) (fun hc => ?_) (fun hc => ?_)
  · replace hf := (if_pos hc).symm.trans hf
    refine lv_iconst (v := (1 : Int32)) hx hb dX2_allows_14 (by decide) ?_
    refine lv_goto (tgt := 19) hx hb dX2_allows_15 (by decide) ?_
    cases hf
    exact W.zret hx hb hr rfl (fun t ht hW => ⟨rfl, ht⟩) (fun _ h => nomatch h) dX2_allows_19
  · replace hf := (if_neg hc).symm.trans hf
    refine lv_iload_n hx hb dX2_allows_6 rfl (lv_at hl 1 rfl) ?_
    refine lv_aload_n hx hb dX2_allows_7 rfl (lv_at hl 0 rfl) ?_
    refine va_get (D := (dC, dI)) (ci := 2) (v := .int v_this_candidates) (C := RX2) (T := TX2) (N := 10) hx hb hts hiX2 hown hK hP 0 rfl rfl 6 (by decide) (hts (.fieldLink RX2 36 "SureCount$Race" "candidates" "I") (by decide +kernel)) (fun _ h9 => h9) rfl dX2_allows_8 ?_
    refine lv_icmp_gt (tgt := 18) hx hb dX2_allows_11 (by decide) (fun hc => ?_) (fun hc => ?_)
    · replace hf := (if_pos hc).symm.trans hf
      refine lv_iconst (v := (0 : Int32)) hx hb dX2_allows_18 (by decide) ?_
      cases hf
      exact W.zret hx hb hr rfl (fun t ht hW => ⟨rfl, ht⟩) (fun _ h => nomatch h) dX2_allows_19
    · replace hf := (if_neg hc).symm.trans hf
      refine lv_iconst (v := (1 : Int32)) hx hb dX2_allows_14 (by decide) ?_
      refine lv_goto (tgt := 19) hx hb dX2_allows_15 (by decide) ?_
      cases hf
      exact W.zret hx hb hr rfl (fun t ht hW => ⟨rfl, ht⟩) (fun _ h => nomatch h) dX2_allows_19
def f_X2_isWinner_L12 (p_1 : Int32) (f_q2_papersOf : Nat → Int32) (v_this_candidates : Int32) (v_this_seats : Int32)  : Nat → Int32 → Int32 → Int32 → Option (Int32)
  | 0, _, _, _ => none
  | n12 + 1, x_3, x_4, x_5 => if v_this_candidates < x_5 then (if v_this_seats ≤ x_4 then (some (0 : Int32)) else (some (1 : Int32))) else (Option.bind (f_X3_papersWith x_5 f_q2_papersOf) (fun o2 => if x_3 < o2 then (f_X2_isWinner_L12 p_1 f_q2_papersOf v_this_candidates v_this_seats n12 x_3 (x_4 + (1 : Int32)) (x_5 + (1 : Int32))) else (if o2 = x_3 then (if p_1 ≤ x_5 then (f_X2_isWinner_L12 p_1 f_q2_papersOf v_this_candidates v_this_seats n12 x_3 x_4 (x_5 + (1 : Int32))) else (f_X2_isWinner_L12 p_1 f_q2_papersOf v_this_candidates v_this_seats n12 x_3 (x_4 + (1 : Int32)) (x_5 + (1 : Int32)))) else (f_X2_isWinner_L12 p_1 f_q2_papersOf v_this_candidates v_this_seats n12 x_3 x_4 (x_5 + (1 : Int32))))))
def f_X2_isWinner (N : Nat) (p_1 : Int32) (f_q2_papersOf : Nat → Int32) (v_this_candidates : Int32) (v_this_seats : Int32) : Option (Int32) := Option.bind (f_X3_papersWith p_1 f_q2_papersOf) (fun o1 => f_X2_isWinner_L12 p_1 f_q2_papersOf v_this_candidates v_this_seats  N o1 (0 : Int32) (1 : Int32))
set_option maxHeartbeats 4000000 in
set_option maxRecDepth 100000 in
theorem c_X2_isWinner (l : Launch) (dC : Nat → ClassId) (dI : Nat → Nat → Nat) (cI cZ cR cJ : ClassId) (a_this a_q2 a_q2_papersOf a_this_wordTally a_this_winsByWord a_this_pairWinner a_this_pairLoser a_this_pairMargin : Nat) (f_q2_papersOf : Nat → Int32) (v_this_pairs : Int32) (v_this_candidates : Int32) (v_this_seats : Int32) (v_this_size : Int32) (v_this_margin : Int32) (p_1 : Int32) (N : Nat) (r0 : Int32) (hf : f_X2_isWinner N p_1 f_q2_papersOf v_this_candidates v_this_seats = some r0) : Met l yX2_isWinner wsX2_isWinner ({ frames := 1, cells := 0, slots := 0, locals := 21 } : Room) (va_Pc ([.ref a_this, .int p_1, .ref a_q2] : List Value) (rdB (dC, dI) [(a_q2, .inr (3, [.ref a_q2_papersOf])), (a_q2_papersOf, .inl (cI, 8, .inl f_q2_papersOf)), (a_this, .inr (2, [.ref a_this_wordTally, .ref a_this_winsByWord, .ref a_this_pairWinner, .ref a_this_pairLoser, .ref a_this_pairMargin, .int v_this_pairs, .int v_this_candidates, .int v_this_seats, .int v_this_size, .int v_this_margin]))] (GG dC dI cI cZ cR cJ))) (pqI r0) 0 0 noF := by
  refine Met.ofW (cc := cX2_isWinner) (maxL := 7) (ret := (some .boolean)) (by decide) rfl ?_
  intro p e s m args below meth c s₁ B hml hv
  obtain ⟨rfl, hP, hG⟩ := hv
  have hx := B.exec
  have hb := B.bytes
  have hr := B.returns
  have hts := atoms_spec (ws := wsX2_isWinner) B.pre
  have hown : s.vm.findClass RX2 = some m.cls := findClass_of_methodNamed B.named
  have hlocks := B.notSynchronized
  have hK := hG.1
  have hiX2 : ∀ w ∈ u_ws RX2 TX2 10, w ∈ wsX2_isWinner := by decide +kernel
  have loop12 : ∀ (n : Nat) (x_3 : Int32) (x_4 : Int32) (x_5 : Int32) (ls : Array Slot), lv_has ls 7 [(0, .ref a_this), (1, .int p_1), (2, .ref a_q2), (3, .int x_3), (4, .int x_4), (5, .int x_5)] → f_X2_isWinner_L12 p_1 f_q2_papersOf v_this_candidates v_this_seats  n x_3 x_4 x_5 = some r0 → W p l e (headSpec wsX2_isWinner ({ frames := 1, cells := 0, slots := 0, locals := 21 } : Room)).room s m ([.ref a_this, .int p_1, .ref a_q2] : List Value).toArray below meth c s.heap [] 0 0 (MQ below (pqI r0) ([.ref a_this, .int p_1, .ref a_q2] : List Value).toArray s 0 0 noF) (F0 m 12 ls []) := by
    intro n
    induction n with
    | zero => intro x_3 x_4 x_5 ls hl hf; rw [f_X2_isWinner_L12] at hf; cases hf
    | succ n12 ih12 =>
      intro x_3 x_4 x_5 ls hl hf
      rw [f_X2_isWinner_L12] at hf
      refine lv_iload hx hb dX2_isWinner_12 (lv_at hl 5 rfl) ?_
      refine lv_aload_n hx hb dX2_isWinner_14 rfl (lv_at hl 0 rfl) ?_
      refine va_get (D := (dC, dI)) (ci := 2) (v := .int v_this_candidates) (C := RX2) (T := TX2) (N := 10) hx hb hts hiX2 hown hK hP 2 rfl rfl 6 (by decide) (hts (.fieldLink RX2 36 "SureCount$Race" "candidates" "I") (by decide +kernel)) (fun _ h9 => h9) rfl dX2_isWinner_15 ?_
      refine lv_icmp_gt (tgt := 56) hx hb dX2_isWinner_18 (by decide) (fun hc => ?_) (fun hc => ?_)
      · replace hf := (if_pos hc).symm.trans hf
        refine lv_iload hx hb dX2_isWinner_56 (lv_at hl 4 rfl) ?_
        refine lv_aload_n hx hb dX2_isWinner_58 rfl (lv_at hl 0 rfl) ?_
        refine va_get (D := (dC, dI)) (ci := 2) (v := .int v_this_seats) (C := RX2) (T := TX2) (N := 10) hx hb hts hiX2 hown hK hP 2 rfl rfl 7 (by decide) (hts (.fieldLink RX2 39 "SureCount$Race" "seats" "I") (by decide +kernel)) (fun _ h9 => h9) rfl dX2_isWinner_59 ?_
        refine lv_icmp_ge (tgt := 69) hx hb dX2_isWinner_62 (by decide) (fun hc => ?_) (fun hc => ?_)
        · replace hf := (if_pos hc).symm.trans hf
          refine lv_iconst (v := (0 : Int32)) hx hb dX2_isWinner_69 (by decide) ?_
          cases hf
          exact W.zret hx hb hr rfl (fun t ht hW => ⟨rfl, ht⟩) (fun _ h => nomatch h) dX2_isWinner_70
        · replace hf := (if_neg hc).symm.trans hf
          refine lv_iconst (v := (1 : Int32)) hx hb dX2_isWinner_65 (by decide) ?_
          refine lv_goto (tgt := 70) hx hb dX2_isWinner_66 (by decide) ?_
          cases hf
          exact W.zret hx hb hr rfl (fun t ht hW => ⟨rfl, ht⟩) (fun _ h => nomatch h) dX2_isWinner_70
      · replace hf := (if_neg hc).symm.trans hf
        refine lv_aload_n hx hb dX2_isWinner_21 rfl (lv_at hl 2 rfl) ?_
        refine lv_iload hx hb dX2_isWinner_22 (lv_at hl 5 rfl) ?_
        obtain ⟨o2, ho2, hf⟩ := Option.bind_eq_some_iff.mp hf
        refine pcI (va_runV (As := [.int x_5]) (rest := []) ⟨hx, hb, hml, hown, hts⟩ (c_X3_papersWith l dC dI cI cZ cR cJ (a_this := a_q2) (a_this_papersOf := a_q2_papersOf) (f_this_papersOf := f_q2_papersOf) (p_1 := x_5) (r0 := o2) (N := N)  ho2) (cwV 1 hts gX2_isWinner_X3_papersWith rfl rfl rfl (by decide +kernel) ⟨Nat.le_of_ble_eq_true rfl, Nat.le_of_ble_eq_true rfl⟩) ⟨rd_blind, va_recv hK hP (ci := 3) (q0 := 0) rfl rfl, rd_pre (hP.sub [0, 1] rfl) hG⟩ rfl rfl hl.1 rfl (lv_room (Nat.le_of_ble_eq_true rfl)) dX2_isWinner_24 ⟨Nat.zero_le _, Nat.zero_le _⟩) ?_
        refine lv_istore (lv' := [(6, .int o2), (0, .ref a_this), (1, .int p_1), (2, .ref a_q2), (3, .int x_3), (4, .int x_4), (5, .int x_5)]) hx hb dX2_isWinner_27 hl (by decide) rfl (fun ls hl => ?_)
        refine lv_iload hx hb dX2_isWinner_29 (lv_at hl 0 rfl) ?_
        refine lv_iload_n hx hb dX2_isWinner_31 rfl (lv_at hl 4 rfl) ?_
        refine lv_icmp_gt (tgt := 47) hx hb dX2_isWinner_32 (by decide) (fun hc => ?_) (fun hc => ?_)
        · replace hf := (if_pos hc).symm.trans hf
          refine lv_iinc (v := x_4 + (1 : Int32)) (lv' := [(4, .int (x_4 + (1 : Int32))), (6, .int o2), (0, .ref a_this), (1, .int p_1), (2, .ref a_q2), (3, .int x_3), (5, .int x_5)]) hx hb dX2_isWinner_47 hl (k := 5) rfl (by first | rfl | decide) (by decide) rfl (fun ls hl => ?_)
          refine lv_iinc (v := x_5 + (1 : Int32)) (lv' := [(5, .int (x_5 + (1 : Int32))), (4, .int (x_4 + (1 : Int32))), (6, .int o2), (0, .ref a_this), (1, .int p_1), (2, .ref a_q2), (3, .int x_3)]) hx hb dX2_isWinner_50 hl (k := 6) rfl (by first | rfl | decide) (by decide) rfl (fun ls hl => ?_)
          refine lv_goto (tgt := 12) hx hb dX2_isWinner_53 (by decide) ?_
          exact ih12 x_3 (x_4 + (1 : Int32)) (x_5 + (1 : Int32)) ls (lv_sub hl [3, 4, 5, 6, 1, 0] rfl) hf
        · replace hf := (if_neg hc).symm.trans hf
          refine lv_iload hx hb dX2_isWinner_35 (lv_at hl 0 rfl) ?_
          refine lv_iload_n hx hb dX2_isWinner_37 rfl (lv_at hl 4 rfl) ?_
          refine lv_icmp_ne (tgt := 50) hx hb dX2_isWinner_38 (by decide) (fun hc => ?_) (fun hc => ?_)
          · replace hf := (if_neg hc).symm.trans hf
            refine lv_iinc (v := x_5 + (1 : Int32)) (lv' := [(5, .int (x_5 + (1 : Int32))), (6, .int o2), (0, .ref a_this), (1, .int p_1), (2, .ref a_q2), (3, .int x_3), (4, .int x_4)]) hx hb dX2_isWinner_50 hl (k := 6) rfl (by first | rfl | decide) (by decide) rfl (fun ls hl => ?_)
            refine lv_goto (tgt := 12) hx hb dX2_isWinner_53 (by decide) ?_
            exact ih12 x_3 x_4 (x_5 + (1 : Int32)) ls (lv_sub hl [2, 3, 4, 5, 6, 0] rfl) hf
          · replace hf := (if_pos hc).symm.trans hf
            refine lv_iload hx hb dX2_isWinner_41 (lv_at hl 6 rfl) ?_
            refine lv_iload_n hx hb dX2_isWinner_43 rfl (lv_at hl 2 rfl) ?_
            refine lv_icmp_ge (tgt := 50) hx hb dX2_isWinner_44 (by decide) (fun hc => ?_) (fun hc => ?_)
            · replace hf := (if_pos hc).symm.trans hf
              refine lv_iinc (v := x_5 + (1 : Int32)) (lv' := [(5, .int (x_5 + (1 : Int32))), (6, .int o2), (0, .ref a_this), (1, .int p_1), (2, .ref a_q2), (3, .int x_3), (4, .int x_4)]) hx hb dX2_isWinner_50 hl (k := 6) rfl (by first | rfl | decide) (by decide) rfl (fun ls hl => ?_)
              refine lv_goto (tgt := 12) hx hb dX2_isWinner_53 (by decide) ?_
              exact ih12 x_3 x_4 (x_5 + (1 : Int32)) ls (lv_sub hl [2, 3, 4, 5, 6, 0] rfl) hf
            · replace hf := (if_neg hc).symm.trans hf
              refine lv_iinc (v := x_4 + (1 : Int32)) (lv' := [(4, .int (x_4 + (1 : Int32))), (6, .int o2), (0, .ref a_this), (1, .int p_1), (2, .ref a_q2), (3, .int x_3), (5, .int x_5)]) hx hb dX2_isWinner_47 hl (k := 5) rfl (by first | rfl | decide) (by decide) rfl (fun ls hl => ?_)
              refine lv_iinc (v := x_5 + (1 : Int32)) (lv' := [(5, .int (x_5 + (1 : Int32))), (4, .int (x_4 + (1 : Int32))), (6, .int o2), (0, .ref a_this), (1, .int p_1), (2, .ref a_q2), (3, .int x_3)]) hx hb dX2_isWinner_50 hl (k := 6) rfl (by first | rfl | decide) (by decide) rfl (fun ls hl => ?_)
              refine lv_goto (tgt := 12) hx hb dX2_isWinner_53 (by decide) ?_
              exact ih12 x_3 (x_4 + (1 : Int32)) (x_5 + (1 : Int32)) ls (lv_sub hl [3, 4, 5, 6, 1, 0] rfl) hf
  refine w_entry [(0, .ref a_this), (1, .int p_1), (2, .ref a_q2)] (Nat.le_of_ble_eq_true rfl) rfl (fun ls hl => ?_)
  rw [f_X2_isWinner] at hf
  refine lv_aload_n hx hb dX2_isWinner_0 rfl (lv_at hl 2 rfl) ?_
  refine lv_iload_n hx hb dX2_isWinner_1 rfl (lv_at hl 1 rfl) ?_
  obtain ⟨o1, ho1, hf⟩ := Option.bind_eq_some_iff.mp hf
  refine pcI (va_runV (As := [.int p_1]) (rest := []) ⟨hx, hb, hml, hown, hts⟩ (c_X3_papersWith l dC dI cI cZ cR cJ (a_this := a_q2) (a_this_papersOf := a_q2_papersOf) (f_this_papersOf := f_q2_papersOf) (p_1 := p_1) (r0 := o1) (N := N)  ho1) (cwV 1 hts gX2_isWinner_X3_papersWith rfl rfl rfl (by decide +kernel) ⟨Nat.le_of_ble_eq_true rfl, Nat.le_of_ble_eq_true rfl⟩) ⟨rd_blind, va_recv hK hP (ci := 3) (q0 := 0) rfl rfl, rd_pre (hP.sub [0, 1] rfl) hG⟩ rfl rfl hl.1 rfl (lv_room (Nat.le_of_ble_eq_true rfl)) dX2_isWinner_2 ⟨Nat.zero_le _, Nat.zero_le _⟩) ?_
  refine lv_istore_n (lv' := [(3, .int o1), (0, .ref a_this), (1, .int p_1), (2, .ref a_q2)]) hx hb dX2_isWinner_5 rfl hl (by decide) rfl (fun ls hl => ?_)
  refine lv_iconst (v := (0 : Int32)) hx hb dX2_isWinner_6 (by decide) ?_
  refine lv_istore (lv' := [(4, .int (0 : Int32)), (3, .int o1), (0, .ref a_this), (1, .int p_1), (2, .ref a_q2)]) hx hb dX2_isWinner_7 hl (by decide) rfl (fun ls hl => ?_)
  refine lv_iconst (v := (1 : Int32)) hx hb dX2_isWinner_9 (by decide) ?_
  refine lv_istore (lv' := [(5, .int (1 : Int32)), (4, .int (0 : Int32)), (3, .int o1), (0, .ref a_this), (1, .int p_1), (2, .ref a_q2)]) hx hb dX2_isWinner_10 hl (by decide) rfl (fun ls hl => ?_)
  exact loop12 N o1 (0 : Int32) (1 : Int32) ls (lv_sub hl [3, 4, 5, 2, 1, 0] rfl) hf
def f_X2_carryOn (p_1 : Int32) (p_2 : Int32) (p_3 : Int32) (v_this_size : Int32) (v_this_margin : Int32) : Option (Int32) := Option.bind (some (((p_1.toInt64 * (((22 : Int64) * v_this_size.toInt64) - ((10 : Int64) * v_this_margin.toInt64))) * (22 : Int64)) * p_3.toInt64)) (fun x1 => Option.bind (some (((22 : Int64) * v_this_size.toInt64) * (((22 : Int64) * p_3.toInt64) - (((10 : Int64) * p_2.toInt64) * v_this_margin.toInt64)))) (fun x2 => if 0 < (lg_cmp x2 (0 : Int64)) then (gz x2 (some ((lmin (((x1 + x2) - (1 : Int64)) / x2) (1000000000 : Int64)).toInt32))) else (some (1000000000 : Int32))))
set_option maxHeartbeats 4000000 in
set_option maxRecDepth 100000 in
theorem c_X2_carryOn (l : Launch) (dC : Nat → ClassId) (dI : Nat → Nat → Nat) (cI cZ cR cJ : ClassId) (a_this a_this_wordTally a_this_winsByWord a_this_pairWinner a_this_pairLoser a_this_pairMargin : Nat) (v_this_pairs : Int32) (v_this_candidates : Int32) (v_this_seats : Int32) (v_this_size : Int32) (v_this_margin : Int32) (p_1 : Int32) (p_2 : Int32) (p_3 : Int32) (N : Nat) (r0 : Int32) (hf : f_X2_carryOn p_1 p_2 p_3 v_this_size v_this_margin = some r0) : Met l yX2_carryOn wsX2_carryOn ({ frames := 1, cells := 0, slots := 0, locals := 15 } : Room) (va_Pc ([.ref a_this, .int p_1, .int p_2, .int p_3] : List Value) (rdB (dC, dI) [(a_this, .inr (2, [.ref a_this_wordTally, .ref a_this_winsByWord, .ref a_this_pairWinner, .ref a_this_pairLoser, .ref a_this_pairMargin, .int v_this_pairs, .int v_this_candidates, .int v_this_seats, .int v_this_size, .int v_this_margin]))] (GG dC dI cI cZ cR cJ))) (pqI r0) 0 0 noF := by
  refine Met.ofW (cc := cX2_carryOn) (maxL := 8) (ret := (some .int)) (by decide) rfl ?_
  intro p e s m args below meth c s₁ B hml hv
  obtain ⟨rfl, hP, hG⟩ := hv
  have hx := B.exec
  have hb := B.bytes
  have hr := B.returns
  have hts := atoms_spec (ws := wsX2_carryOn) B.pre
  have hown : s.vm.findClass RX2 = some m.cls := findClass_of_methodNamed B.named
  have hlocks := B.notSynchronized
  have hK := hG.1
  have hiX2 : ∀ w ∈ u_ws RX2 TX2 10, w ∈ wsX2_carryOn := by decide +kernel
  refine w_entry [(0, .ref a_this), (1, .int p_1), (2, .int p_2), (3, .int p_3)] (Nat.le_of_ble_eq_true rfl) rfl (fun ls hl => ?_)
  rw [f_X2_carryOn] at hf
  refine lv_iload_n hx hb dX2_carryOn_0 rfl (lv_at hl 1 rfl) ?_
  refine lv_i2l (v := p_1.toInt64) hx hb dX2_carryOn_1 rfl ?_
  refine lv_ldc2 (v := (22 : Int64)) hx hb hown (hts (.constantLong RX2 72 (22)) (by decide +kernel)) dX2_carryOn_2 ?_
  refine lv_aload_n hx hb dX2_carryOn_5 rfl (lv_at hl 0 rfl) ?_
  refine va_get (D := (dC, dI)) (ci := 2) (v := .int v_this_size) (C := RX2) (T := TX2) (N := 10) hx hb hts hiX2 hown hK hP 0 rfl rfl 8 (by decide) (hts (.fieldLink RX2 42 "SureCount$Race" "size" "I") (by decide +kernel)) (fun _ h9 => h9) rfl dX2_carryOn_6 ?_
  refine lv_i2l (v := v_this_size.toInt64) hx hb dX2_carryOn_9 rfl ?_
  refine lv_lmul hx hb dX2_carryOn_10 ?_
  refine lv_ldc2 (v := (10 : Int64)) hx hb hown (hts (.constantLong RX2 74 (10)) (by decide +kernel)) dX2_carryOn_11 ?_
  refine lv_aload_n hx hb dX2_carryOn_14 rfl (lv_at hl 0 rfl) ?_
  refine va_get (D := (dC, dI)) (ci := 2) (v := .int v_this_margin) (C := RX2) (T := TX2) (N := 10) hx hb hts hiX2 hown hK hP 0 rfl rfl 9 (by decide) (hts (.fieldLink RX2 45 "SureCount$Race" "margin" "I") (by decide +kernel)) (fun _ h9 => h9) rfl dX2_carryOn_15 ?_
  refine lv_i2l (v := v_this_margin.toInt64) hx hb dX2_carryOn_18 rfl ?_
  refine lv_lmul hx hb dX2_carryOn_19 ?_
  refine lv_lsub hx hb dX2_carryOn_20 ?_
  refine lv_lmul hx hb dX2_carryOn_21 ?_
  refine lv_ldc2 (v := (22 : Int64)) hx hb hown (hts (.constantLong RX2 72 (22)) (by decide +kernel)) dX2_carryOn_22 ?_
  refine lv_lmul hx hb dX2_carryOn_25 ?_
  refine lv_iload_n hx hb dX2_carryOn_26 rfl (lv_at hl 3 rfl) ?_
  refine lv_i2l (v := p_3.toInt64) hx hb dX2_carryOn_27 rfl ?_
  refine lv_lmul hx hb dX2_carryOn_28 ?_
  obtain ⟨x1, hx1, hf⟩ := Option.bind_eq_some_iff.mp hf
  replace hx1 := Option.some.inj hx1
  refine W.eq (g2 := F0 m 29 ls [.long x1]) (by subst hx1; rfl) ?_
  refine lv_lstore (lv' := [(4, .long x1), (0, .ref a_this), (1, .int p_1), (2, .int p_2), (3, .int p_3)]) hx hb dX2_carryOn_29 hl (by decide) rfl (fun ls hl => ?_)
  refine lv_ldc2 (v := (22 : Int64)) hx hb hown (hts (.constantLong RX2 72 (22)) (by decide +kernel)) dX2_carryOn_31 ?_
  refine lv_aload_n hx hb dX2_carryOn_34 rfl (lv_at hl 1 rfl) ?_
  refine va_get (D := (dC, dI)) (ci := 2) (v := .int v_this_size) (C := RX2) (T := TX2) (N := 10) hx hb hts hiX2 hown hK hP 0 rfl rfl 8 (by decide) (hts (.fieldLink RX2 42 "SureCount$Race" "size" "I") (by decide +kernel)) (fun _ h9 => h9) rfl dX2_carryOn_35 ?_
  refine lv_i2l (v := v_this_size.toInt64) hx hb dX2_carryOn_38 rfl ?_
  refine lv_lmul hx hb dX2_carryOn_39 ?_
  refine lv_ldc2 (v := (22 : Int64)) hx hb hown (hts (.constantLong RX2 72 (22)) (by decide +kernel)) dX2_carryOn_40 ?_
  refine lv_iload_n hx hb dX2_carryOn_43 rfl (lv_at hl 4 rfl) ?_
  refine lv_i2l (v := p_3.toInt64) hx hb dX2_carryOn_44 rfl ?_
  refine lv_lmul hx hb dX2_carryOn_45 ?_
  refine lv_ldc2 (v := (10 : Int64)) hx hb hown (hts (.constantLong RX2 74 (10)) (by decide +kernel)) dX2_carryOn_46 ?_
  refine lv_iload_n hx hb dX2_carryOn_49 rfl (lv_at hl 3 rfl) ?_
  refine lv_i2l (v := p_2.toInt64) hx hb dX2_carryOn_50 rfl ?_
  refine lv_lmul hx hb dX2_carryOn_51 ?_
  refine lv_aload_n hx hb dX2_carryOn_52 rfl (lv_at hl 1 rfl) ?_
  refine va_get (D := (dC, dI)) (ci := 2) (v := .int v_this_margin) (C := RX2) (T := TX2) (N := 10) hx hb hts hiX2 hown hK hP 0 rfl rfl 9 (by decide) (hts (.fieldLink RX2 45 "SureCount$Race" "margin" "I") (by decide +kernel)) (fun _ h9 => h9) rfl dX2_carryOn_53 ?_
  refine lv_i2l (v := v_this_margin.toInt64) hx hb dX2_carryOn_56 rfl ?_
  refine lv_lmul hx hb dX2_carryOn_57 ?_
  refine lv_lsub hx hb dX2_carryOn_58 ?_
  refine lv_lmul hx hb dX2_carryOn_59 ?_
  obtain ⟨x2, hx2, hf⟩ := Option.bind_eq_some_iff.mp hf
  replace hx2 := Option.some.inj hx2
  refine W.eq (g2 := F0 m 60 ls [.long x2]) (by subst hx2; rfl) ?_
  refine lv_lstore (lv' := [(6, .long x2), (4, .long x1), (0, .ref a_this), (1, .int p_1), (2, .int p_2), (3, .int p_3)]) hx hb dX2_carryOn_60 hl (by decide) rfl (fun ls hl => ?_)
  refine lv_lload hx hb dX2_carryOn_62 (lv_at hl 0 rfl) ?_
  refine lv_lconst (v := (0 : Int64)) hx hb dX2_carryOn_64 (by decide) ?_
  refine W.lcmp hx hb dX2_carryOn_65 ?_
  refine lv_if_gt (tgt := 72) hx hb dX2_carryOn_66 (by decide) (fun hc => ?_) (fun hc => ?_)
  · replace hf := (if_pos hc).symm.trans hf
    refine lv_lload hx hb dX2_carryOn_72 (lv_at hl 1 rfl) ?_
    refine lv_lload hx hb dX2_carryOn_74 (lv_at hl 0 rfl) ?_
    refine lv_ladd hx hb dX2_carryOn_76 ?_
    refine lv_lconst (v := (1 : Int64)) hx hb dX2_carryOn_77 (by decide) ?_
    refine lv_lsub hx hb dX2_carryOn_78 ?_
    refine lv_lload hx hb dX2_carryOn_79 (lv_at hl 0 rfl) ?_
    have hz3 := (gz_some hf).1
    replace hf := (gz_some hf).2
    refine lv_ldiv hx hb dX2_carryOn_81 hz3 ?_
    refine lv_ldc2 (v := (1000000000 : Int64)) hx hb hown (hts (.constantLong RX2 77 (1000000000)) (by decide +kernel)) dX2_carryOn_82 ?_
    refine va_mmin_long hx hb (hml.trans hl.1.symm) hown (hts (.methodLink RX2 79 Lib.MathLoose.min_long.x) (by decide +kernel)) (hts (.static Lib.MathLoose.min_long.x) (by decide +kernel)) (hts (.initialized "java/lang/Math") (by decide +kernel)) (hts (.code Lib.MathLoose.min_long.x Lib.MathLoose.min_long.code 4 (some .long)) (by decide +kernel)) (Nat.le_of_ble_eq_true rfl) (Nat.le_of_ble_eq_true rfl) (Nat.zero_le _) (Nat.zero_le _) dX2_carryOn_85 ?_
    refine lv_l2i (v := (lmin (((x1 + x2) - (1 : Int64)) / x2) (1000000000 : Int64)).toInt32) hx hb dX2_carryOn_88 rfl ?_
    cases hf
    exact W.iret hx hb hr (fun t ht hW => ⟨rfl, ht⟩) (fun _ h => nomatch h) dX2_carryOn_89
  · replace hf := (if_neg hc).symm.trans hf
    refine lv_ldc (v := (1000000000 : Int32)) hx hb hown (hts (.constant RX2 76 (1000000000)) (by decide +kernel)) dX2_carryOn_69 ?_
    cases hf
    exact W.iret hx hb hr (fun t ht hW => ⟨rfl, ht⟩) (fun _ h => nomatch h) dX2_carryOn_71
def f_X2_cleanDrawsUntil_L5 (p_1 : Int32) (v_this_size : Int32) (v_this_margin : Int32)  : Nat → Int32 → Int32 → Option (Int32)
  | 0, _, _ => none
  | n5 + 1, x_3, x_4 => if (100000 : Int32) < x_4 then (some (-1 : Int32)) else (if p_1 < x_3 then (Option.bind (f_X2_carryOn x_3 (0 : Int32) v_this_margin v_this_size v_this_margin) (fun o1 => if o1 = x_3 then (some (-1 : Int32)) else (f_X2_cleanDrawsUntil_L5 p_1 v_this_size v_this_margin n5 o1 (x_4 + (1 : Int32))))) else (some x_4))
def f_X2_cleanDrawsUntil (N : Nat) (p_1 : Int32) (p_2 : Int32) (v_this_size : Int32) (v_this_margin : Int32) : Option (Int32) := f_X2_cleanDrawsUntil_L5 p_1 v_this_size v_this_margin  N p_2 (0 : Int32)
set_option maxHeartbeats 4000000 in
set_option maxRecDepth 100000 in
theorem c_X2_cleanDrawsUntil (l : Launch) (dC : Nat → ClassId) (dI : Nat → Nat → Nat) (cI cZ cR cJ : ClassId) (a_this a_this_wordTally a_this_winsByWord a_this_pairWinner a_this_pairLoser a_this_pairMargin : Nat) (v_this_pairs : Int32) (v_this_candidates : Int32) (v_this_seats : Int32) (v_this_size : Int32) (v_this_margin : Int32) (p_1 : Int32) (p_2 : Int32) (N : Nat) (r0 : Int32) (hf : f_X2_cleanDrawsUntil N p_1 p_2 v_this_size v_this_margin = some r0) : Met l yX2_cleanDrawsUntil wsX2_cleanDrawsUntil ({ frames := 2, cells := 0, slots := 0, locals := 42 } : Room) (va_Pc ([.ref a_this, .int p_1, .int p_2] : List Value) (rdB (dC, dI) [(a_this, .inr (2, [.ref a_this_wordTally, .ref a_this_winsByWord, .ref a_this_pairWinner, .ref a_this_pairLoser, .ref a_this_pairMargin, .int v_this_pairs, .int v_this_candidates, .int v_this_seats, .int v_this_size, .int v_this_margin]))] (GG dC dI cI cZ cR cJ))) (pqI r0) 0 0 noF := by
  refine Met.ofW (cc := cX2_cleanDrawsUntil) (maxL := 6) (ret := (some .int)) (by decide) rfl ?_
  intro p e s m args below meth c s₁ B hml hv
  obtain ⟨rfl, hP, hG⟩ := hv
  have hx := B.exec
  have hb := B.bytes
  have hr := B.returns
  have hts := atoms_spec (ws := wsX2_cleanDrawsUntil) B.pre
  have hown : s.vm.findClass RX2 = some m.cls := findClass_of_methodNamed B.named
  have hlocks := B.notSynchronized
  have hK := hG.1
  have hiX2 : ∀ w ∈ u_ws RX2 TX2 10, w ∈ wsX2_cleanDrawsUntil := by decide +kernel
  have loop5 : ∀ (n : Nat) (x_3 : Int32) (x_4 : Int32) (ls : Array Slot), lv_has ls 6 [(0, .ref a_this), (1, .int p_1), (2, .int p_2), (3, .int x_3), (4, .int x_4)] → f_X2_cleanDrawsUntil_L5 p_1 v_this_size v_this_margin  n x_3 x_4 = some r0 → W p l e (headSpec wsX2_cleanDrawsUntil ({ frames := 2, cells := 0, slots := 0, locals := 42 } : Room)).room s m ([.ref a_this, .int p_1, .int p_2] : List Value).toArray below meth c s.heap [] 0 0 (MQ below (pqI r0) ([.ref a_this, .int p_1, .int p_2] : List Value).toArray s 0 0 noF) (F0 m 5 ls []) := by
    intro n
    induction n with
    | zero => intro x_3 x_4 ls hl hf; rw [f_X2_cleanDrawsUntil_L5] at hf; cases hf
    | succ n5 ih5 =>
      intro x_3 x_4 ls hl hf
      rw [f_X2_cleanDrawsUntil_L5] at hf
      refine lv_iload hx hb dX2_cleanDrawsUntil_5 (lv_at hl 4 rfl) ?_
      refine lv_ldc (v := (100000 : Int32)) hx hb hown (hts (.constant RX2 82 (100000)) (by decide +kernel)) dX2_cleanDrawsUntil_7 ?_
      refine lv_icmp_gt (tgt := 49) hx hb dX2_cleanDrawsUntil_9 (by decide) (fun hc => ?_) (fun hc => ?_)
      · replace hf := (if_pos hc).symm.trans hf
        refine lv_iconst (v := (-1 : Int32)) hx hb dX2_cleanDrawsUntil_49 (by decide) ?_
        cases hf
        exact W.iret hx hb hr (fun t ht hW => ⟨rfl, ht⟩) (fun _ h => nomatch h) dX2_cleanDrawsUntil_50
      · replace hf := (if_neg hc).symm.trans hf
        refine lv_iload_n hx hb dX2_cleanDrawsUntil_12 rfl (lv_at hl 3 rfl) ?_
        refine lv_iload_n hx hb dX2_cleanDrawsUntil_13 rfl (lv_at hl 1 rfl) ?_
        refine lv_icmp_gt (tgt := 20) hx hb dX2_cleanDrawsUntil_14 (by decide) (fun hc => ?_) (fun hc => ?_)
        · replace hf := (if_pos hc).symm.trans hf
          refine lv_aload_n hx hb dX2_cleanDrawsUntil_20 rfl (lv_at hl 0 rfl) ?_
          refine lv_iload_n hx hb dX2_cleanDrawsUntil_21 rfl (lv_at hl 3 rfl) ?_
          refine lv_iconst (v := (0 : Int32)) hx hb dX2_cleanDrawsUntil_22 (by decide) ?_
          refine lv_aload_n hx hb dX2_cleanDrawsUntil_23 rfl (lv_at hl 0 rfl) ?_
          refine va_get (D := (dC, dI)) (ci := 2) (v := .int v_this_margin) (C := RX2) (T := TX2) (N := 10) hx hb hts hiX2 hown hK hP 0 rfl rfl 9 (by decide) (hts (.fieldLink RX2 45 "SureCount$Race" "margin" "I") (by decide +kernel)) (fun _ h9 => h9) rfl dX2_cleanDrawsUntil_24 ?_
          obtain ⟨o1, ho1, hf⟩ := Option.bind_eq_some_iff.mp hf
          refine pcI (va_runV (As := [.int x_3, .int (0 : Int32), .int v_this_margin]) (rest := []) ⟨hx, hb, hml, hown, hts⟩ (c_X2_carryOn l dC dI cI cZ cR cJ (a_this := a_this) (a_this_wordTally := a_this_wordTally) (a_this_winsByWord := a_this_winsByWord) (a_this_pairWinner := a_this_pairWinner) (a_this_pairLoser := a_this_pairLoser) (a_this_pairMargin := a_this_pairMargin) (v_this_pairs := v_this_pairs) (v_this_candidates := v_this_candidates) (v_this_seats := v_this_seats) (v_this_size := v_this_size) (v_this_margin := v_this_margin) (p_1 := x_3) (p_2 := (0 : Int32)) (p_3 := v_this_margin) (r0 := o1) (N := N)  ho1) (cwV 3 hts gX2_cleanDrawsUntil_X2_carryOn rfl rfl rfl (by decide +kernel) ⟨Nat.le_of_ble_eq_true rfl, Nat.le_of_ble_eq_true rfl⟩) ⟨rd_blind, va_recv hK hP (ci := 2) (q0 := 0) rfl rfl, rd_pre (hP.sub [0] rfl) hG⟩ rfl rfl hl.1 rfl (lv_room (Nat.le_of_ble_eq_true rfl)) dX2_cleanDrawsUntil_27 ⟨Nat.zero_le _, Nat.zero_le _⟩) ?_
          refine lv_istore (lv' := [(5, .int o1), (0, .ref a_this), (1, .int p_1), (2, .int p_2), (3, .int x_3), (4, .int x_4)]) hx hb dX2_cleanDrawsUntil_30 hl (by decide) rfl (fun ls hl => ?_)
          refine lv_iload hx hb dX2_cleanDrawsUntil_32 (lv_at hl 0 rfl) ?_
          refine lv_iload_n hx hb dX2_cleanDrawsUntil_34 rfl (lv_at hl 4 rfl) ?_
          refine lv_icmp_ne (tgt := 40) hx hb dX2_cleanDrawsUntil_35 (by decide) (fun hc => ?_) (fun hc => ?_)
          · replace hf := (if_neg hc).symm.trans hf
            refine lv_iload hx hb dX2_cleanDrawsUntil_40 (lv_at hl 0 rfl) ?_
            refine lv_istore_n (lv' := [(3, .int o1), (5, .int o1), (0, .ref a_this), (1, .int p_1), (2, .int p_2), (4, .int x_4)]) hx hb dX2_cleanDrawsUntil_42 rfl hl (by decide) rfl (fun ls hl => ?_)
            refine lv_iinc (v := x_4 + (1 : Int32)) (lv' := [(4, .int (x_4 + (1 : Int32))), (3, .int o1), (5, .int o1), (0, .ref a_this), (1, .int p_1), (2, .int p_2)]) hx hb dX2_cleanDrawsUntil_43 hl (k := 5) rfl (by first | rfl | decide) (by decide) rfl (fun ls hl => ?_)
            refine lv_goto (tgt := 5) hx hb dX2_cleanDrawsUntil_46 (by decide) ?_
            exact ih5 o1 (x_4 + (1 : Int32)) ls (lv_sub hl [3, 4, 5, 1, 0] rfl) hf
          · replace hf := (if_pos hc).symm.trans hf
            refine lv_iconst (v := (-1 : Int32)) hx hb dX2_cleanDrawsUntil_38 (by decide) ?_
            cases hf
            exact W.iret hx hb hr (fun t ht hW => ⟨rfl, ht⟩) (fun _ h => nomatch h) dX2_cleanDrawsUntil_39
        · replace hf := (if_neg hc).symm.trans hf
          refine lv_iload hx hb dX2_cleanDrawsUntil_17 (lv_at hl 4 rfl) ?_
          cases hf
          exact W.iret hx hb hr (fun t ht hW => ⟨rfl, ht⟩) (fun _ h => nomatch h) dX2_cleanDrawsUntil_19
  refine w_entry [(0, .ref a_this), (1, .int p_1), (2, .int p_2)] (Nat.le_of_ble_eq_true rfl) rfl (fun ls hl => ?_)
  rw [f_X2_cleanDrawsUntil] at hf
  refine lv_iload_n hx hb dX2_cleanDrawsUntil_0 rfl (lv_at hl 2 rfl) ?_
  refine lv_istore_n (lv' := [(3, .int p_2), (0, .ref a_this), (1, .int p_1), (2, .int p_2)]) hx hb dX2_cleanDrawsUntil_1 rfl hl (by decide) rfl (fun ls hl => ?_)
  refine lv_iconst (v := (0 : Int32)) hx hb dX2_cleanDrawsUntil_2 (by decide) ?_
  refine lv_istore (lv' := [(4, .int (0 : Int32)), (3, .int p_2), (0, .ref a_this), (1, .int p_1), (2, .int p_2)]) hx hb dX2_cleanDrawsUntil_3 hl (by decide) rfl (fun ls hl => ?_)
  exact loop5 N p_2 (0 : Int32) ls (lv_sub hl [2, 3, 4, 1, 0] rfl) hf
def f_X4_isTaken (p_0 : Int32) (p_1 : Int32) (p_2 : Int32) : Option (Int32) := if p_2 = 0 then (if p_1 = (-1 : Int32) then (some (0 : Int32)) else (if p_0 = (7 : Int32) then (if p_1 = (7 : Int32) then (some (0 : Int32)) else (some (1 : Int32))) else (some (1 : Int32)))) else (if p_0 = (7 : Int32) then (some (0 : Int32)) else (some (1 : Int32)))
set_option maxHeartbeats 4000000 in
set_option maxRecDepth 100000 in
theorem c_X4_isTaken (l : Launch) (dC : Nat → ClassId) (dI : Nat → Nat → Nat) (cI cZ cR cJ : ClassId) (p_0 : Int32) (p_1 : Int32) (p_2 : Int32) (N : Nat) (r0 : Int32) (hf : f_X4_isTaken p_0 p_1 p_2 = some r0) : Met l yX4_isTaken wsX4_isTaken ({ frames := 0, cells := 0, slots := 0, locals := 0 } : Room) (va_Pc ([.int p_0, .int p_1, .int p_2] : List Value) (rdB (dC, dI) [] (GG dC dI cI cZ cR cJ))) (pqI r0) 0 0 noF := by
  refine Met.ofW (cc := cX4_isTaken) (maxL := 3) (ret := (some .boolean)) (by decide) rfl ?_
  intro p e s m args below meth c s₁ B hml hv
  obtain ⟨rfl, hP, hG⟩ := hv
  have hx := B.exec
  have hb := B.bytes
  have hr := B.returns
  have hts := atoms_spec (ws := wsX4_isTaken) B.pre
  have hown : s.vm.findClass RX4 = some m.cls := findClass_of_methodNamed B.named
  have hlocks := B.notSynchronized
  have hK := hG.1
  refine w_entry [(0, .int p_0), (1, .int p_1), (2, .int p_2)] (Nat.le_of_ble_eq_true rfl) rfl (fun ls hl => ?_)
  rw [f_X4_isTaken] at hf
  refine lv_iload_n hx hb dX4_isTaken_0 rfl (lv_at hl 2 rfl) ?_
  refine lv_if_eq (tgt := 16) hx hb dX4_isTaken_1 (by decide) (fun hc => ?_) (fun hc => ?_)
  · replace hf := (if_pos hc).symm.trans hf
    refine lv_iload_n hx hb dX4_isTaken_16 rfl (lv_at hl 1 rfl) ?_
    refine lv_iconst (v := (-1 : Int32)) hx hb dX4_isTaken_17 (by decide) ?_
    refine lv_icmp_ne (tgt := 23) hx hb dX4_isTaken_18 (by decide) (fun hc => ?_) (fun hc => ?_)
    · replace hf := (if_neg hc).symm.trans hf
      refine lv_iload_n hx hb dX4_isTaken_23 rfl (lv_at hl 0 rfl) ?_
      refine lv_bipush (v := (7 : Int32)) hx hb dX4_isTaken_24 (by decide) ?_
      refine lv_icmp_ne (tgt := 35) hx hb dX4_isTaken_26 (by decide) (fun hc => ?_) (fun hc => ?_)
      · replace hf := (if_neg hc).symm.trans hf
        refine lv_iconst (v := (1 : Int32)) hx hb dX4_isTaken_35 (by decide) ?_
        refine lv_goto (tgt := 40) hx hb dX4_isTaken_36 (by decide) ?_
        cases hf
        exact W.zret hx hb hr rfl (fun t ht hW => ⟨rfl, ht⟩) (fun _ h => nomatch h) dX4_isTaken_40
      · replace hf := (if_pos hc).symm.trans hf
        refine lv_iload_n hx hb dX4_isTaken_29 rfl (lv_at hl 1 rfl) ?_
        refine lv_bipush (v := (7 : Int32)) hx hb dX4_isTaken_30 (by decide) ?_
        refine lv_icmp_eq (tgt := 39) hx hb dX4_isTaken_32 (by decide) (fun hc => ?_) (fun hc => ?_)
        · replace hf := (if_pos hc).symm.trans hf
          refine lv_iconst (v := (0 : Int32)) hx hb dX4_isTaken_39 (by decide) ?_
          cases hf
          exact W.zret hx hb hr rfl (fun t ht hW => ⟨rfl, ht⟩) (fun _ h => nomatch h) dX4_isTaken_40
        · replace hf := (if_neg hc).symm.trans hf
          refine lv_iconst (v := (1 : Int32)) hx hb dX4_isTaken_35 (by decide) ?_
          refine lv_goto (tgt := 40) hx hb dX4_isTaken_36 (by decide) ?_
          cases hf
          exact W.zret hx hb hr rfl (fun t ht hW => ⟨rfl, ht⟩) (fun _ h => nomatch h) dX4_isTaken_40
    · replace hf := (if_pos hc).symm.trans hf
      refine lv_iconst (v := (0 : Int32)) hx hb dX4_isTaken_21 (by decide) ?_
      cases hf
      exact W.zret hx hb hr rfl (fun t ht hW => ⟨rfl, ht⟩) (fun _ h => nomatch h) dX4_isTaken_22
  · replace hf := (if_neg hc).symm.trans hf
    refine lv_iload_n hx hb dX4_isTaken_4 rfl (lv_at hl 0 rfl) ?_
    refine lv_bipush (v := (7 : Int32)) hx hb dX4_isTaken_5 (by decide) ?_
    refine lv_icmp_eq (tgt := 14) hx hb dX4_isTaken_7 (by decide) (fun hc => ?_) (fun hc => ?_)
    · replace hf := (if_pos hc).symm.trans hf
      refine lv_iconst (v := (0 : Int32)) hx hb dX4_isTaken_14 (by decide) ?_
      cases hf
      exact W.zret hx hb hr rfl (fun t ht hW => ⟨rfl, ht⟩) (fun _ h => nomatch h) dX4_isTaken_15
    · replace hf := (if_neg hc).symm.trans hf
      refine lv_iconst (v := (1 : Int32)) hx hb dX4_isTaken_10 (by decide) ?_
      refine lv_goto (tgt := 15) hx hb dX4_isTaken_11 (by decide) ?_
      cases hf
      exact W.zret hx hb hr rfl (fun t ht hW => ⟨rfl, ht⟩) (fun _ h => nomatch h) dX4_isTaken_15
def f_X4_lead (p_0 : Int32) (p_1 : Int32) (p_2 : Int32) : Option (Int32) := if p_0 = p_1 then (some (1 : Int32)) else (if p_0 = p_2 then (some (-1 : Int32)) else (some (0 : Int32)))
set_option maxHeartbeats 4000000 in
set_option maxRecDepth 100000 in
theorem c_X4_lead (l : Launch) (dC : Nat → ClassId) (dI : Nat → Nat → Nat) (cI cZ cR cJ : ClassId) (p_0 : Int32) (p_1 : Int32) (p_2 : Int32) (N : Nat) (r0 : Int32) (hf : f_X4_lead p_0 p_1 p_2 = some r0) : Met l yX4_lead wsX4_lead ({ frames := 0, cells := 0, slots := 0, locals := 0 } : Room) (va_Pc ([.int p_0, .int p_1, .int p_2] : List Value) (rdB (dC, dI) [] (GG dC dI cI cZ cR cJ))) (pqI r0) 0 0 noF := by
  refine Met.ofW (cc := cX4_lead) (maxL := 3) (ret := (some .int)) (by decide) rfl ?_
  intro p e s m args below meth c s₁ B hml hv
  obtain ⟨rfl, hP, hG⟩ := hv
  have hx := B.exec
  have hb := B.bytes
  have hr := B.returns
  have hts := atoms_spec (ws := wsX4_lead) B.pre
  have hown : s.vm.findClass RX4 = some m.cls := findClass_of_methodNamed B.named
  have hlocks := B.notSynchronized
  have hK := hG.1
  refine w_entry [(0, .int p_0), (1, .int p_1), (2, .int p_2)] (Nat.le_of_ble_eq_true rfl) rfl (fun ls hl => ?_)
  rw [f_X4_lead] at hf
  refine lv_iload_n hx hb dX4_lead_0 rfl (lv_at hl 0 rfl) ?_
  refine lv_iload_n hx hb dX4_lead_1 rfl (lv_at hl 1 rfl) ?_
  refine lv_icmp_ne (tgt := 7) hx hb dX4_lead_2 (by decide) (fun hc => ?_) (fun hc => ?_)
  · replace hf := (if_neg hc).symm.trans hf
    refine lv_iload_n hx hb dX4_lead_7 rfl (lv_at hl 0 rfl) ?_
    refine lv_iload_n hx hb dX4_lead_8 rfl (lv_at hl 2 rfl) ?_
    refine lv_icmp_ne (tgt := 16) hx hb dX4_lead_9 (by decide) (fun hc => ?_) (fun hc => ?_)
    · replace hf := (if_neg hc).symm.trans hf
      refine lv_iconst (v := (0 : Int32)) hx hb dX4_lead_16 (by decide) ?_
      cases hf
      exact W.iret hx hb hr (fun t ht hW => ⟨rfl, ht⟩) (fun _ h => nomatch h) dX4_lead_17
    · replace hf := (if_pos hc).symm.trans hf
      refine lv_iconst (v := (-1 : Int32)) hx hb dX4_lead_12 (by decide) ?_
      refine lv_goto (tgt := 17) hx hb dX4_lead_13 (by decide) ?_
      cases hf
      exact W.iret hx hb hr (fun t ht hW => ⟨rfl, ht⟩) (fun _ h => nomatch h) dX4_lead_17
  · replace hf := (if_pos hc).symm.trans hf
    refine lv_iconst (v := (1 : Int32)) hx hb dX4_lead_5 (by decide) ?_
    cases hf
    exact W.iret hx hb hr (fun t ht hW => ⟨rfl, ht⟩) (fun _ h => nomatch h) dX4_lead_6
def f_X5_hasRace (p_1 : Int32) (v_this_raceCount : Int32) : Option (Int32) := if p_1 < 0 then (some (0 : Int32)) else (if v_this_raceCount ≤ p_1 then (some (0 : Int32)) else (some (1 : Int32)))
set_option maxHeartbeats 4000000 in
set_option maxRecDepth 100000 in
theorem c_X5_hasRace (l : Launch) (dC : Nat → ClassId) (dI : Nat → Nat → Nat) (cI cZ cR cJ : ClassId) (a_this a_this_races a_this_papers a_this_draws a_this_walk a_this_handTally : Nat) (v_this_raceCount : Int32) (v_this_boxCount : Int32) (v_this_isSealed : Int32) (p_1 : Int32) (N : Nat) (r0 : Int32) (hf : f_X5_hasRace p_1 v_this_raceCount = some r0) : Met l yX5_hasRace wsX5_hasRace ({ frames := 0, cells := 0, slots := 0, locals := 0 } : Room) (va_Pc ([.ref a_this, .int p_1] : List Value) (rdB (dC, dI) [(a_this, .inr (5, [.ref a_this_races, .ref a_this_papers, .ref a_this_draws, .ref a_this_walk, .ref a_this_handTally, .int v_this_raceCount, .int v_this_boxCount, .int v_this_isSealed]))] (GG dC dI cI cZ cR cJ))) (pqI r0) 0 0 noF := by
  refine Met.ofW (cc := cX5_hasRace) (maxL := 2) (ret := (some .boolean)) (by decide) rfl ?_
  intro p e s m args below meth c s₁ B hml hv
  obtain ⟨rfl, hP, hG⟩ := hv
  have hx := B.exec
  have hb := B.bytes
  have hr := B.returns
  have hts := atoms_spec (ws := wsX5_hasRace) B.pre
  have hown : s.vm.findClass RX5 = some m.cls := findClass_of_methodNamed B.named
  have hlocks := B.notSynchronized
  have hK := hG.1
  have hiX5 : ∀ w ∈ u_ws RX5 TX5 8, w ∈ wsX5_hasRace := by decide +kernel
  refine w_entry [(0, .ref a_this), (1, .int p_1)] (Nat.le_of_ble_eq_true rfl) rfl (fun ls hl => ?_)
  rw [f_X5_hasRace] at hf
  refine lv_iload_n hx hb dX5_hasRace_0 rfl (lv_at hl 1 rfl) ?_
  refine lv_if_lt (tgt := 16) hx hb dX5_hasRace_1 (by decide) (fun hc => ?_) (fun hc => ?_)
  · replace hf := (if_pos hc).symm.trans hf
    refine lv_iconst (v := (0 : Int32)) hx hb dX5_hasRace_16 (by decide) ?_
    cases hf
    exact W.zret hx hb hr rfl (fun t ht hW => ⟨rfl, ht⟩) (fun _ h => nomatch h) dX5_hasRace_17
  · replace hf := (if_neg hc).symm.trans hf
    refine lv_iload_n hx hb dX5_hasRace_4 rfl (lv_at hl 1 rfl) ?_
    refine lv_aload_n hx hb dX5_hasRace_5 rfl (lv_at hl 0 rfl) ?_
    refine va_get (D := (dC, dI)) (ci := 5) (v := .int v_this_raceCount) (C := RX5) (T := TX5) (N := 8) hx hb hts hiX5 hown hK hP 0 rfl rfl 5 (by decide) (hts (.fieldLink RX5 44 "SureCount" "raceCount" "I") (by decide +kernel)) (fun _ h9 => h9) rfl dX5_hasRace_6 ?_
    refine lv_icmp_ge (tgt := 16) hx hb dX5_hasRace_9 (by decide) (fun hc => ?_) (fun hc => ?_)
    · replace hf := (if_pos hc).symm.trans hf
      refine lv_iconst (v := (0 : Int32)) hx hb dX5_hasRace_16 (by decide) ?_
      cases hf
      exact W.zret hx hb hr rfl (fun t ht hW => ⟨rfl, ht⟩) (fun _ h => nomatch h) dX5_hasRace_17
    · replace hf := (if_neg hc).symm.trans hf
      refine lv_iconst (v := (1 : Int32)) hx hb dX5_hasRace_12 (by decide) ?_
      refine lv_goto (tgt := 17) hx hb dX5_hasRace_13 (by decide) ?_
      cases hf
      exact W.zret hx hb hr rfl (fun t ht hW => ⟨rfl, ht⟩) (fun _ h => nomatch h) dX5_hasRace_17
def f_X5_hasBox (p_1 : Int32) (v_this_boxCount : Int32) : Option (Int32) := if p_1 < 0 then (some (0 : Int32)) else (if v_this_boxCount ≤ p_1 then (some (0 : Int32)) else (some (1 : Int32)))
set_option maxHeartbeats 4000000 in
set_option maxRecDepth 100000 in
theorem c_X5_hasBox (l : Launch) (dC : Nat → ClassId) (dI : Nat → Nat → Nat) (cI cZ cR cJ : ClassId) (a_this a_this_races a_this_papers a_this_draws a_this_walk a_this_handTally : Nat) (v_this_raceCount : Int32) (v_this_boxCount : Int32) (v_this_isSealed : Int32) (p_1 : Int32) (N : Nat) (r0 : Int32) (hf : f_X5_hasBox p_1 v_this_boxCount = some r0) : Met l yX5_hasBox wsX5_hasBox ({ frames := 0, cells := 0, slots := 0, locals := 0 } : Room) (va_Pc ([.ref a_this, .int p_1] : List Value) (rdB (dC, dI) [(a_this, .inr (5, [.ref a_this_races, .ref a_this_papers, .ref a_this_draws, .ref a_this_walk, .ref a_this_handTally, .int v_this_raceCount, .int v_this_boxCount, .int v_this_isSealed]))] (GG dC dI cI cZ cR cJ))) (pqI r0) 0 0 noF := by
  refine Met.ofW (cc := cX5_hasBox) (maxL := 2) (ret := (some .boolean)) (by decide) rfl ?_
  intro p e s m args below meth c s₁ B hml hv
  obtain ⟨rfl, hP, hG⟩ := hv
  have hx := B.exec
  have hb := B.bytes
  have hr := B.returns
  have hts := atoms_spec (ws := wsX5_hasBox) B.pre
  have hown : s.vm.findClass RX5 = some m.cls := findClass_of_methodNamed B.named
  have hlocks := B.notSynchronized
  have hK := hG.1
  have hiX5 : ∀ w ∈ u_ws RX5 TX5 8, w ∈ wsX5_hasBox := by decide +kernel
  refine w_entry [(0, .ref a_this), (1, .int p_1)] (Nat.le_of_ble_eq_true rfl) rfl (fun ls hl => ?_)
  rw [f_X5_hasBox] at hf
  refine lv_iload_n hx hb dX5_hasBox_0 rfl (lv_at hl 1 rfl) ?_
  refine lv_if_lt (tgt := 16) hx hb dX5_hasBox_1 (by decide) (fun hc => ?_) (fun hc => ?_)
  · replace hf := (if_pos hc).symm.trans hf
    refine lv_iconst (v := (0 : Int32)) hx hb dX5_hasBox_16 (by decide) ?_
    cases hf
    exact W.zret hx hb hr rfl (fun t ht hW => ⟨rfl, ht⟩) (fun _ h => nomatch h) dX5_hasBox_17
  · replace hf := (if_neg hc).symm.trans hf
    refine lv_iload_n hx hb dX5_hasBox_4 rfl (lv_at hl 1 rfl) ?_
    refine lv_aload_n hx hb dX5_hasBox_5 rfl (lv_at hl 0 rfl) ?_
    refine va_get (D := (dC, dI)) (ci := 5) (v := .int v_this_boxCount) (C := RX5) (T := TX5) (N := 8) hx hb hts hiX5 hown hK hP 0 rfl rfl 6 (by decide) (hts (.fieldLink RX5 48 "SureCount" "boxCount" "I") (by decide +kernel)) (fun _ h9 => h9) rfl dX5_hasBox_6 ?_
    refine lv_icmp_ge (tgt := 16) hx hb dX5_hasBox_9 (by decide) (fun hc => ?_) (fun hc => ?_)
    · replace hf := (if_pos hc).symm.trans hf
      refine lv_iconst (v := (0 : Int32)) hx hb dX5_hasBox_16 (by decide) ?_
      cases hf
      exact W.zret hx hb hr rfl (fun t ht hW => ⟨rfl, ht⟩) (fun _ h => nomatch h) dX5_hasBox_17
    · replace hf := (if_neg hc).symm.trans hf
      refine lv_iconst (v := (1 : Int32)) hx hb dX5_hasBox_12 (by decide) ?_
      refine lv_goto (tgt := 17) hx hb dX5_hasBox_13 (by decide) ?_
      cases hf
      exact W.zret hx hb hr rfl (fun t ht hW => ⟨rfl, ht⟩) (fun _ h => nomatch h) dX5_hasBox_17
def f_X5_canTally (p_1 : Int32) (p_2 : Int32) (p_3 : Int32) (v_this_raceCount : Int32) (v_R_candidates : Int32) : Option (Int32) := Option.bind (f_X5_hasRace p_1 v_this_raceCount) (fun o1 => if o1 = 0 then (some (0 : Int32)) else (gd p_1 5 (Option.bind (f_X2_hasCandidate p_2 v_R_candidates) (fun o3 => if o3 = 0 then (some (0 : Int32)) else (if p_3 = 0 then (some (1 : Int32)) else (if p_3 = (1 : Int32) then (some (1 : Int32)) else (some (0 : Int32))))))))
set_option maxHeartbeats 4000000 in
set_option maxRecDepth 100000 in
theorem c_X5_canTally (l : Launch) (dC : Nat → ClassId) (dI : Nat → Nat → Nat) (cI cZ cR cJ : ClassId) (a_this a_R a_this_races a_this_papers a_this_draws a_this_walk a_this_handTally a_R_wordTally a_R_winsByWord a_R_pairWinner a_R_pairLoser a_R_pairMargin : Nat) (v_this_raceCount : Int32) (v_this_boxCount : Int32) (v_this_isSealed : Int32) (f_this_races : Nat → Option Nat) (v_R_pairs : Int32) (v_R_candidates : Int32) (v_R_seats : Int32) (v_R_size : Int32) (v_R_margin : Int32) (p_1 : Int32) (p_2 : Int32) (p_3 : Int32) (N : Nat) (r0 : Int32) (hR : vp_in p_1 5 → f_this_races p_1.toNatClampNeg = some a_R) (hf : f_X5_canTally p_1 p_2 p_3 v_this_raceCount v_R_candidates = some r0) : Met l yX5_canTally wsX5_canTally ({ frames := 1, cells := 0, slots := 0, locals := 21 } : Room) (va_Pc ([.ref a_this, .int p_1, .int p_2, .int p_3] : List Value) (rdB (dC, dI) [(a_this, .inr (5, [.ref a_this_races, .ref a_this_papers, .ref a_this_draws, .ref a_this_walk, .ref a_this_handTally, .int v_this_raceCount, .int v_this_boxCount, .int v_this_isSealed])), (a_this_races, .inl (cR, 5, .inr (.inr (.inr (.inr f_this_races))))), (a_R, .inr (2, [.ref a_R_wordTally, .ref a_R_winsByWord, .ref a_R_pairWinner, .ref a_R_pairLoser, .ref a_R_pairMargin, .int v_R_pairs, .int v_R_candidates, .int v_R_seats, .int v_R_size, .int v_R_margin]))] (GG dC dI cI cZ cR cJ))) (pqI r0) 0 0 noF := by
  refine Met.ofW (cc := cX5_canTally) (maxL := 4) (ret := (some .boolean)) (by decide) rfl ?_
  intro p e s m args below meth c s₁ B hml hv
  obtain ⟨rfl, hP, hG⟩ := hv
  have hx := B.exec
  have hb := B.bytes
  have hr := B.returns
  have hts := atoms_spec (ws := wsX5_canTally) B.pre
  have hown : s.vm.findClass RX5 = some m.cls := findClass_of_methodNamed B.named
  have hlocks := B.notSynchronized
  have hK := hG.1
  have hiX5 : ∀ w ∈ u_ws RX5 TX5 8, w ∈ wsX5_canTally := by decide +kernel
  refine w_entry [(0, .ref a_this), (1, .int p_1), (2, .int p_2), (3, .int p_3)] (Nat.le_of_ble_eq_true rfl) rfl (fun ls hl => ?_)
  rw [f_X5_canTally] at hf
  refine lv_aload_n hx hb dX5_canTally_0 rfl (lv_at hl 0 rfl) ?_
  refine lv_iload_n hx hb dX5_canTally_1 rfl (lv_at hl 1 rfl) ?_
  obtain ⟨o1, ho1, hf⟩ := Option.bind_eq_some_iff.mp hf
  refine pcI (va_runV (As := [.int p_1]) (rest := []) ⟨hx, hb, hml, hown, hts⟩ (c_X5_hasRace l dC dI cI cZ cR cJ (a_this := a_this) (a_this_races := a_this_races) (a_this_papers := a_this_papers) (a_this_draws := a_this_draws) (a_this_walk := a_this_walk) (a_this_handTally := a_this_handTally) (v_this_raceCount := v_this_raceCount) (v_this_boxCount := v_this_boxCount) (v_this_isSealed := v_this_isSealed) (p_1 := p_1) (r0 := o1) (N := N)  ho1) (cwV 1 hts gX5_canTally_X5_hasRace rfl rfl rfl (by decide +kernel) ⟨Nat.le_of_ble_eq_true rfl, Nat.le_of_ble_eq_true rfl⟩) ⟨rd_blind, va_recv hK hP (ci := 5) (q0 := 0) rfl rfl, rd_pre (hP.sub [0] rfl) hG⟩ rfl rfl hl.1 rfl (lv_room (Nat.le_of_ble_eq_true rfl)) dX5_canTally_2 ⟨Nat.zero_le _, Nat.zero_le _⟩) ?_
  refine lv_if_eq (tgt := 34) hx hb dX5_canTally_5 (by decide) (fun hc => ?_) (fun hc => ?_)
  · replace hf := (if_pos hc).symm.trans hf
    refine lv_iconst (v := (0 : Int32)) hx hb dX5_canTally_34 (by decide) ?_
    cases hf
    exact W.zret hx hb hr rfl (fun t ht hW => ⟨rfl, ht⟩) (fun _ h => nomatch h) dX5_canTally_35
  · replace hf := (if_neg hc).symm.trans hf
    refine lv_aload_n hx hb dX5_canTally_8 rfl (lv_at hl 0 rfl) ?_
    refine va_get (D := (dC, dI)) (ci := 5) (v := .ref a_this_races) (C := RX5) (T := TX5) (N := 8) hx hb hts hiX5 hown hK hP 0 rfl rfl 0 (by decide) (hts (.fieldLink RX5 11 "SureCount" "races" "[LSureCount$Race;") (by decide +kernel)) (fun _ h9 => h9) rfl dX5_canTally_9 ?_
    refine lv_iload_n hx hb dX5_canTally_12 rfl (lv_at hl 1 rfl) ?_
    have hi2 := (gd_some hf).1
    replace hf := (gd_some hf).2
    refine va_aldq hx hb hK hP 1 2 rfl rfl hi2 dX5_canTally_13 ?_
    refine W.eq (g2 := F0 m 14 ls [.ref a_R]) (by rw [hR hi2]; rfl) ?_
    refine lv_iload_n hx hb dX5_canTally_14 rfl (lv_at hl 2 rfl) ?_
    obtain ⟨o3, ho3, hf⟩ := Option.bind_eq_some_iff.mp hf
    refine pcI (va_runV (As := [.int p_2]) (rest := []) ⟨hx, hb, hml, hown, hts⟩ (c_X2_hasCandidate l dC dI cI cZ cR cJ (a_this := a_R) (a_this_wordTally := a_R_wordTally) (a_this_winsByWord := a_R_winsByWord) (a_this_pairWinner := a_R_pairWinner) (a_this_pairLoser := a_R_pairLoser) (a_this_pairMargin := a_R_pairMargin) (v_this_pairs := v_R_pairs) (v_this_candidates := v_R_candidates) (v_this_seats := v_R_seats) (v_this_size := v_R_size) (v_this_margin := v_R_margin) (p_1 := p_2) (r0 := o3) (N := N)  ho3) (cwV 1 hts gX5_canTally_X2_hasCandidate rfl rfl rfl (by decide +kernel) ⟨Nat.le_of_ble_eq_true rfl, Nat.le_of_ble_eq_true rfl⟩) ⟨rd_blind, va_recv hK hP (ci := 2) (q0 := 2) rfl rfl, rd_pre (hP.sub [2] rfl) hG⟩ rfl rfl hl.1 rfl (lv_room (Nat.le_of_ble_eq_true rfl)) dX5_canTally_15 ⟨Nat.zero_le _, Nat.zero_le _⟩) ?_
    refine lv_if_eq (tgt := 34) hx hb dX5_canTally_18 (by decide) (fun hc => ?_) (fun hc => ?_)
    · replace hf := (if_pos hc).symm.trans hf
      refine lv_iconst (v := (0 : Int32)) hx hb dX5_canTally_34 (by decide) ?_
      cases hf
      exact W.zret hx hb hr rfl (fun t ht hW => ⟨rfl, ht⟩) (fun _ h => nomatch h) dX5_canTally_35
    · replace hf := (if_neg hc).symm.trans hf
      refine lv_iload_n hx hb dX5_canTally_21 rfl (lv_at hl 3 rfl) ?_
      refine lv_if_eq (tgt := 30) hx hb dX5_canTally_22 (by decide) (fun hc => ?_) (fun hc => ?_)
      · replace hf := (if_pos hc).symm.trans hf
        refine lv_iconst (v := (1 : Int32)) hx hb dX5_canTally_30 (by decide) ?_
        refine lv_goto (tgt := 35) hx hb dX5_canTally_31 (by decide) ?_
        cases hf
        exact W.zret hx hb hr rfl (fun t ht hW => ⟨rfl, ht⟩) (fun _ h => nomatch h) dX5_canTally_35
      · replace hf := (if_neg hc).symm.trans hf
        refine lv_iload_n hx hb dX5_canTally_25 rfl (lv_at hl 3 rfl) ?_
        refine lv_iconst (v := (1 : Int32)) hx hb dX5_canTally_26 (by decide) ?_
        refine lv_icmp_ne (tgt := 34) hx hb dX5_canTally_27 (by decide) (fun hc => ?_) (fun hc => ?_)
        · replace hf := (if_neg hc).symm.trans hf
          refine lv_iconst (v := (0 : Int32)) hx hb dX5_canTally_34 (by decide) ?_
          cases hf
          exact W.zret hx hb hr rfl (fun t ht hW => ⟨rfl, ht⟩) (fun _ h => nomatch h) dX5_canTally_35
        · replace hf := (if_pos hc).symm.trans hf
          refine lv_iconst (v := (1 : Int32)) hx hb dX5_canTally_30 (by decide) ?_
          refine lv_goto (tgt := 35) hx hb dX5_canTally_31 (by decide) ?_
          cases hf
          exact W.zret hx hb hr rfl (fun t ht hW => ⟨rfl, ht⟩) (fun _ h => nomatch h) dX5_canTally_35
def f_X5_hasRisk (p_1 : Int32) (v_this_isSealed : Int32) (v_R_margin : Int32) : Option (Int32) := if v_this_isSealed = 0 then (some (0 : Int32)) else (gd p_1 5 (if v_R_margin ≤ 0 then (some (0 : Int32)) else (some (1 : Int32))))
set_option maxHeartbeats 4000000 in
set_option maxRecDepth 100000 in
theorem c_X5_hasRisk (l : Launch) (dC : Nat → ClassId) (dI : Nat → Nat → Nat) (cI cZ cR cJ : ClassId) (a_this a_R a_this_races a_this_papers a_this_draws a_this_walk a_this_handTally a_R_wordTally a_R_winsByWord a_R_pairWinner a_R_pairLoser a_R_pairMargin : Nat) (v_this_raceCount : Int32) (v_this_boxCount : Int32) (v_this_isSealed : Int32) (f_this_races : Nat → Option Nat) (v_R_pairs : Int32) (v_R_candidates : Int32) (v_R_seats : Int32) (v_R_size : Int32) (v_R_margin : Int32) (p_1 : Int32) (N : Nat) (r0 : Int32) (hR : vp_in p_1 5 → f_this_races p_1.toNatClampNeg = some a_R) (hf : f_X5_hasRisk p_1 v_this_isSealed v_R_margin = some r0) : Met l yX5_hasRisk wsX5_hasRisk ({ frames := 0, cells := 0, slots := 0, locals := 0 } : Room) (va_Pc ([.ref a_this, .int p_1] : List Value) (rdB (dC, dI) [(a_this, .inr (5, [.ref a_this_races, .ref a_this_papers, .ref a_this_draws, .ref a_this_walk, .ref a_this_handTally, .int v_this_raceCount, .int v_this_boxCount, .int v_this_isSealed])), (a_this_races, .inl (cR, 5, .inr (.inr (.inr (.inr f_this_races))))), (a_R, .inr (2, [.ref a_R_wordTally, .ref a_R_winsByWord, .ref a_R_pairWinner, .ref a_R_pairLoser, .ref a_R_pairMargin, .int v_R_pairs, .int v_R_candidates, .int v_R_seats, .int v_R_size, .int v_R_margin]))] (GG dC dI cI cZ cR cJ))) (pqI r0) 0 0 noF := by
  refine Met.ofW (cc := cX5_hasRisk) (maxL := 2) (ret := (some .boolean)) (by decide) rfl ?_
  intro p e s m args below meth c s₁ B hml hv
  obtain ⟨rfl, hP, hG⟩ := hv
  have hx := B.exec
  have hb := B.bytes
  have hr := B.returns
  have hts := atoms_spec (ws := wsX5_hasRisk) B.pre
  have hown : s.vm.findClass RX5 = some m.cls := findClass_of_methodNamed B.named
  have hlocks := B.notSynchronized
  have hK := hG.1
  have hiX2 : ∀ w ∈ u_ws RX2 TX2 10, w ∈ wsX5_hasRisk := by decide +kernel
  have hiX5 : ∀ w ∈ u_ws RX5 TX5 8, w ∈ wsX5_hasRisk := by decide +kernel
  refine w_entry [(0, .ref a_this), (1, .int p_1)] (Nat.le_of_ble_eq_true rfl) rfl (fun ls hl => ?_)
  rw [f_X5_hasRisk] at hf
  refine lv_aload_n hx hb dX5_hasRisk_0 rfl (lv_at hl 0 rfl) ?_
  refine va_get (D := (dC, dI)) (ci := 5) (v := .int v_this_isSealed) (C := RX5) (T := TX5) (N := 8) hx hb hts hiX5 hown hK hP 0 rfl rfl 7 (by decide) (hts (.fieldLink RX5 51 "SureCount" "isSealed" "Z") (by decide +kernel)) (fun _ h9 => h9) rfl dX5_hasRisk_1 ?_
  refine lv_if_eq (tgt := 23) hx hb dX5_hasRisk_4 (by decide) (fun hc => ?_) (fun hc => ?_)
  · replace hf := (if_pos hc).symm.trans hf
    refine lv_iconst (v := (0 : Int32)) hx hb dX5_hasRisk_23 (by decide) ?_
    cases hf
    exact W.zret hx hb hr rfl (fun t ht hW => ⟨rfl, ht⟩) (fun _ h => nomatch h) dX5_hasRisk_24
  · replace hf := (if_neg hc).symm.trans hf
    refine lv_aload_n hx hb dX5_hasRisk_7 rfl (lv_at hl 0 rfl) ?_
    refine va_get (D := (dC, dI)) (ci := 5) (v := .ref a_this_races) (C := RX5) (T := TX5) (N := 8) hx hb hts hiX5 hown hK hP 0 rfl rfl 0 (by decide) (hts (.fieldLink RX5 11 "SureCount" "races" "[LSureCount$Race;") (by decide +kernel)) (fun _ h9 => h9) rfl dX5_hasRisk_8 ?_
    refine lv_iload_n hx hb dX5_hasRisk_11 rfl (lv_at hl 1 rfl) ?_
    have hi1 := (gd_some hf).1
    replace hf := (gd_some hf).2
    refine va_aldq hx hb hK hP 1 2 rfl rfl hi1 dX5_hasRisk_12 ?_
    refine W.eq (g2 := F0 m 13 ls [.ref a_R]) (by rw [hR hi1]; rfl) ?_
    refine va_getN (D := (dC, dI)) (ci := 2) (v := .int v_R_margin) (C := RX2) (T := TX2) (N := 10) (host := "SureCount") hx hb hts hiX2 hown hK hP 2 rfl rfl 9 (by decide) (va_Nw.use rfl (hG.2.1 (RX5, 132, "SureCount$Race", "margin", "I", "SureCount") (List.mem_of_getElem? (i := 8) rfl))) (fun _ h9 => h9) rfl dX5_hasRisk_13 ?_
    refine lv_if_le (tgt := 23) hx hb dX5_hasRisk_16 (by decide) (fun hc => ?_) (fun hc => ?_)
    · replace hf := (if_pos hc).symm.trans hf
      refine lv_iconst (v := (0 : Int32)) hx hb dX5_hasRisk_23 (by decide) ?_
      cases hf
      exact W.zret hx hb hr rfl (fun t ht hW => ⟨rfl, ht⟩) (fun _ h => nomatch h) dX5_hasRisk_24
    · replace hf := (if_neg hc).symm.trans hf
      refine lv_iconst (v := (1 : Int32)) hx hb dX5_hasRisk_19 (by decide) ?_
      refine lv_goto (tgt := 24) hx hb dX5_hasRisk_20 (by decide) ?_
      cases hf
      exact W.zret hx hb hr rfl (fun t ht hW => ⟨rfl, ht⟩) (fun _ h => nomatch h) dX5_hasRisk_24
def f_X5_isPossible (p_1 : Int32) (v_this_raceCount : Int32) (v_R0_candidates : Int32) (v_R1_candidates : Int32) (v_R2_candidates : Int32) (v_R3_candidates : Int32) (v_R4_candidates : Int32) : Option (Int32) := if v_this_raceCount ≤ (0 : Int32) then (some (1 : Int32)) else (Option.bind (f_X5_markOf p_1 (0 : Int32)) (fun o1 => Option.bind (f_X2_allows o1 v_R0_candidates) (fun o2 => if o2 = 0 then (some (0 : Int32)) else (if v_this_raceCount ≤ (1 : Int32) then (some (1 : Int32)) else (Option.bind (f_X5_markOf p_1 (1 : Int32)) (fun o3 => Option.bind (f_X2_allows o3 v_R1_candidates) (fun o4 => if o4 = 0 then (some (0 : Int32)) else (if v_this_raceCount ≤ (2 : Int32) then (some (1 : Int32)) else (Option.bind (f_X5_markOf p_1 (2 : Int32)) (fun o5 => Option.bind (f_X2_allows o5 v_R2_candidates) (fun o6 => if o6 = 0 then (some (0 : Int32)) else (if v_this_raceCount ≤ (3 : Int32) then (some (1 : Int32)) else (Option.bind (f_X5_markOf p_1 (3 : Int32)) (fun o7 => Option.bind (f_X2_allows o7 v_R3_candidates) (fun o8 => if o8 = 0 then (some (0 : Int32)) else (if v_this_raceCount ≤ (4 : Int32) then (some (1 : Int32)) else (Option.bind (f_X5_markOf p_1 (4 : Int32)) (fun o9 => Option.bind (f_X2_allows o9 v_R4_candidates) (fun o10 => if o10 = 0 then (some (0 : Int32)) else (if v_this_raceCount ≤ (5 : Int32) then (some (1 : Int32)) else (gd (5 : Int32) 5 none)))))))))))))))))))))
set_option maxHeartbeats 4000000 in
set_option maxRecDepth 100000 in
theorem c_X5_isPossible (l : Launch) (dC : Nat → ClassId) (dI : Nat → Nat → Nat) (cI cZ cR cJ : ClassId) (a_this a_R0 a_R1 a_R2 a_R3 a_R4 a_this_races a_this_papers a_this_draws a_this_walk a_this_handTally a_R0_wordTally a_R0_winsByWord a_R0_pairWinner a_R0_pairLoser a_R0_pairMargin a_R1_wordTally a_R1_winsByWord a_R1_pairWinner a_R1_pairLoser a_R1_pairMargin a_R2_wordTally a_R2_winsByWord a_R2_pairWinner a_R2_pairLoser a_R2_pairMargin a_R3_wordTally a_R3_winsByWord a_R3_pairWinner a_R3_pairLoser a_R3_pairMargin a_R4_wordTally a_R4_winsByWord a_R4_pairWinner a_R4_pairLoser a_R4_pairMargin : Nat) (v_this_raceCount : Int32) (v_this_boxCount : Int32) (v_this_isSealed : Int32) (f_this_races : Nat → Option Nat) (v_R0_pairs : Int32) (v_R0_candidates : Int32) (v_R0_seats : Int32) (v_R0_size : Int32) (v_R0_margin : Int32) (v_R1_pairs : Int32) (v_R1_candidates : Int32) (v_R1_seats : Int32) (v_R1_size : Int32) (v_R1_margin : Int32) (v_R2_pairs : Int32) (v_R2_candidates : Int32) (v_R2_seats : Int32) (v_R2_size : Int32) (v_R2_margin : Int32) (v_R3_pairs : Int32) (v_R3_candidates : Int32) (v_R3_seats : Int32) (v_R3_size : Int32) (v_R3_margin : Int32) (v_R4_pairs : Int32) (v_R4_candidates : Int32) (v_R4_seats : Int32) (v_R4_size : Int32) (v_R4_margin : Int32) (p_1 : Int32) (N : Nat) (r0 : Int32) (hR0 : f_this_races 0 = some a_R0) (hR1 : f_this_races 1 = some a_R1) (hR2 : f_this_races 2 = some a_R2) (hR3 : f_this_races 3 = some a_R3) (hR4 : f_this_races 4 = some a_R4) (hf : f_X5_isPossible p_1 v_this_raceCount v_R0_candidates v_R1_candidates v_R2_candidates v_R3_candidates v_R4_candidates = some r0) : Met l yX5_isPossible wsX5_isPossible ({ frames := 1, cells := 0, slots := 0, locals := 21 } : Room) (va_Pc ([.ref a_this, .int p_1] : List Value) (rdB (dC, dI) [(a_this, .inr (5, [.ref a_this_races, .ref a_this_papers, .ref a_this_draws, .ref a_this_walk, .ref a_this_handTally, .int v_this_raceCount, .int v_this_boxCount, .int v_this_isSealed])), (a_this_races, .inl (cR, 5, .inr (.inr (.inr (.inr f_this_races))))), (a_R0, .inr (2, [.ref a_R0_wordTally, .ref a_R0_winsByWord, .ref a_R0_pairWinner, .ref a_R0_pairLoser, .ref a_R0_pairMargin, .int v_R0_pairs, .int v_R0_candidates, .int v_R0_seats, .int v_R0_size, .int v_R0_margin])), (a_R1, .inr (2, [.ref a_R1_wordTally, .ref a_R1_winsByWord, .ref a_R1_pairWinner, .ref a_R1_pairLoser, .ref a_R1_pairMargin, .int v_R1_pairs, .int v_R1_candidates, .int v_R1_seats, .int v_R1_size, .int v_R1_margin])), (a_R2, .inr (2, [.ref a_R2_wordTally, .ref a_R2_winsByWord, .ref a_R2_pairWinner, .ref a_R2_pairLoser, .ref a_R2_pairMargin, .int v_R2_pairs, .int v_R2_candidates, .int v_R2_seats, .int v_R2_size, .int v_R2_margin])), (a_R3, .inr (2, [.ref a_R3_wordTally, .ref a_R3_winsByWord, .ref a_R3_pairWinner, .ref a_R3_pairLoser, .ref a_R3_pairMargin, .int v_R3_pairs, .int v_R3_candidates, .int v_R3_seats, .int v_R3_size, .int v_R3_margin])), (a_R4, .inr (2, [.ref a_R4_wordTally, .ref a_R4_winsByWord, .ref a_R4_pairWinner, .ref a_R4_pairLoser, .ref a_R4_pairMargin, .int v_R4_pairs, .int v_R4_candidates, .int v_R4_seats, .int v_R4_size, .int v_R4_margin]))] (GG dC dI cI cZ cR cJ))) (pqI r0) 0 0 noF := by
  refine Met.ofW (cc := cX5_isPossible) (maxL := 3) (ret := (some .boolean)) (by decide) rfl ?_
  intro p e s m args below meth c s₁ B hml hv
  obtain ⟨rfl, hP, hG⟩ := hv
  have hx := B.exec
  have hb := B.bytes
  have hr := B.returns
  have hts := atoms_spec (ws := wsX5_isPossible) B.pre
  have hown : s.vm.findClass RX5 = some m.cls := findClass_of_methodNamed B.named
  have hlocks := B.notSynchronized
  have hK := hG.1
  have hiX5 : ∀ w ∈ u_ws RX5 TX5 8, w ∈ wsX5_isPossible := by decide +kernel
  refine w_entry [(0, .ref a_this), (1, .int p_1)] (Nat.le_of_ble_eq_true rfl) rfl (fun ls hl => ?_)
  rw [f_X5_isPossible] at hf
  refine lv_iconst (v := (0 : Int32)) hx hb dX5_isPossible_0 (by decide) ?_
  refine lv_istore_n (lv' := [(2, .int (0 : Int32)), (0, .ref a_this), (1, .int p_1)]) hx hb dX5_isPossible_1 rfl hl (by decide) rfl (fun ls hl => ?_)
  refine lv_iload_n hx hb dX5_isPossible_2 rfl (lv_at hl 0 rfl) ?_
  refine lv_aload_n hx hb dX5_isPossible_3 rfl (lv_at hl 1 rfl) ?_
  refine va_get (D := (dC, dI)) (ci := 5) (v := .int v_this_raceCount) (C := RX5) (T := TX5) (N := 8) hx hb hts hiX5 hown hK hP 0 rfl rfl 5 (by decide) (hts (.fieldLink RX5 44 "SureCount" "raceCount" "I") (by decide +kernel)) (fun _ h9 => h9) rfl dX5_isPossible_4 ?_
  refine lv_icmp_ge (tgt := 35) hx hb dX5_isPossible_7 (by decide) (fun hc => ?_) (fun hc => ?_)
  · replace hf := (if_pos hc).symm.trans hf
    refine lv_iconst (v := (1 : Int32)) hx hb dX5_isPossible_35 (by decide) ?_
    cases hf
    exact W.zret hx hb hr rfl (fun t ht hW => ⟨rfl, ht⟩) (fun _ h => nomatch h) dX5_isPossible_36
  · replace hf := (if_neg hc).symm.trans hf
    refine lv_aload_n hx hb dX5_isPossible_10 rfl (lv_at hl 1 rfl) ?_
    refine va_get (D := (dC, dI)) (ci := 5) (v := .ref a_this_races) (C := RX5) (T := TX5) (N := 8) hx hb hts hiX5 hown hK hP 0 rfl rfl 0 (by decide) (hts (.fieldLink RX5 11 "SureCount" "races" "[LSureCount$Race;") (by decide +kernel)) (fun _ h9 => h9) rfl dX5_isPossible_11 ?_
    refine lv_iload_n hx hb dX5_isPossible_14 rfl (lv_at hl 0 rfl) ?_
    refine va_aldq hx hb hK hP 1 2 rfl rfl (show vp_in (0 : Int32) 5 by unfold vp_in; decide) dX5_isPossible_15 ?_
    refine W.eq (g2 := F0 m 16 ls [.ref a_R0]) (by rw [show f_this_races (0 : Int32).toNatClampNeg = some a_R0 from hR0]; rfl) ?_
    refine lv_iload_n hx hb dX5_isPossible_16 rfl (lv_at hl 2 rfl) ?_
    refine lv_iload_n hx hb dX5_isPossible_17 rfl (lv_at hl 0 rfl) ?_
    obtain ⟨o1, ho1, hf⟩ := Option.bind_eq_some_iff.mp hf
    refine pcI (va_runS (As := [.int p_1, .int (0 : Int32)]) (rest := [.ref a_R0]) ⟨hx, hb, hml, hown, hts⟩ (c_X5_markOf l dC dI cI cZ cR cJ (p_0 := p_1) (p_1 := (0 : Int32)) (r0 := o1) (N := N)  ho1) (cwS 2 hts gX5_isPossible_X5_markOf rfl rfl rfl (by decide +kernel) ⟨Nat.le_of_ble_eq_true rfl, Nat.le_of_ble_eq_true rfl⟩) ⟨rd_blind, rd_pre (hP.sub [] rfl) hG⟩ rfl rfl hl.1 rfl (lv_room (Nat.le_of_ble_eq_true rfl)) dX5_isPossible_18 ⟨Nat.zero_le _, Nat.zero_le _⟩) ?_
    obtain ⟨o2, ho2, hf⟩ := Option.bind_eq_some_iff.mp hf
    refine pcI (va_runV (As := [.int o1]) (rest := []) ⟨hx, hb, hml, hown, hts⟩ (c_X2_allows l dC dI cI cZ cR cJ (a_this := a_R0) (a_this_wordTally := a_R0_wordTally) (a_this_winsByWord := a_R0_winsByWord) (a_this_pairWinner := a_R0_pairWinner) (a_this_pairLoser := a_R0_pairLoser) (a_this_pairMargin := a_R0_pairMargin) (v_this_pairs := v_R0_pairs) (v_this_candidates := v_R0_candidates) (v_this_seats := v_R0_seats) (v_this_size := v_R0_size) (v_this_margin := v_R0_margin) (p_1 := o1) (r0 := o2) (N := N)  ho2) (cwV 1 hts gX5_isPossible_X2_allows rfl rfl rfl (by decide +kernel) ⟨Nat.le_of_ble_eq_true rfl, Nat.le_of_ble_eq_true rfl⟩) ⟨rd_blind, va_recv hK hP (ci := 2) (q0 := 2) rfl rfl, rd_pre (hP.sub [2] rfl) hG⟩ rfl rfl hl.1 rfl (lv_room (Nat.le_of_ble_eq_true rfl)) dX5_isPossible_21 ⟨Nat.zero_le _, Nat.zero_le _⟩) ?_
    refine lv_if_ne (tgt := 29) hx hb dX5_isPossible_24 (by decide) (fun hc => ?_) (fun hc => ?_)
    · replace hf := (if_neg hc).symm.trans hf
      refine lv_iinc (v := (1 : Int32)) (lv' := [(2, .int (1 : Int32)), (0, .ref a_this), (1, .int p_1)]) hx hb dX5_isPossible_29 hl (k := 0) rfl (by first | rfl | decide) (by decide) rfl (fun ls hl => ?_)
      refine lv_goto (tgt := 2) hx hb dX5_isPossible_32 (by decide) ?_
      refine lv_iload_n hx hb dX5_isPossible_2 rfl (lv_at hl 0 rfl) ?_
      refine lv_aload_n hx hb dX5_isPossible_3 rfl (lv_at hl 1 rfl) ?_
      refine va_get (D := (dC, dI)) (ci := 5) (v := .int v_this_raceCount) (C := RX5) (T := TX5) (N := 8) hx hb hts hiX5 hown hK hP 0 rfl rfl 5 (by decide) (hts (.fieldLink RX5 44 "SureCount" "raceCount" "I") (by decide +kernel)) (fun _ h9 => h9) rfl dX5_isPossible_4 ?_
      refine lv_icmp_ge (tgt := 35) hx hb dX5_isPossible_7 (by decide) (fun hc => ?_) (fun hc => ?_)
      · replace hf := (if_pos hc).symm.trans hf
        refine lv_iconst (v := (1 : Int32)) hx hb dX5_isPossible_35 (by decide) ?_
        cases hf
        exact W.zret hx hb hr rfl (fun t ht hW => ⟨rfl, ht⟩) (fun _ h => nomatch h) dX5_isPossible_36
      · replace hf := (if_neg hc).symm.trans hf
        refine lv_aload_n hx hb dX5_isPossible_10 rfl (lv_at hl 1 rfl) ?_
        refine va_get (D := (dC, dI)) (ci := 5) (v := .ref a_this_races) (C := RX5) (T := TX5) (N := 8) hx hb hts hiX5 hown hK hP 0 rfl rfl 0 (by decide) (hts (.fieldLink RX5 11 "SureCount" "races" "[LSureCount$Race;") (by decide +kernel)) (fun _ h9 => h9) rfl dX5_isPossible_11 ?_
        refine lv_iload_n hx hb dX5_isPossible_14 rfl (lv_at hl 0 rfl) ?_
        refine va_aldq hx hb hK hP 1 2 rfl rfl (show vp_in (1 : Int32) 5 by unfold vp_in; decide) dX5_isPossible_15 ?_
        refine W.eq (g2 := F0 m 16 ls [.ref a_R1]) (by rw [show f_this_races (1 : Int32).toNatClampNeg = some a_R1 from hR1]; rfl) ?_
        refine lv_iload_n hx hb dX5_isPossible_16 rfl (lv_at hl 2 rfl) ?_
        refine lv_iload_n hx hb dX5_isPossible_17 rfl (lv_at hl 0 rfl) ?_
        obtain ⟨o3, ho3, hf⟩ := Option.bind_eq_some_iff.mp hf
        refine pcI (va_runS (As := [.int p_1, .int (1 : Int32)]) (rest := [.ref a_R1]) ⟨hx, hb, hml, hown, hts⟩ (c_X5_markOf l dC dI cI cZ cR cJ (p_0 := p_1) (p_1 := (1 : Int32)) (r0 := o3) (N := N)  ho3) (cwS 2 hts gX5_isPossible_X5_markOf rfl rfl rfl (by decide +kernel) ⟨Nat.le_of_ble_eq_true rfl, Nat.le_of_ble_eq_true rfl⟩) ⟨rd_blind, rd_pre (hP.sub [] rfl) hG⟩ rfl rfl hl.1 rfl (lv_room (Nat.le_of_ble_eq_true rfl)) dX5_isPossible_18 ⟨Nat.zero_le _, Nat.zero_le _⟩) ?_
        obtain ⟨o4, ho4, hf⟩ := Option.bind_eq_some_iff.mp hf
        refine pcI (va_runV (As := [.int o3]) (rest := []) ⟨hx, hb, hml, hown, hts⟩ (c_X2_allows l dC dI cI cZ cR cJ (a_this := a_R1) (a_this_wordTally := a_R1_wordTally) (a_this_winsByWord := a_R1_winsByWord) (a_this_pairWinner := a_R1_pairWinner) (a_this_pairLoser := a_R1_pairLoser) (a_this_pairMargin := a_R1_pairMargin) (v_this_pairs := v_R1_pairs) (v_this_candidates := v_R1_candidates) (v_this_seats := v_R1_seats) (v_this_size := v_R1_size) (v_this_margin := v_R1_margin) (p_1 := o3) (r0 := o4) (N := N)  ho4) (cwV 1 hts gX5_isPossible_X2_allows rfl rfl rfl (by decide +kernel) ⟨Nat.le_of_ble_eq_true rfl, Nat.le_of_ble_eq_true rfl⟩) ⟨rd_blind, va_recv hK hP (ci := 2) (q0 := 3) rfl rfl, rd_pre (hP.sub [3] rfl) hG⟩ rfl rfl hl.1 rfl (lv_room (Nat.le_of_ble_eq_true rfl)) dX5_isPossible_21 ⟨Nat.zero_le _, Nat.zero_le _⟩) ?_
        refine lv_if_ne (tgt := 29) hx hb dX5_isPossible_24 (by decide) (fun hc => ?_) (fun hc => ?_)
        · replace hf := (if_neg hc).symm.trans hf
          refine lv_iinc (v := (2 : Int32)) (lv' := [(2, .int (2 : Int32)), (0, .ref a_this), (1, .int p_1)]) hx hb dX5_isPossible_29 hl (k := 0) rfl (by first | rfl | decide) (by decide) rfl (fun ls hl => ?_)
          refine lv_goto (tgt := 2) hx hb dX5_isPossible_32 (by decide) ?_
          refine lv_iload_n hx hb dX5_isPossible_2 rfl (lv_at hl 0 rfl) ?_
          refine lv_aload_n hx hb dX5_isPossible_3 rfl (lv_at hl 1 rfl) ?_
          refine va_get (D := (dC, dI)) (ci := 5) (v := .int v_this_raceCount) (C := RX5) (T := TX5) (N := 8) hx hb hts hiX5 hown hK hP 0 rfl rfl 5 (by decide) (hts (.fieldLink RX5 44 "SureCount" "raceCount" "I") (by decide +kernel)) (fun _ h9 => h9) rfl dX5_isPossible_4 ?_
          refine lv_icmp_ge (tgt := 35) hx hb dX5_isPossible_7 (by decide) (fun hc => ?_) (fun hc => ?_)
          · replace hf := (if_pos hc).symm.trans hf
            refine lv_iconst (v := (1 : Int32)) hx hb dX5_isPossible_35 (by decide) ?_
            cases hf
            exact W.zret hx hb hr rfl (fun t ht hW => ⟨rfl, ht⟩) (fun _ h => nomatch h) dX5_isPossible_36
          · replace hf := (if_neg hc).symm.trans hf
            refine lv_aload_n hx hb dX5_isPossible_10 rfl (lv_at hl 1 rfl) ?_
            refine va_get (D := (dC, dI)) (ci := 5) (v := .ref a_this_races) (C := RX5) (T := TX5) (N := 8) hx hb hts hiX5 hown hK hP 0 rfl rfl 0 (by decide) (hts (.fieldLink RX5 11 "SureCount" "races" "[LSureCount$Race;") (by decide +kernel)) (fun _ h9 => h9) rfl dX5_isPossible_11 ?_
            refine lv_iload_n hx hb dX5_isPossible_14 rfl (lv_at hl 0 rfl) ?_
            refine va_aldq hx hb hK hP 1 2 rfl rfl (show vp_in (2 : Int32) 5 by unfold vp_in; decide) dX5_isPossible_15 ?_
            refine W.eq (g2 := F0 m 16 ls [.ref a_R2]) (by rw [show f_this_races (2 : Int32).toNatClampNeg = some a_R2 from hR2]; rfl) ?_
            refine lv_iload_n hx hb dX5_isPossible_16 rfl (lv_at hl 2 rfl) ?_
            refine lv_iload_n hx hb dX5_isPossible_17 rfl (lv_at hl 0 rfl) ?_
            obtain ⟨o5, ho5, hf⟩ := Option.bind_eq_some_iff.mp hf
            refine pcI (va_runS (As := [.int p_1, .int (2 : Int32)]) (rest := [.ref a_R2]) ⟨hx, hb, hml, hown, hts⟩ (c_X5_markOf l dC dI cI cZ cR cJ (p_0 := p_1) (p_1 := (2 : Int32)) (r0 := o5) (N := N)  ho5) (cwS 2 hts gX5_isPossible_X5_markOf rfl rfl rfl (by decide +kernel) ⟨Nat.le_of_ble_eq_true rfl, Nat.le_of_ble_eq_true rfl⟩) ⟨rd_blind, rd_pre (hP.sub [] rfl) hG⟩ rfl rfl hl.1 rfl (lv_room (Nat.le_of_ble_eq_true rfl)) dX5_isPossible_18 ⟨Nat.zero_le _, Nat.zero_le _⟩) ?_
            obtain ⟨o6, ho6, hf⟩ := Option.bind_eq_some_iff.mp hf
            refine pcI (va_runV (As := [.int o5]) (rest := []) ⟨hx, hb, hml, hown, hts⟩ (c_X2_allows l dC dI cI cZ cR cJ (a_this := a_R2) (a_this_wordTally := a_R2_wordTally) (a_this_winsByWord := a_R2_winsByWord) (a_this_pairWinner := a_R2_pairWinner) (a_this_pairLoser := a_R2_pairLoser) (a_this_pairMargin := a_R2_pairMargin) (v_this_pairs := v_R2_pairs) (v_this_candidates := v_R2_candidates) (v_this_seats := v_R2_seats) (v_this_size := v_R2_size) (v_this_margin := v_R2_margin) (p_1 := o5) (r0 := o6) (N := N)  ho6) (cwV 1 hts gX5_isPossible_X2_allows rfl rfl rfl (by decide +kernel) ⟨Nat.le_of_ble_eq_true rfl, Nat.le_of_ble_eq_true rfl⟩) ⟨rd_blind, va_recv hK hP (ci := 2) (q0 := 4) rfl rfl, rd_pre (hP.sub [4] rfl) hG⟩ rfl rfl hl.1 rfl (lv_room (Nat.le_of_ble_eq_true rfl)) dX5_isPossible_21 ⟨Nat.zero_le _, Nat.zero_le _⟩) ?_
            refine lv_if_ne (tgt := 29) hx hb dX5_isPossible_24 (by decide) (fun hc => ?_) (fun hc => ?_)
            · replace hf := (if_neg hc).symm.trans hf
              refine lv_iinc (v := (3 : Int32)) (lv' := [(2, .int (3 : Int32)), (0, .ref a_this), (1, .int p_1)]) hx hb dX5_isPossible_29 hl (k := 0) rfl (by first | rfl | decide) (by decide) rfl (fun ls hl => ?_)
              refine lv_goto (tgt := 2) hx hb dX5_isPossible_32 (by decide) ?_
              refine lv_iload_n hx hb dX5_isPossible_2 rfl (lv_at hl 0 rfl) ?_
              refine lv_aload_n hx hb dX5_isPossible_3 rfl (lv_at hl 1 rfl) ?_
              refine va_get (D := (dC, dI)) (ci := 5) (v := .int v_this_raceCount) (C := RX5) (T := TX5) (N := 8) hx hb hts hiX5 hown hK hP 0 rfl rfl 5 (by decide) (hts (.fieldLink RX5 44 "SureCount" "raceCount" "I") (by decide +kernel)) (fun _ h9 => h9) rfl dX5_isPossible_4 ?_
              refine lv_icmp_ge (tgt := 35) hx hb dX5_isPossible_7 (by decide) (fun hc => ?_) (fun hc => ?_)
              · replace hf := (if_pos hc).symm.trans hf
                refine lv_iconst (v := (1 : Int32)) hx hb dX5_isPossible_35 (by decide) ?_
                cases hf
                exact W.zret hx hb hr rfl (fun t ht hW => ⟨rfl, ht⟩) (fun _ h => nomatch h) dX5_isPossible_36
              · replace hf := (if_neg hc).symm.trans hf
                refine lv_aload_n hx hb dX5_isPossible_10 rfl (lv_at hl 1 rfl) ?_
                refine va_get (D := (dC, dI)) (ci := 5) (v := .ref a_this_races) (C := RX5) (T := TX5) (N := 8) hx hb hts hiX5 hown hK hP 0 rfl rfl 0 (by decide) (hts (.fieldLink RX5 11 "SureCount" "races" "[LSureCount$Race;") (by decide +kernel)) (fun _ h9 => h9) rfl dX5_isPossible_11 ?_
                refine lv_iload_n hx hb dX5_isPossible_14 rfl (lv_at hl 0 rfl) ?_
                refine va_aldq hx hb hK hP 1 2 rfl rfl (show vp_in (3 : Int32) 5 by unfold vp_in; decide) dX5_isPossible_15 ?_
                refine W.eq (g2 := F0 m 16 ls [.ref a_R3]) (by rw [show f_this_races (3 : Int32).toNatClampNeg = some a_R3 from hR3]; rfl) ?_
                refine lv_iload_n hx hb dX5_isPossible_16 rfl (lv_at hl 2 rfl) ?_
                refine lv_iload_n hx hb dX5_isPossible_17 rfl (lv_at hl 0 rfl) ?_
                obtain ⟨o7, ho7, hf⟩ := Option.bind_eq_some_iff.mp hf
                refine pcI (va_runS (As := [.int p_1, .int (3 : Int32)]) (rest := [.ref a_R3]) ⟨hx, hb, hml, hown, hts⟩ (c_X5_markOf l dC dI cI cZ cR cJ (p_0 := p_1) (p_1 := (3 : Int32)) (r0 := o7) (N := N)  ho7) (cwS 2 hts gX5_isPossible_X5_markOf rfl rfl rfl (by decide +kernel) ⟨Nat.le_of_ble_eq_true rfl, Nat.le_of_ble_eq_true rfl⟩) ⟨rd_blind, rd_pre (hP.sub [] rfl) hG⟩ rfl rfl hl.1 rfl (lv_room (Nat.le_of_ble_eq_true rfl)) dX5_isPossible_18 ⟨Nat.zero_le _, Nat.zero_le _⟩) ?_
                obtain ⟨o8, ho8, hf⟩ := Option.bind_eq_some_iff.mp hf
                refine pcI (va_runV (As := [.int o7]) (rest := []) ⟨hx, hb, hml, hown, hts⟩ (c_X2_allows l dC dI cI cZ cR cJ (a_this := a_R3) (a_this_wordTally := a_R3_wordTally) (a_this_winsByWord := a_R3_winsByWord) (a_this_pairWinner := a_R3_pairWinner) (a_this_pairLoser := a_R3_pairLoser) (a_this_pairMargin := a_R3_pairMargin) (v_this_pairs := v_R3_pairs) (v_this_candidates := v_R3_candidates) (v_this_seats := v_R3_seats) (v_this_size := v_R3_size) (v_this_margin := v_R3_margin) (p_1 := o7) (r0 := o8) (N := N)  ho8) (cwV 1 hts gX5_isPossible_X2_allows rfl rfl rfl (by decide +kernel) ⟨Nat.le_of_ble_eq_true rfl, Nat.le_of_ble_eq_true rfl⟩) ⟨rd_blind, va_recv hK hP (ci := 2) (q0 := 5) rfl rfl, rd_pre (hP.sub [5] rfl) hG⟩ rfl rfl hl.1 rfl (lv_room (Nat.le_of_ble_eq_true rfl)) dX5_isPossible_21 ⟨Nat.zero_le _, Nat.zero_le _⟩) ?_
                refine lv_if_ne (tgt := 29) hx hb dX5_isPossible_24 (by decide) (fun hc => ?_) (fun hc => ?_)
                · replace hf := (if_neg hc).symm.trans hf
                  refine lv_iinc (v := (4 : Int32)) (lv' := [(2, .int (4 : Int32)), (0, .ref a_this), (1, .int p_1)]) hx hb dX5_isPossible_29 hl (k := 0) rfl (by first | rfl | decide) (by decide) rfl (fun ls hl => ?_)
                  refine lv_goto (tgt := 2) hx hb dX5_isPossible_32 (by decide) ?_
                  refine lv_iload_n hx hb dX5_isPossible_2 rfl (lv_at hl 0 rfl) ?_
                  refine lv_aload_n hx hb dX5_isPossible_3 rfl (lv_at hl 1 rfl) ?_
                  refine va_get (D := (dC, dI)) (ci := 5) (v := .int v_this_raceCount) (C := RX5) (T := TX5) (N := 8) hx hb hts hiX5 hown hK hP 0 rfl rfl 5 (by decide) (hts (.fieldLink RX5 44 "SureCount" "raceCount" "I") (by decide +kernel)) (fun _ h9 => h9) rfl dX5_isPossible_4 ?_
                  refine lv_icmp_ge (tgt := 35) hx hb dX5_isPossible_7 (by decide) (fun hc => ?_) (fun hc => ?_)
                  · replace hf := (if_pos hc).symm.trans hf
                    refine lv_iconst (v := (1 : Int32)) hx hb dX5_isPossible_35 (by decide) ?_
                    cases hf
                    exact W.zret hx hb hr rfl (fun t ht hW => ⟨rfl, ht⟩) (fun _ h => nomatch h) dX5_isPossible_36
                  · replace hf := (if_neg hc).symm.trans hf
                    refine lv_aload_n hx hb dX5_isPossible_10 rfl (lv_at hl 1 rfl) ?_
                    refine va_get (D := (dC, dI)) (ci := 5) (v := .ref a_this_races) (C := RX5) (T := TX5) (N := 8) hx hb hts hiX5 hown hK hP 0 rfl rfl 0 (by decide) (hts (.fieldLink RX5 11 "SureCount" "races" "[LSureCount$Race;") (by decide +kernel)) (fun _ h9 => h9) rfl dX5_isPossible_11 ?_
                    refine lv_iload_n hx hb dX5_isPossible_14 rfl (lv_at hl 0 rfl) ?_
                    refine va_aldq hx hb hK hP 1 2 rfl rfl (show vp_in (4 : Int32) 5 by unfold vp_in; decide) dX5_isPossible_15 ?_
                    refine W.eq (g2 := F0 m 16 ls [.ref a_R4]) (by rw [show f_this_races (4 : Int32).toNatClampNeg = some a_R4 from hR4]; rfl) ?_
                    refine lv_iload_n hx hb dX5_isPossible_16 rfl (lv_at hl 2 rfl) ?_
                    refine lv_iload_n hx hb dX5_isPossible_17 rfl (lv_at hl 0 rfl) ?_
                    obtain ⟨o9, ho9, hf⟩ := Option.bind_eq_some_iff.mp hf
                    refine pcI (va_runS (As := [.int p_1, .int (4 : Int32)]) (rest := [.ref a_R4]) ⟨hx, hb, hml, hown, hts⟩ (c_X5_markOf l dC dI cI cZ cR cJ (p_0 := p_1) (p_1 := (4 : Int32)) (r0 := o9) (N := N)  ho9) (cwS 2 hts gX5_isPossible_X5_markOf rfl rfl rfl (by decide +kernel) ⟨Nat.le_of_ble_eq_true rfl, Nat.le_of_ble_eq_true rfl⟩) ⟨rd_blind, rd_pre (hP.sub [] rfl) hG⟩ rfl rfl hl.1 rfl (lv_room (Nat.le_of_ble_eq_true rfl)) dX5_isPossible_18 ⟨Nat.zero_le _, Nat.zero_le _⟩) ?_
                    obtain ⟨o10, ho10, hf⟩ := Option.bind_eq_some_iff.mp hf
                    refine pcI (va_runV (As := [.int o9]) (rest := []) ⟨hx, hb, hml, hown, hts⟩ (c_X2_allows l dC dI cI cZ cR cJ (a_this := a_R4) (a_this_wordTally := a_R4_wordTally) (a_this_winsByWord := a_R4_winsByWord) (a_this_pairWinner := a_R4_pairWinner) (a_this_pairLoser := a_R4_pairLoser) (a_this_pairMargin := a_R4_pairMargin) (v_this_pairs := v_R4_pairs) (v_this_candidates := v_R4_candidates) (v_this_seats := v_R4_seats) (v_this_size := v_R4_size) (v_this_margin := v_R4_margin) (p_1 := o9) (r0 := o10) (N := N)  ho10) (cwV 1 hts gX5_isPossible_X2_allows rfl rfl rfl (by decide +kernel) ⟨Nat.le_of_ble_eq_true rfl, Nat.le_of_ble_eq_true rfl⟩) ⟨rd_blind, va_recv hK hP (ci := 2) (q0 := 6) rfl rfl, rd_pre (hP.sub [6] rfl) hG⟩ rfl rfl hl.1 rfl (lv_room (Nat.le_of_ble_eq_true rfl)) dX5_isPossible_21 ⟨Nat.zero_le _, Nat.zero_le _⟩) ?_
                    refine lv_if_ne (tgt := 29) hx hb dX5_isPossible_24 (by decide) (fun hc => ?_) (fun hc => ?_)
                    · replace hf := (if_neg hc).symm.trans hf
                      refine lv_iinc (v := (5 : Int32)) (lv' := [(2, .int (5 : Int32)), (0, .ref a_this), (1, .int p_1)]) hx hb dX5_isPossible_29 hl (k := 0) rfl (by first | rfl | decide) (by decide) rfl (fun ls hl => ?_)
                      refine lv_goto (tgt := 2) hx hb dX5_isPossible_32 (by decide) ?_
                      refine lv_iload_n hx hb dX5_isPossible_2 rfl (lv_at hl 0 rfl) ?_
                      refine lv_aload_n hx hb dX5_isPossible_3 rfl (lv_at hl 1 rfl) ?_
                      refine va_get (D := (dC, dI)) (ci := 5) (v := .int v_this_raceCount) (C := RX5) (T := TX5) (N := 8) hx hb hts hiX5 hown hK hP 0 rfl rfl 5 (by decide) (hts (.fieldLink RX5 44 "SureCount" "raceCount" "I") (by decide +kernel)) (fun _ h9 => h9) rfl dX5_isPossible_4 ?_
                      refine lv_icmp_ge (tgt := 35) hx hb dX5_isPossible_7 (by decide) (fun hc => ?_) (fun hc => ?_)
                      · replace hf := (if_pos hc).symm.trans hf
                        refine lv_iconst (v := (1 : Int32)) hx hb dX5_isPossible_35 (by decide) ?_
                        cases hf
                        exact W.zret hx hb hr rfl (fun t ht hW => ⟨rfl, ht⟩) (fun _ h => nomatch h) dX5_isPossible_36
                      · replace hf := (if_neg hc).symm.trans hf
                        refine lv_aload_n hx hb dX5_isPossible_10 rfl (lv_at hl 1 rfl) ?_
                        refine va_get (D := (dC, dI)) (ci := 5) (v := .ref a_this_races) (C := RX5) (T := TX5) (N := 8) hx hb hts hiX5 hown hK hP 0 rfl rfl 0 (by decide) (hts (.fieldLink RX5 11 "SureCount" "races" "[LSureCount$Race;") (by decide +kernel)) (fun _ h9 => h9) rfl dX5_isPossible_11 ?_
                        refine lv_iload_n hx hb dX5_isPossible_14 rfl (lv_at hl 0 rfl) ?_
                        exact absurd (gd_some hf).1 (by unfold vp_in; decide)
                    · replace hf := (if_pos hc).symm.trans hf
                      refine lv_iconst (v := (0 : Int32)) hx hb dX5_isPossible_27 (by decide) ?_
                      cases hf
                      exact W.zret hx hb hr rfl (fun t ht hW => ⟨rfl, ht⟩) (fun _ h => nomatch h) dX5_isPossible_28
                · replace hf := (if_pos hc).symm.trans hf
                  refine lv_iconst (v := (0 : Int32)) hx hb dX5_isPossible_27 (by decide) ?_
                  cases hf
                  exact W.zret hx hb hr rfl (fun t ht hW => ⟨rfl, ht⟩) (fun _ h => nomatch h) dX5_isPossible_28
            · replace hf := (if_pos hc).symm.trans hf
              refine lv_iconst (v := (0 : Int32)) hx hb dX5_isPossible_27 (by decide) ?_
              cases hf
              exact W.zret hx hb hr rfl (fun t ht hW => ⟨rfl, ht⟩) (fun _ h => nomatch h) dX5_isPossible_28
        · replace hf := (if_pos hc).symm.trans hf
          refine lv_iconst (v := (0 : Int32)) hx hb dX5_isPossible_27 (by decide) ?_
          cases hf
          exact W.zret hx hb hr rfl (fun t ht hW => ⟨rfl, ht⟩) (fun _ h => nomatch h) dX5_isPossible_28
    · replace hf := (if_pos hc).symm.trans hf
      refine lv_iconst (v := (0 : Int32)) hx hb dX5_isPossible_27 (by decide) ?_
      cases hf
      exact W.zret hx hb hr rfl (fun t ht hW => ⟨rfl, ht⟩) (fun _ h => nomatch h) dX5_isPossible_28
def f_X5_waits (N : Nat) (v_this_draws_size : Int32) (f_this_draws_paperOf : Nat → Int32) (f_this_papers_isLost : Nat → Int32) (f_this_papers_handsOf : Nat → Int32) : Option (Int32) := Option.bind (f_X0_settled N v_this_draws_size f_this_draws_paperOf f_this_papers_isLost f_this_papers_handsOf) (fun o1 => if v_this_draws_size ≤ o1 then (some (-1 : Int32)) else (some o1))
set_option maxHeartbeats 4000000 in
set_option maxRecDepth 100000 in
theorem c_X5_waits (l : Launch) (dC : Nat → ClassId) (dI : Nat → Nat → Nat) (cI cZ cR cJ : ClassId) (a_this a_this_races a_this_papers a_this_draws a_this_walk a_this_handTally a_this_draws_paperOf a_this_papers_boxOf a_this_papers_wordOf a_this_papers_isLost a_this_papers_wasDrawn a_this_papers_handsOf a_this_papers_handWords : Nat) (v_this_raceCount : Int32) (v_this_boxCount : Int32) (v_this_isSealed : Int32) (v_this_draws_size : Int32) (v_this_draws_dice : Int64) (f_this_draws_paperOf : Nat → Int32) (v_this_papers_size : Int32) (f_this_papers_isLost : Nat → Int32) (f_this_papers_handsOf : Nat → Int32) (N : Nat) (r0 : Int32) (hf : f_X5_waits N v_this_draws_size f_this_draws_paperOf f_this_papers_isLost f_this_papers_handsOf = some r0) : Met l yX5_waits wsX5_waits ({ frames := 3, cells := 0, slots := 0, locals := 64 } : Room) (va_Pc ([.ref a_this] : List Value) (rdB (dC, dI) [(a_this, .inr (5, [.ref a_this_races, .ref a_this_papers, .ref a_this_draws, .ref a_this_walk, .ref a_this_handTally, .int v_this_raceCount, .int v_this_boxCount, .int v_this_isSealed])), (a_this_draws, .inr (0, [.ref a_this_draws_paperOf, .int v_this_draws_size, .long v_this_draws_dice])), (a_this_draws_paperOf, .inl (cI, 2000, .inl f_this_draws_paperOf)), (a_this_papers, .inr (1, [.ref a_this_papers_boxOf, .ref a_this_papers_wordOf, .ref a_this_papers_isLost, .ref a_this_papers_wasDrawn, .ref a_this_papers_handsOf, .ref a_this_papers_handWords, .int v_this_papers_size])), (a_this_papers_isLost, .inl (cZ, 300, .inl f_this_papers_isLost)), (a_this_papers_handsOf, .inl (cI, 300, .inl f_this_papers_handsOf))] (GG dC dI cI cZ cR cJ))) (pqI r0) 0 0 noF := by
  refine Met.ofW (cc := cX5_waits) (maxL := 2) (ret := (some .int)) (by decide) rfl ?_
  intro p e s m args below meth c s₁ B hml hv
  obtain ⟨rfl, hP, hG⟩ := hv
  have hx := B.exec
  have hb := B.bytes
  have hr := B.returns
  have hts := atoms_spec (ws := wsX5_waits) B.pre
  have hown : s.vm.findClass RX5 = some m.cls := findClass_of_methodNamed B.named
  have hlocks := B.notSynchronized
  have hK := hG.1
  have hiX0 : ∀ w ∈ u_ws RX0 TX0 3, w ∈ wsX5_waits := by decide +kernel
  have hiX5 : ∀ w ∈ u_ws RX5 TX5 8, w ∈ wsX5_waits := by decide +kernel
  refine w_entry [(0, .ref a_this)] (Nat.le_of_ble_eq_true rfl) rfl (fun ls hl => ?_)
  rw [f_X5_waits] at hf
  refine lv_aload_n hx hb dX5_waits_0 rfl (lv_at hl 0 rfl) ?_
  refine va_get (D := (dC, dI)) (ci := 5) (v := .ref a_this_draws) (C := RX5) (T := TX5) (N := 8) hx hb hts hiX5 hown hK hP 0 rfl rfl 2 (by decide) (hts (.fieldLink RX5 26 "SureCount" "draws" "LSureCount$Draws;") (by decide +kernel)) (fun _ h9 => h9) rfl dX5_waits_1 ?_
  refine lv_aload_n hx hb dX5_waits_4 rfl (lv_at hl 0 rfl) ?_
  refine va_get (D := (dC, dI)) (ci := 5) (v := .ref a_this_papers) (C := RX5) (T := TX5) (N := 8) hx hb hts hiX5 hown hK hP 0 rfl rfl 1 (by decide) (hts (.fieldLink RX5 19 "SureCount" "papers" "LSureCount$Papers;") (by decide +kernel)) (fun _ h9 => h9) rfl dX5_waits_5 ?_
  obtain ⟨o1, ho1, hf⟩ := Option.bind_eq_some_iff.mp hf
  refine pcI (va_runV (As := [.ref a_this_papers]) (rest := []) ⟨hx, hb, hml, hown, hts⟩ (c_X0_settled l dC dI cI cZ cR cJ (a_this := a_this_draws) (a_this_paperOf := a_this_draws_paperOf) (a_q1 := a_this_papers) (a_q1_boxOf := a_this_papers_boxOf) (a_q1_wordOf := a_this_papers_wordOf) (a_q1_isLost := a_this_papers_isLost) (a_q1_wasDrawn := a_this_papers_wasDrawn) (a_q1_handsOf := a_this_papers_handsOf) (a_q1_handWords := a_this_papers_handWords) (v_this_size := v_this_draws_size) (v_this_dice := v_this_draws_dice) (f_this_paperOf := f_this_draws_paperOf) (v_q1_size := v_this_papers_size) (f_q1_isLost := f_this_papers_isLost) (f_q1_handsOf := f_this_papers_handsOf) (r0 := o1) (N := N)  ho1) (cwV 1 hts gX5_waits_X0_settled rfl rfl rfl (by decide +kernel) ⟨Nat.le_of_ble_eq_true rfl, Nat.le_of_ble_eq_true rfl⟩) ⟨rd_blind, va_recv hK hP (ci := 0) (q0 := 1) rfl rfl, rd_pre (hP.sub [1, 2, 3, 4, 5] rfl) hG⟩ rfl rfl hl.1 rfl (lv_room (Nat.le_of_ble_eq_true rfl)) dX5_waits_8 ⟨Nat.zero_le _, Nat.zero_le _⟩) ?_
  refine lv_istore_n (lv' := [(1, .int o1), (0, .ref a_this)]) hx hb dX5_waits_11 rfl hl (by decide) rfl (fun ls hl => ?_)
  refine lv_iload_n hx hb dX5_waits_12 rfl (lv_at hl 0 rfl) ?_
  refine lv_aload_n hx hb dX5_waits_13 rfl (lv_at hl 1 rfl) ?_
  refine va_get (D := (dC, dI)) (ci := 5) (v := .ref a_this_draws) (C := RX5) (T := TX5) (N := 8) hx hb hts hiX5 hown hK hP 0 rfl rfl 2 (by decide) (hts (.fieldLink RX5 26 "SureCount" "draws" "LSureCount$Draws;") (by decide +kernel)) (fun _ h9 => h9) rfl dX5_waits_14 ?_
  refine va_getN (D := (dC, dI)) (ci := 0) (v := .int v_this_draws_size) (C := RX0) (T := TX0) (N := 3) (host := "SureCount") hx hb hts hiX0 hown hK hP 1 rfl rfl 1 (by decide) (va_Nw.use rfl (hG.2.1 (RX5, 148, "SureCount$Draws", "size", "I", "SureCount") (List.mem_of_getElem? (i := 17) rfl))) (fun _ h9 => h9) rfl dX5_waits_17 ?_
  refine lv_icmp_ge (tgt := 27) hx hb dX5_waits_20 (by decide) (fun hc => ?_) (fun hc => ?_)
  · replace hf := (if_pos hc).symm.trans hf
    refine lv_iconst (v := (-1 : Int32)) hx hb dX5_waits_27 (by decide) ?_
    cases hf
    exact W.iret hx hb hr (fun t ht hW => ⟨rfl, ht⟩) (fun _ h => nomatch h) dX5_waits_28
  · replace hf := (if_neg hc).symm.trans hf
    refine lv_iload_n hx hb dX5_waits_23 rfl (lv_at hl 0 rfl) ?_
    refine lv_goto (tgt := 28) hx hb dX5_waits_24 (by decide) ?_
    cases hf
    exact W.iret hx hb hr (fun t ht hW => ⟨rfl, ht⟩) (fun _ h => nomatch h) dX5_waits_28
