def f_X6_of (p_0 : Int32) (p_1 : Int32) : Option (Int32) := some ((p_0 >>> (((3 : Int32) * p_1) &&& 31)) &&& (7 : Int32))
set_option maxHeartbeats 4000000 in
set_option maxRecDepth 100000 in
theorem c_X6_of (l : Launch) (dC : Nat → ClassId) (dI : Nat → Nat → Nat) (cI cZ cR cJ : ClassId) (p_0 : Int32) (p_1 : Int32) (N : Nat) (r0 : Int32) (hf : f_X6_of p_0 p_1 = some r0) : Met l yX6_of wsX6_of ({ frames := 0, cells := 0, slots := 0, locals := 0 } : Room) (va_Pc ([.int p_0, .int p_1] : List Value) (rdB (dC, dI) [] (GG dC dI cI cZ cR cJ))) (pqI r0) 0 0 noF := by
  refine Met.ofW (cc := cX6_of) (maxL := 2) (ret := (some .int)) (by decide) rfl ?_
  intro p e s m args below meth c s₁ B hml hv
  obtain ⟨rfl, hP, hG⟩ := hv
  have hx := B.exec
  have hb := B.bytes
  have hr := B.returns
  have hts := atoms_spec (ws := wsX6_of) B.pre
  have hown : s.vm.findClass RX6 = some m.cls := findClass_of_methodNamed B.named
  have hlocks := B.notSynchronized
  have hK := hG.1
  refine w_entry [(0, .int p_0), (1, .int p_1)] (Nat.le_of_ble_eq_true rfl) rfl (fun ls hl => ?_)
  rw [f_X6_of] at hf
  refine lv_iload_n hx hb dX6_of_0 rfl (lv_at hl 0 rfl) ?_
  refine lv_iconst (v := (3 : Int32)) hx hb dX6_of_1 (by decide) ?_
  refine lv_iload_n hx hb dX6_of_2 rfl (lv_at hl 1 rfl) ?_
  refine lv_imul hx hb dX6_of_3 ?_
  refine lv_ishr hx hb dX6_of_4 ?_
  refine lv_bipush (v := (7 : Int32)) hx hb dX6_of_5 (by decide) ?_
  refine lv_iand hx hb dX6_of_7 ?_
  cases hf
  exact W.iret hx hb hr (fun t ht hW => ⟨rfl, ht⟩) (fun _ h => nomatch h) dX6_of_8
def f_X6_thrown (v_this_thrown : Int32) : Option (Int32) := some v_this_thrown
set_option maxHeartbeats 4000000 in
set_option maxRecDepth 100000 in
theorem c_X6_thrown (l : Launch) (dC : Nat → ClassId) (dI : Nat → Nat → Nat) (cI cZ cR cJ : ClassId) (a_this a_this_candidates a_this_winners a_this_boxOf a_this_word a_this_drawn a_this_isLost a_this_hasRead a_this_hand a_this_votes a_this_isWinner : Nat) (v_this_thrown : Int32) (v_this_races : Int32) (v_this_boxes : Int32) (v_this_papers : Int32) (v_this_draws : Int32) (v_this_isSealed : Int32) (v_this_state : Int64) (v_this_margin : Int32) (v_this_having : Int32) (v_this_x : Int32) (v_this_m : Int32) (v_this_took : Int32) (N : Nat) (r0 : Int32) (hf : f_X6_thrown v_this_thrown = some r0) : Met l yX6_thrown wsX6_thrown ({ frames := 0, cells := 0, slots := 0, locals := 0 } : Room) (va_Pc ([.ref a_this] : List Value) (rdB (dC, dI) [(a_this, .inr (6, [.int v_this_thrown, .int v_this_races, .int v_this_boxes, .int v_this_papers, .int v_this_draws, .ref a_this_candidates, .ref a_this_winners, .ref a_this_boxOf, .ref a_this_word, .ref a_this_drawn, .ref a_this_isLost, .ref a_this_hasRead, .ref a_this_hand, .int v_this_isSealed, .long v_this_state, .ref a_this_votes, .ref a_this_isWinner, .int v_this_margin, .int v_this_having, .int v_this_x, .int v_this_m, .int v_this_took]))] (GG dC dI cI cZ cR cJ))) (pqI r0) 0 0 noF := by
  refine Met.ofW (cc := cX6_thrown) (maxL := 1) (ret := (some .int)) (by decide) rfl ?_
  intro p e s m args below meth c s₁ B hml hv
  obtain ⟨rfl, hP, hG⟩ := hv
  have hx := B.exec
  have hb := B.bytes
  have hr := B.returns
  have hts := atoms_spec (ws := wsX6_thrown) B.pre
  have hown : s.vm.findClass RX6 = some m.cls := findClass_of_methodNamed B.named
  have hlocks := B.notSynchronized
  have hK := hG.1
  have hiX6 : ∀ w ∈ u_ws RX6 TX6 22, w ∈ wsX6_thrown := by decide +kernel
  refine w_entry [(0, .ref a_this)] (Nat.le_of_ble_eq_true rfl) rfl (fun ls hl => ?_)
  rw [f_X6_thrown] at hf
  refine lv_aload_n hx hb dX6_thrown_0 rfl (lv_at hl 0 rfl) ?_
  refine va_get (D := (dC, dI)) (ci := 6) (v := .int v_this_thrown) (C := RX6) (T := TX6) (N := 22) hx hb hts hiX6 hown hK hP 0 rfl rfl 0 (by decide) (hts (.fieldLink RX6 41 "SureCountModel" "thrown" "I") (by decide +kernel)) (fun _ h9 => h9) rfl dX6_thrown_1 ?_
  cases hf
  exact W.iret hx hb hr (fun t ht hW => ⟨rfl, ht⟩) (fun _ h => nomatch h) dX6_thrown_4
def f_X6_isWord_L4 (p_1 : Int32) (v_this_races : Int32) (f_this_candidates : Nat → Int32)  : Nat → Int32 → Int32 → Option (Int32)
  | 0, _, _ => none
  | n4 + 1, x_2, x_3 => if v_this_races ≤ x_3 then (gb x_2 (some x_2)) else (if x_2 = 0 then (f_X6_isWord_L4 p_1 v_this_races f_this_candidates n4 (0 : Int32) (x_3 + (1 : Int32))) else (Option.bind (f_X6_of p_1 x_3) (fun o2 => gd x_3 5 (if o2 ≤ (f_this_candidates x_3.toNatClampNeg) then (f_X6_isWord_L4 p_1 v_this_races f_this_candidates n4 (1 : Int32) (x_3 + (1 : Int32))) else (Option.bind (f_X6_of p_1 x_3) (fun o4 => if o4 = (7 : Int32) then (f_X6_isWord_L4 p_1 v_this_races f_this_candidates n4 (1 : Int32) (x_3 + (1 : Int32))) else (f_X6_isWord_L4 p_1 v_this_races f_this_candidates n4 (0 : Int32) (x_3 + (1 : Int32)))))))))
def f_X6_isWord (N : Nat) (p_1 : Int32) (v_this_races : Int32) (f_this_candidates : Nat → Int32) : Option (Int32) := f_X6_isWord_L4 p_1 v_this_races f_this_candidates  N (1 : Int32) (0 : Int32)
set_option maxHeartbeats 4000000 in
set_option maxRecDepth 100000 in
theorem c_X6_isWord (l : Launch) (dC : Nat → ClassId) (dI : Nat → Nat → Nat) (cI cZ cR cJ : ClassId) (a_this a_this_candidates a_this_winners a_this_boxOf a_this_word a_this_drawn a_this_isLost a_this_hasRead a_this_hand a_this_votes a_this_isWinner : Nat) (v_this_thrown : Int32) (v_this_races : Int32) (v_this_boxes : Int32) (v_this_papers : Int32) (v_this_draws : Int32) (v_this_isSealed : Int32) (v_this_state : Int64) (v_this_margin : Int32) (v_this_having : Int32) (v_this_x : Int32) (v_this_m : Int32) (v_this_took : Int32) (f_this_candidates : Nat → Int32) (p_1 : Int32) (N : Nat) (r0 : Int32) (hf : f_X6_isWord N p_1 v_this_races f_this_candidates = some r0) : Met l yX6_isWord wsX6_isWord ({ frames := 1, cells := 0, slots := 0, locals := 21 } : Room) (va_Pc ([.ref a_this, .int p_1] : List Value) (rdB (dC, dI) [(a_this, .inr (6, [.int v_this_thrown, .int v_this_races, .int v_this_boxes, .int v_this_papers, .int v_this_draws, .ref a_this_candidates, .ref a_this_winners, .ref a_this_boxOf, .ref a_this_word, .ref a_this_drawn, .ref a_this_isLost, .ref a_this_hasRead, .ref a_this_hand, .int v_this_isSealed, .long v_this_state, .ref a_this_votes, .ref a_this_isWinner, .int v_this_margin, .int v_this_having, .int v_this_x, .int v_this_m, .int v_this_took])), (a_this_candidates, .inl (cI, 5, .inl f_this_candidates))] (GG dC dI cI cZ cR cJ))) (pqI r0) 0 0 noF := by
  refine Met.ofW (cc := cX6_isWord) (maxL := 4) (ret := (some .boolean)) (by decide) rfl ?_
  intro p e s m args below meth c s₁ B hml hv
  obtain ⟨rfl, hP, hG⟩ := hv
  have hx := B.exec
  have hb := B.bytes
  have hr := B.returns
  have hts := atoms_spec (ws := wsX6_isWord) B.pre
  have hown : s.vm.findClass RX6 = some m.cls := findClass_of_methodNamed B.named
  have hlocks := B.notSynchronized
  have hK := hG.1
  have hiX6 : ∀ w ∈ u_ws RX6 TX6 22, w ∈ wsX6_isWord := by decide +kernel
  have loop4 : ∀ (n : Nat) (x_2 : Int32) (x_3 : Int32) (ls : Array Slot), lv_has ls 4 [(0, .ref a_this), (1, .int p_1), (2, .int x_2), (3, .int x_3)] → f_X6_isWord_L4 p_1 v_this_races f_this_candidates  n x_2 x_3 = some r0 → W p l e (headSpec wsX6_isWord ({ frames := 1, cells := 0, slots := 0, locals := 21 } : Room)).room s m ([.ref a_this, .int p_1] : List Value).toArray below meth c s.heap [] 0 0 (MQ below (pqI r0) ([.ref a_this, .int p_1] : List Value).toArray s 0 0 noF) (F0 m 4 ls []) := by
    intro n
    induction n with
    | zero => intro x_2 x_3 ls hl hf; rw [f_X6_isWord_L4] at hf; cases hf
    | succ n4 ih4 =>
      intro x_2 x_3 ls hl hf
      rw [f_X6_isWord_L4] at hf
      refine lv_iload_n hx hb dX6_isWord_4 rfl (lv_at hl 3 rfl) ?_
      refine lv_aload_n hx hb dX6_isWord_5 rfl (lv_at hl 0 rfl) ?_
      refine va_get (D := (dC, dI)) (ci := 6) (v := .int v_this_races) (C := RX6) (T := TX6) (N := 22) hx hb hts hiX6 hown hK hP 0 rfl rfl 1 (by decide) (hts (.fieldLink RX6 45 "SureCountModel" "races" "I") (by decide +kernel)) (fun _ h9 => h9) rfl dX6_isWord_6 ?_
      refine lv_icmp_ge (tgt := 52) hx hb dX6_isWord_9 (by decide) (fun hc => ?_) (fun hc => ?_)
      · replace hf := (if_pos hc).symm.trans hf
        refine lv_iload_n hx hb dX6_isWord_52 rfl (lv_at hl 2 rfl) ?_
        have hb1 := (gb_some hf).1
        replace hf := (gb_some hf).2
        cases hf
        exact W.zret hx hb hr hb1 (fun t ht hW => ⟨rfl, ht⟩) (fun _ h => nomatch h) dX6_isWord_53
      · replace hf := (if_neg hc).symm.trans hf
        refine lv_iload_n hx hb dX6_isWord_12 rfl (lv_at hl 2 rfl) ?_
        refine lv_if_eq (tgt := 44) hx hb dX6_isWord_13 (by decide) (fun hc => ?_) (fun hc => ?_)
        · replace hf := (if_pos hc).symm.trans hf
          refine lv_iconst (v := (0 : Int32)) hx hb dX6_isWord_44 (by decide) ?_
          refine lv_istore_n (lv' := [(2, .int (0 : Int32)), (0, .ref a_this), (1, .int p_1), (3, .int x_3)]) hx hb dX6_isWord_45 rfl hl (by decide) rfl (fun ls hl => ?_)
          refine lv_iinc (v := x_3 + (1 : Int32)) (lv' := [(3, .int (x_3 + (1 : Int32))), (2, .int (0 : Int32)), (0, .ref a_this), (1, .int p_1)]) hx hb dX6_isWord_46 hl (k := 3) rfl (by first | rfl | decide) (by decide) rfl (fun ls hl => ?_)
          refine lv_goto (tgt := 4) hx hb dX6_isWord_49 (by decide) ?_
          exact ih4 (0 : Int32) (x_3 + (1 : Int32)) ls (lv_sub hl [2, 3, 1, 0] rfl) hf
        · replace hf := (if_neg hc).symm.trans hf
          refine lv_iload_n hx hb dX6_isWord_16 rfl (lv_at hl 1 rfl) ?_
          refine lv_iload_n hx hb dX6_isWord_17 rfl (lv_at hl 3 rfl) ?_
          obtain ⟨o2, ho2, hf⟩ := Option.bind_eq_some_iff.mp hf
          refine pcI (va_runS (As := [.int p_1, .int x_3]) (rest := []) ⟨hx, hb, hml, hown, hts⟩ (c_X6_of l dC dI cI cZ cR cJ (p_0 := p_1) (p_1 := x_3) (r0 := o2) (N := N)  ho2) (cwS 2 hts gX6_isWord_X6_of rfl rfl rfl (by decide +kernel) ⟨Nat.le_of_ble_eq_true rfl, Nat.le_of_ble_eq_true rfl⟩) ⟨rd_blind, rd_pre (hP.sub [] rfl) hG⟩ rfl rfl hl.1 rfl (lv_room (Nat.le_of_ble_eq_true rfl)) dX6_isWord_18 ⟨Nat.zero_le _, Nat.zero_le _⟩) ?_
          refine lv_aload_n hx hb dX6_isWord_21 rfl (lv_at hl 0 rfl) ?_
          refine va_get (D := (dC, dI)) (ci := 6) (v := .ref a_this_candidates) (C := RX6) (T := TX6) (N := 22) hx hb hts hiX6 hown hK hP 0 rfl rfl 5 (by decide) (hts (.fieldLink RX6 7 "SureCountModel" "candidates" "[I") (by decide +kernel)) (fun _ h9 => h9) rfl dX6_isWord_22 ?_
          refine lv_iload_n hx hb dX6_isWord_25 rfl (lv_at hl 3 rfl) ?_
          have hi3 := (gd_some hf).1
          replace hf := (gd_some hf).2
          refine va_iald hx hb hK hP 1 0 rfl rfl hi3 dX6_isWord_26 ?_
          refine lv_icmp_le (tgt := 40) hx hb dX6_isWord_27 (by decide) (fun hc => ?_) (fun hc => ?_)
          · replace hf := (if_pos hc).symm.trans hf
            refine lv_iconst (v := (1 : Int32)) hx hb dX6_isWord_40 (by decide) ?_
            refine lv_goto (tgt := 45) hx hb dX6_isWord_41 (by decide) ?_
            refine lv_istore_n (lv' := [(2, .int (1 : Int32)), (0, .ref a_this), (1, .int p_1), (3, .int x_3)]) hx hb dX6_isWord_45 rfl hl (by decide) rfl (fun ls hl => ?_)
            refine lv_iinc (v := x_3 + (1 : Int32)) (lv' := [(3, .int (x_3 + (1 : Int32))), (2, .int (1 : Int32)), (0, .ref a_this), (1, .int p_1)]) hx hb dX6_isWord_46 hl (k := 3) rfl (by first | rfl | decide) (by decide) rfl (fun ls hl => ?_)
            refine lv_goto (tgt := 4) hx hb dX6_isWord_49 (by decide) ?_
            exact ih4 (1 : Int32) (x_3 + (1 : Int32)) ls (lv_sub hl [2, 3, 1, 0] rfl) hf
          · replace hf := (if_neg hc).symm.trans hf
            refine lv_iload_n hx hb dX6_isWord_30 rfl (lv_at hl 1 rfl) ?_
            refine lv_iload_n hx hb dX6_isWord_31 rfl (lv_at hl 3 rfl) ?_
            obtain ⟨o4, ho4, hf⟩ := Option.bind_eq_some_iff.mp hf
            refine pcI (va_runS (As := [.int p_1, .int x_3]) (rest := []) ⟨hx, hb, hml, hown, hts⟩ (c_X6_of l dC dI cI cZ cR cJ (p_0 := p_1) (p_1 := x_3) (r0 := o4) (N := N)  ho4) (cwS 2 hts gX6_isWord_X6_of rfl rfl rfl (by decide +kernel) ⟨Nat.le_of_ble_eq_true rfl, Nat.le_of_ble_eq_true rfl⟩) ⟨rd_blind, rd_pre (hP.sub [] rfl) hG⟩ rfl rfl hl.1 rfl (lv_room (Nat.le_of_ble_eq_true rfl)) dX6_isWord_32 ⟨Nat.zero_le _, Nat.zero_le _⟩) ?_
            refine lv_bipush (v := (7 : Int32)) hx hb dX6_isWord_35 (by decide) ?_
            refine lv_icmp_ne (tgt := 44) hx hb dX6_isWord_37 (by decide) (fun hc => ?_) (fun hc => ?_)
            · replace hf := (if_neg hc).symm.trans hf
              refine lv_iconst (v := (0 : Int32)) hx hb dX6_isWord_44 (by decide) ?_
              refine lv_istore_n (lv' := [(2, .int (0 : Int32)), (0, .ref a_this), (1, .int p_1), (3, .int x_3)]) hx hb dX6_isWord_45 rfl hl (by decide) rfl (fun ls hl => ?_)
              refine lv_iinc (v := x_3 + (1 : Int32)) (lv' := [(3, .int (x_3 + (1 : Int32))), (2, .int (0 : Int32)), (0, .ref a_this), (1, .int p_1)]) hx hb dX6_isWord_46 hl (k := 3) rfl (by first | rfl | decide) (by decide) rfl (fun ls hl => ?_)
              refine lv_goto (tgt := 4) hx hb dX6_isWord_49 (by decide) ?_
              exact ih4 (0 : Int32) (x_3 + (1 : Int32)) ls (lv_sub hl [2, 3, 1, 0] rfl) hf
            · replace hf := (if_pos hc).symm.trans hf
              refine lv_iconst (v := (1 : Int32)) hx hb dX6_isWord_40 (by decide) ?_
              refine lv_goto (tgt := 45) hx hb dX6_isWord_41 (by decide) ?_
              refine lv_istore_n (lv' := [(2, .int (1 : Int32)), (0, .ref a_this), (1, .int p_1), (3, .int x_3)]) hx hb dX6_isWord_45 rfl hl (by decide) rfl (fun ls hl => ?_)
              refine lv_iinc (v := x_3 + (1 : Int32)) (lv' := [(3, .int (x_3 + (1 : Int32))), (2, .int (1 : Int32)), (0, .ref a_this), (1, .int p_1)]) hx hb dX6_isWord_46 hl (k := 3) rfl (by first | rfl | decide) (by decide) rfl (fun ls hl => ?_)
              refine lv_goto (tgt := 4) hx hb dX6_isWord_49 (by decide) ?_
              exact ih4 (1 : Int32) (x_3 + (1 : Int32)) ls (lv_sub hl [2, 3, 1, 0] rfl) hf
  refine w_entry [(0, .ref a_this), (1, .int p_1)] (Nat.le_of_ble_eq_true rfl) rfl (fun ls hl => ?_)
  rw [f_X6_isWord] at hf
  refine lv_iconst (v := (1 : Int32)) hx hb dX6_isWord_0 (by decide) ?_
  refine lv_istore_n (lv' := [(2, .int (1 : Int32)), (0, .ref a_this), (1, .int p_1)]) hx hb dX6_isWord_1 rfl hl (by decide) rfl (fun ls hl => ?_)
  refine lv_iconst (v := (0 : Int32)) hx hb dX6_isWord_2 (by decide) ?_
  refine lv_istore_n (lv' := [(3, .int (0 : Int32)), (2, .int (1 : Int32)), (0, .ref a_this), (1, .int p_1)]) hx hb dX6_isWord_3 rfl hl (by decide) rfl (fun ls hl => ?_)
  exact loop4 N (1 : Int32) (0 : Int32) ls (lv_sub hl [2, 3, 1, 0] rfl) hf
def f_X6_isRead (p_1 : Int32) (f_this_hasRead : Nat → Int32) : Option (Int32) := gd ((3 : Int32) * p_1) 900 (if (f_this_hasRead ((3 : Int32) * p_1).toNatClampNeg) = 0 then (gd (((3 : Int32) * p_1) + (1 : Int32)) 900 (if (f_this_hasRead (((3 : Int32) * p_1) + (1 : Int32)).toNatClampNeg) = 0 then (gd (((3 : Int32) * p_1) + (2 : Int32)) 900 (if (f_this_hasRead (((3 : Int32) * p_1) + (2 : Int32)).toNatClampNeg) = 0 then (some (0 : Int32)) else (some (1 : Int32)))) else (some (1 : Int32)))) else (some (1 : Int32)))
set_option maxHeartbeats 4000000 in
set_option maxRecDepth 100000 in
theorem c_X6_isRead (l : Launch) (dC : Nat → ClassId) (dI : Nat → Nat → Nat) (cI cZ cR cJ : ClassId) (a_this a_this_candidates a_this_winners a_this_boxOf a_this_word a_this_drawn a_this_isLost a_this_hasRead a_this_hand a_this_votes a_this_isWinner : Nat) (v_this_thrown : Int32) (v_this_races : Int32) (v_this_boxes : Int32) (v_this_papers : Int32) (v_this_draws : Int32) (v_this_isSealed : Int32) (v_this_state : Int64) (v_this_margin : Int32) (v_this_having : Int32) (v_this_x : Int32) (v_this_m : Int32) (v_this_took : Int32) (f_this_hasRead : Nat → Int32) (p_1 : Int32) (N : Nat) (r0 : Int32) (hf : f_X6_isRead p_1 f_this_hasRead = some r0) : Met l yX6_isRead wsX6_isRead ({ frames := 0, cells := 0, slots := 0, locals := 0 } : Room) (va_Pc ([.ref a_this, .int p_1] : List Value) (rdB (dC, dI) [(a_this, .inr (6, [.int v_this_thrown, .int v_this_races, .int v_this_boxes, .int v_this_papers, .int v_this_draws, .ref a_this_candidates, .ref a_this_winners, .ref a_this_boxOf, .ref a_this_word, .ref a_this_drawn, .ref a_this_isLost, .ref a_this_hasRead, .ref a_this_hand, .int v_this_isSealed, .long v_this_state, .ref a_this_votes, .ref a_this_isWinner, .int v_this_margin, .int v_this_having, .int v_this_x, .int v_this_m, .int v_this_took])), (a_this_hasRead, .inl (cZ, 900, .inl f_this_hasRead))] (GG dC dI cI cZ cR cJ))) (pqI r0) 0 0 noF := by
  refine Met.ofW (cc := cX6_isRead) (maxL := 2) (ret := (some .boolean)) (by decide) rfl ?_
  intro p e s m args below meth c s₁ B hml hv
  obtain ⟨rfl, hP, hG⟩ := hv
  have hx := B.exec
  have hb := B.bytes
  have hr := B.returns
  have hts := atoms_spec (ws := wsX6_isRead) B.pre
  have hown : s.vm.findClass RX6 = some m.cls := findClass_of_methodNamed B.named
  have hlocks := B.notSynchronized
  have hK := hG.1
  have hiX6 : ∀ w ∈ u_ws RX6 TX6 22, w ∈ wsX6_isRead := by decide +kernel
  refine w_entry [(0, .ref a_this), (1, .int p_1)] (Nat.le_of_ble_eq_true rfl) rfl (fun ls hl => ?_)
  rw [f_X6_isRead] at hf
  refine lv_aload_n hx hb dX6_isRead_0 rfl (lv_at hl 0 rfl) ?_
  refine va_get (D := (dC, dI)) (ci := 6) (v := .ref a_this_hasRead) (C := RX6) (T := TX6) (N := 22) hx hb hts hiX6 hown hK hP 0 rfl rfl 11 (by decide) (hts (.fieldLink RX6 29 "SureCountModel" "hasRead" "[Z") (by decide +kernel)) (fun _ h9 => h9) rfl dX6_isRead_1 ?_
  refine lv_iconst (v := (3 : Int32)) hx hb dX6_isRead_4 (by decide) ?_
  refine lv_iload_n hx hb dX6_isRead_5 rfl (lv_at hl 1 rfl) ?_
  refine lv_imul hx hb dX6_isRead_6 ?_
  have hi1 := (gd_some hf).1
  replace hf := (gd_some hf).2
  refine va_zald hx hb hK hP 1 1 rfl rfl hi1 dX6_isRead_7 ?_
  refine lv_if_ne (tgt := 37) hx hb dX6_isRead_8 (by decide) (fun hc => ?_) (fun hc => ?_)
  · replace hf := (if_neg hc).symm.trans hf
    refine lv_iconst (v := (1 : Int32)) hx hb dX6_isRead_37 (by decide) ?_
    refine lv_goto (tgt := 42) hx hb dX6_isRead_38 (by decide) ?_
    cases hf
    exact W.zret hx hb hr rfl (fun t ht hW => ⟨rfl, ht⟩) (fun _ h => nomatch h) dX6_isRead_42
  · replace hf := (if_pos hc).symm.trans hf
    refine lv_aload_n hx hb dX6_isRead_11 rfl (lv_at hl 0 rfl) ?_
    refine va_get (D := (dC, dI)) (ci := 6) (v := .ref a_this_hasRead) (C := RX6) (T := TX6) (N := 22) hx hb hts hiX6 hown hK hP 0 rfl rfl 11 (by decide) (hts (.fieldLink RX6 29 "SureCountModel" "hasRead" "[Z") (by decide +kernel)) (fun _ h9 => h9) rfl dX6_isRead_12 ?_
    refine lv_iconst (v := (3 : Int32)) hx hb dX6_isRead_15 (by decide) ?_
    refine lv_iload_n hx hb dX6_isRead_16 rfl (lv_at hl 1 rfl) ?_
    refine lv_imul hx hb dX6_isRead_17 ?_
    refine lv_iconst (v := (1 : Int32)) hx hb dX6_isRead_18 (by decide) ?_
    refine lv_iadd hx hb dX6_isRead_19 ?_
    have hi2 := (gd_some hf).1
    replace hf := (gd_some hf).2
    refine va_zald hx hb hK hP 1 1 rfl rfl hi2 dX6_isRead_20 ?_
    refine lv_if_ne (tgt := 37) hx hb dX6_isRead_21 (by decide) (fun hc => ?_) (fun hc => ?_)
    · replace hf := (if_neg hc).symm.trans hf
      refine lv_iconst (v := (1 : Int32)) hx hb dX6_isRead_37 (by decide) ?_
      refine lv_goto (tgt := 42) hx hb dX6_isRead_38 (by decide) ?_
      cases hf
      exact W.zret hx hb hr rfl (fun t ht hW => ⟨rfl, ht⟩) (fun _ h => nomatch h) dX6_isRead_42
    · replace hf := (if_pos hc).symm.trans hf
      refine lv_aload_n hx hb dX6_isRead_24 rfl (lv_at hl 0 rfl) ?_
      refine va_get (D := (dC, dI)) (ci := 6) (v := .ref a_this_hasRead) (C := RX6) (T := TX6) (N := 22) hx hb hts hiX6 hown hK hP 0 rfl rfl 11 (by decide) (hts (.fieldLink RX6 29 "SureCountModel" "hasRead" "[Z") (by decide +kernel)) (fun _ h9 => h9) rfl dX6_isRead_25 ?_
      refine lv_iconst (v := (3 : Int32)) hx hb dX6_isRead_28 (by decide) ?_
      refine lv_iload_n hx hb dX6_isRead_29 rfl (lv_at hl 1 rfl) ?_
      refine lv_imul hx hb dX6_isRead_30 ?_
      refine lv_iconst (v := (2 : Int32)) hx hb dX6_isRead_31 (by decide) ?_
      refine lv_iadd hx hb dX6_isRead_32 ?_
      have hi3 := (gd_some hf).1
      replace hf := (gd_some hf).2
      refine va_zald hx hb hK hP 1 1 rfl rfl hi3 dX6_isRead_33 ?_
      refine lv_if_eq (tgt := 41) hx hb dX6_isRead_34 (by decide) (fun hc => ?_) (fun hc => ?_)
      · replace hf := (if_pos hc).symm.trans hf
        refine lv_iconst (v := (0 : Int32)) hx hb dX6_isRead_41 (by decide) ?_
        cases hf
        exact W.zret hx hb hr rfl (fun t ht hW => ⟨rfl, ht⟩) (fun _ h => nomatch h) dX6_isRead_42
      · replace hf := (if_neg hc).symm.trans hf
        refine lv_iconst (v := (1 : Int32)) hx hb dX6_isRead_37 (by decide) ?_
        refine lv_goto (tgt := 42) hx hb dX6_isRead_38 (by decide) ?_
        cases hf
        exact W.zret hx hb hr rfl (fun t ht hW => ⟨rfl, ht⟩) (fun _ h => nomatch h) dX6_isRead_42
def f_X6_readingOf_L57 (p_1 : Int32) (p_2 : Int32) (f_this_hasRead : Nat → Int32) (f_this_hand : Nat → Int32) (k_11 : Int32 → Int32 → Int32 → Int32 → Option (Int32)) : Nat → Int32 → Int32 → Int32 → Int32 → Int32 → Option (Int32)
  | 0, _, _, _, _, _ => none
  | n57 + 1, x_3, x_4, x_5, x_6, x_7 => if x_6 ≤ x_7 then (k_11 x_3 x_4 x_5 (x_6 + (1 : Int32))) else (gd (((3 : Int32) * p_1) + x_7) 900 (if (f_this_hasRead (((3 : Int32) * p_1) + x_7).toNatClampNeg) = 0 then (f_X6_readingOf_L57 p_1 p_2 f_this_hasRead f_this_hand k_11 n57 x_3 x_4 x_5 x_6 (x_7 + (1 : Int32))) else (gd (((3 : Int32) * p_1) + x_7) 900 (Option.bind (f_X6_of (f_this_hand (((3 : Int32) * p_1) + x_7).toNatClampNeg) p_2) (fun o6 => if o6 = x_4 then (f_X6_readingOf_L57 p_1 p_2 f_this_hasRead f_this_hand k_11 n57 x_3 x_4 x_4 x_6 (x_7 + (1 : Int32))) else (f_X6_readingOf_L57 p_1 p_2 f_this_hasRead f_this_hand k_11 n57 x_3 x_4 x_5 x_6 (x_7 + (1 : Int32))))))))
def f_X6_readingOf_L11 (N : Nat) (p_1 : Int32) (p_2 : Int32) (f_this_hasRead : Nat → Int32) (f_this_hand : Nat → Int32)  : Nat → Int32 → Int32 → Int32 → Int32 → Option (Int32)
  | 0, _, _, _, _ => none
  | n11 + 1, x_3, x_4, x_5, x_6 => if (3 : Int32) ≤ x_6 then (if x_3 = (1 : Int32) then (some x_4) else (if x_5 = (-1 : Int32) then (some (0 : Int32)) else (some x_5))) else (gd (((3 : Int32) * p_1) + x_6) 900 (if (f_this_hasRead (((3 : Int32) * p_1) + x_6).toNatClampNeg) = 0 then (f_X6_readingOf_L11 N p_1 p_2 f_this_hasRead f_this_hand n11 x_3 x_4 x_5 (x_6 + (1 : Int32))) else (gd (((3 : Int32) * p_1) + x_6) 900 (Option.bind (f_X6_of (f_this_hand (((3 : Int32) * p_1) + x_6).toNatClampNeg) p_2) (fun o3 => f_X6_readingOf_L57 p_1 p_2 f_this_hasRead f_this_hand (fun u0 u1 u2 u3 => f_X6_readingOf_L11 N p_1 p_2 f_this_hasRead f_this_hand n11 u0 u1 u2 u3) N (x_3 + (1 : Int32)) o3 x_5 x_6 (0 : Int32))))))
def f_X6_readingOf (N : Nat) (p_1 : Int32) (p_2 : Int32) (f_this_hasRead : Nat → Int32) (f_this_hand : Nat → Int32) : Option (Int32) := f_X6_readingOf_L11 N p_1 p_2 f_this_hasRead f_this_hand  N (0 : Int32) (0 : Int32) (-1 : Int32) (0 : Int32)
set_option maxHeartbeats 4000000 in
set_option maxRecDepth 100000 in
theorem c_X6_readingOf (l : Launch) (dC : Nat → ClassId) (dI : Nat → Nat → Nat) (cI cZ cR cJ : ClassId) (a_this a_this_candidates a_this_winners a_this_boxOf a_this_word a_this_drawn a_this_isLost a_this_hasRead a_this_hand a_this_votes a_this_isWinner : Nat) (v_this_thrown : Int32) (v_this_races : Int32) (v_this_boxes : Int32) (v_this_papers : Int32) (v_this_draws : Int32) (v_this_isSealed : Int32) (v_this_state : Int64) (v_this_margin : Int32) (v_this_having : Int32) (v_this_x : Int32) (v_this_m : Int32) (v_this_took : Int32) (f_this_hasRead : Nat → Int32) (f_this_hand : Nat → Int32) (p_1 : Int32) (p_2 : Int32) (N : Nat) (r0 : Int32) (hf : f_X6_readingOf N p_1 p_2 f_this_hasRead f_this_hand = some r0) : Met l yX6_readingOf wsX6_readingOf ({ frames := 1, cells := 0, slots := 0, locals := 21 } : Room) (va_Pc ([.ref a_this, .int p_1, .int p_2] : List Value) (rdB (dC, dI) [(a_this, .inr (6, [.int v_this_thrown, .int v_this_races, .int v_this_boxes, .int v_this_papers, .int v_this_draws, .ref a_this_candidates, .ref a_this_winners, .ref a_this_boxOf, .ref a_this_word, .ref a_this_drawn, .ref a_this_isLost, .ref a_this_hasRead, .ref a_this_hand, .int v_this_isSealed, .long v_this_state, .ref a_this_votes, .ref a_this_isWinner, .int v_this_margin, .int v_this_having, .int v_this_x, .int v_this_m, .int v_this_took])), (a_this_hasRead, .inl (cZ, 900, .inl f_this_hasRead)), (a_this_hand, .inl (cI, 900, .inl f_this_hand))] (GG dC dI cI cZ cR cJ))) (pqI r0) 0 0 noF := by
  refine Met.ofW (cc := cX6_readingOf) (maxL := 8) (ret := (some .int)) (by decide) rfl ?_
  intro p e s m args below meth c s₁ B hml hv
  obtain ⟨rfl, hP, hG⟩ := hv
  have hx := B.exec
  have hb := B.bytes
  have hr := B.returns
  have hts := atoms_spec (ws := wsX6_readingOf) B.pre
  have hown : s.vm.findClass RX6 = some m.cls := findClass_of_methodNamed B.named
  have hlocks := B.notSynchronized
  have hK := hG.1
  have hiX6 : ∀ w ∈ u_ws RX6 TX6 22, w ∈ wsX6_readingOf := by decide +kernel
  have loop11 : ∀ (n : Nat) (x_3 : Int32) (x_4 : Int32) (x_5 : Int32) (x_6 : Int32) (ls : Array Slot), lv_has ls 8 [(0, .ref a_this), (1, .int p_1), (2, .int p_2), (3, .int x_3), (4, .int x_4), (5, .int x_5), (6, .int x_6)] → f_X6_readingOf_L11 N p_1 p_2 f_this_hasRead f_this_hand  n x_3 x_4 x_5 x_6 = some r0 → W p l e (headSpec wsX6_readingOf ({ frames := 1, cells := 0, slots := 0, locals := 21 } : Room)).room s m ([.ref a_this, .int p_1, .int p_2] : List Value).toArray below meth c s.heap [] 0 0 (MQ below (pqI r0) ([.ref a_this, .int p_1, .int p_2] : List Value).toArray s 0 0 noF) (F0 m 11 ls []) := by
    intro n
    induction n with
    | zero => intro x_3 x_4 x_5 x_6 ls hl hf; rw [f_X6_readingOf_L11] at hf; cases hf
    | succ n11 ih11 =>
      intro x_3 x_4 x_5 x_6 ls hl hf
      rw [f_X6_readingOf_L11] at hf
      have loop57 : ∀ (n : Nat) (x_3 : Int32) (x_4 : Int32) (x_5 : Int32) (x_6 : Int32) (x_7 : Int32) (ls : Array Slot), lv_has ls 8 [(0, .ref a_this), (1, .int p_1), (2, .int p_2), (3, .int x_3), (4, .int x_4), (5, .int x_5), (6, .int x_6), (7, .int x_7)] → f_X6_readingOf_L57 p_1 p_2 f_this_hasRead f_this_hand (fun u0 u1 u2 u3 => f_X6_readingOf_L11 N p_1 p_2 f_this_hasRead f_this_hand n11 u0 u1 u2 u3) n x_3 x_4 x_5 x_6 x_7 = some r0 → W p l e (headSpec wsX6_readingOf ({ frames := 1, cells := 0, slots := 0, locals := 21 } : Room)).room s m ([.ref a_this, .int p_1, .int p_2] : List Value).toArray below meth c s.heap [] 0 0 (MQ below (pqI r0) ([.ref a_this, .int p_1, .int p_2] : List Value).toArray s 0 0 noF) (F0 m 57 ls []) := by
        intro n
        induction n with
        | zero => intro x_3 x_4 x_5 x_6 x_7 ls hl hf; rw [f_X6_readingOf_L57] at hf; cases hf
        | succ n57 ih57 =>
          intro x_3 x_4 x_5 x_6 x_7 ls hl hf
          rw [f_X6_readingOf_L57] at hf
          refine lv_iload hx hb dX6_readingOf_57 (lv_at hl 7 rfl) ?_
          refine lv_iload hx hb dX6_readingOf_59 (lv_at hl 6 rfl) ?_
          refine lv_icmp_ge (tgt := 108) hx hb dX6_readingOf_61 (by decide) (fun hc => ?_) (fun hc => ?_)
          · replace hf := (if_pos hc).symm.trans hf
            refine lv_iinc (v := x_6 + (1 : Int32)) (lv' := [(6, .int (x_6 + (1 : Int32))), (0, .ref a_this), (1, .int p_1), (2, .int p_2), (3, .int x_3), (4, .int x_4), (5, .int x_5), (7, .int x_7)]) hx hb dX6_readingOf_108 hl (k := 6) rfl (by first | rfl | decide) (by decide) rfl (fun ls hl => ?_)
            refine lv_goto (tgt := 11) hx hb dX6_readingOf_111 (by decide) ?_
            exact ih11 x_3 x_4 x_5 (x_6 + (1 : Int32)) ls (lv_sub hl [1, 2, 3, 4, 5, 6, 0] rfl) hf
          · replace hf := (if_neg hc).symm.trans hf
            refine lv_aload_n hx hb dX6_readingOf_64 rfl (lv_at hl 0 rfl) ?_
            refine va_get (D := (dC, dI)) (ci := 6) (v := .ref a_this_hasRead) (C := RX6) (T := TX6) (N := 22) hx hb hts hiX6 hown hK hP 0 rfl rfl 11 (by decide) (hts (.fieldLink RX6 29 "SureCountModel" "hasRead" "[Z") (by decide +kernel)) (fun _ h9 => h9) rfl dX6_readingOf_65 ?_
            refine lv_iconst (v := (3 : Int32)) hx hb dX6_readingOf_68 (by decide) ?_
            refine lv_iload_n hx hb dX6_readingOf_69 rfl (lv_at hl 1 rfl) ?_
            refine lv_imul hx hb dX6_readingOf_70 ?_
            refine lv_iload hx hb dX6_readingOf_71 (lv_at hl 7 rfl) ?_
            refine lv_iadd hx hb dX6_readingOf_73 ?_
            have hi4 := (gd_some hf).1
            replace hf := (gd_some hf).2
            refine va_zald hx hb hK hP 1 1 rfl rfl hi4 dX6_readingOf_74 ?_
            refine lv_if_eq (tgt := 102) hx hb dX6_readingOf_75 (by decide) (fun hc => ?_) (fun hc => ?_)
            · replace hf := (if_pos hc).symm.trans hf
              refine lv_iinc (v := x_7 + (1 : Int32)) (lv' := [(7, .int (x_7 + (1 : Int32))), (0, .ref a_this), (1, .int p_1), (2, .int p_2), (3, .int x_3), (4, .int x_4), (5, .int x_5), (6, .int x_6)]) hx hb dX6_readingOf_102 hl (k := 7) rfl (by first | rfl | decide) (by decide) rfl (fun ls hl => ?_)
              refine lv_goto (tgt := 57) hx hb dX6_readingOf_105 (by decide) ?_
              exact ih57 x_3 x_4 x_5 x_6 (x_7 + (1 : Int32)) ls (lv_sub hl [1, 2, 3, 4, 5, 6, 7, 0] rfl) hf
            · replace hf := (if_neg hc).symm.trans hf
              refine lv_aload_n hx hb dX6_readingOf_78 rfl (lv_at hl 0 rfl) ?_
              refine va_get (D := (dC, dI)) (ci := 6) (v := .ref a_this_hand) (C := RX6) (T := TX6) (N := 22) hx hb hts hiX6 hown hK hP 0 rfl rfl 12 (by decide) (hts (.fieldLink RX6 32 "SureCountModel" "hand" "[I") (by decide +kernel)) (fun _ h9 => h9) rfl dX6_readingOf_79 ?_
              refine lv_iconst (v := (3 : Int32)) hx hb dX6_readingOf_82 (by decide) ?_
              refine lv_iload_n hx hb dX6_readingOf_83 rfl (lv_at hl 1 rfl) ?_
              refine lv_imul hx hb dX6_readingOf_84 ?_
              refine lv_iload hx hb dX6_readingOf_85 (lv_at hl 7 rfl) ?_
              refine lv_iadd hx hb dX6_readingOf_87 ?_
              have hi5 := (gd_some hf).1
              replace hf := (gd_some hf).2
              refine va_iald hx hb hK hP 2 0 rfl rfl hi5 dX6_readingOf_88 ?_
              refine lv_iload_n hx hb dX6_readingOf_89 rfl (lv_at hl 2 rfl) ?_
              obtain ⟨o6, ho6, hf⟩ := Option.bind_eq_some_iff.mp hf
              refine pcI (va_runS (As := [.int (f_this_hand (((3 : Int32) * p_1) + x_7).toNatClampNeg), .int p_2]) (rest := []) ⟨hx, hb, hml, hown, hts⟩ (c_X6_of l dC dI cI cZ cR cJ (p_0 := f_this_hand (((3 : Int32) * p_1) + x_7).toNatClampNeg) (p_1 := p_2) (r0 := o6) (N := N)  ho6) (cwS 2 hts gX6_readingOf_X6_of rfl rfl rfl (by decide +kernel) ⟨Nat.le_of_ble_eq_true rfl, Nat.le_of_ble_eq_true rfl⟩) ⟨rd_blind, rd_pre (hP.sub [] rfl) hG⟩ rfl rfl hl.1 rfl (lv_room (Nat.le_of_ble_eq_true rfl)) dX6_readingOf_90 ⟨Nat.zero_le _, Nat.zero_le _⟩) ?_
              refine lv_iload hx hb dX6_readingOf_93 (lv_at hl 4 rfl) ?_
              refine lv_icmp_ne (tgt := 102) hx hb dX6_readingOf_95 (by decide) (fun hc => ?_) (fun hc => ?_)
              · replace hf := (if_neg hc).symm.trans hf
                refine lv_iinc (v := x_7 + (1 : Int32)) (lv' := [(7, .int (x_7 + (1 : Int32))), (0, .ref a_this), (1, .int p_1), (2, .int p_2), (3, .int x_3), (4, .int x_4), (5, .int x_5), (6, .int x_6)]) hx hb dX6_readingOf_102 hl (k := 7) rfl (by first | rfl | decide) (by decide) rfl (fun ls hl => ?_)
                refine lv_goto (tgt := 57) hx hb dX6_readingOf_105 (by decide) ?_
                exact ih57 x_3 x_4 x_5 x_6 (x_7 + (1 : Int32)) ls (lv_sub hl [1, 2, 3, 4, 5, 6, 7, 0] rfl) hf
              · replace hf := (if_pos hc).symm.trans hf
                refine lv_iload hx hb dX6_readingOf_98 (lv_at hl 4 rfl) ?_
                refine lv_istore (lv' := [(5, .int x_4), (0, .ref a_this), (1, .int p_1), (2, .int p_2), (3, .int x_3), (4, .int x_4), (6, .int x_6), (7, .int x_7)]) hx hb dX6_readingOf_100 hl (by decide) rfl (fun ls hl => ?_)
                refine lv_iinc (v := x_7 + (1 : Int32)) (lv' := [(7, .int (x_7 + (1 : Int32))), (5, .int x_4), (0, .ref a_this), (1, .int p_1), (2, .int p_2), (3, .int x_3), (4, .int x_4), (6, .int x_6)]) hx hb dX6_readingOf_102 hl (k := 7) rfl (by first | rfl | decide) (by decide) rfl (fun ls hl => ?_)
                refine lv_goto (tgt := 57) hx hb dX6_readingOf_105 (by decide) ?_
                exact ih57 x_3 x_4 x_4 x_6 (x_7 + (1 : Int32)) ls (lv_sub hl [2, 3, 4, 5, 6, 1, 7, 0] rfl) hf
      refine lv_iload hx hb dX6_readingOf_11 (lv_at hl 6 rfl) ?_
      refine lv_iconst (v := (3 : Int32)) hx hb dX6_readingOf_13 (by decide) ?_
      refine lv_icmp_ge (tgt := 114) hx hb dX6_readingOf_14 (by decide) (fun hc => ?_) (fun hc => ?_)
      · replace hf := (if_pos hc).symm.trans hf
        refine lv_iload_n hx hb dX6_readingOf_114 rfl (lv_at hl 3 rfl) ?_
        refine lv_iconst (v := (1 : Int32)) hx hb dX6_readingOf_115 (by decide) ?_
        refine lv_icmp_ne (tgt := 124) hx hb dX6_readingOf_116 (by decide) (fun hc => ?_) (fun hc => ?_)
        · replace hf := (if_neg hc).symm.trans hf
          refine lv_iload hx hb dX6_readingOf_124 (lv_at hl 5 rfl) ?_
          refine lv_iconst (v := (-1 : Int32)) hx hb dX6_readingOf_126 (by decide) ?_
          refine lv_icmp_ne (tgt := 134) hx hb dX6_readingOf_127 (by decide) (fun hc => ?_) (fun hc => ?_)
          · replace hf := (if_neg hc).symm.trans hf
            refine lv_iload hx hb dX6_readingOf_134 (lv_at hl 5 rfl) ?_
            cases hf
            exact W.iret hx hb hr (fun t ht hW => ⟨rfl, ht⟩) (fun _ h => nomatch h) dX6_readingOf_136
          · replace hf := (if_pos hc).symm.trans hf
            refine lv_iconst (v := (0 : Int32)) hx hb dX6_readingOf_130 (by decide) ?_
            refine lv_goto (tgt := 136) hx hb dX6_readingOf_131 (by decide) ?_
            cases hf
            exact W.iret hx hb hr (fun t ht hW => ⟨rfl, ht⟩) (fun _ h => nomatch h) dX6_readingOf_136
        · replace hf := (if_pos hc).symm.trans hf
          refine lv_iload hx hb dX6_readingOf_119 (lv_at hl 4 rfl) ?_
          refine lv_goto (tgt := 136) hx hb dX6_readingOf_121 (by decide) ?_
          cases hf
          exact W.iret hx hb hr (fun t ht hW => ⟨rfl, ht⟩) (fun _ h => nomatch h) dX6_readingOf_136
      · replace hf := (if_neg hc).symm.trans hf
        refine lv_aload_n hx hb dX6_readingOf_17 rfl (lv_at hl 0 rfl) ?_
        refine va_get (D := (dC, dI)) (ci := 6) (v := .ref a_this_hasRead) (C := RX6) (T := TX6) (N := 22) hx hb hts hiX6 hown hK hP 0 rfl rfl 11 (by decide) (hts (.fieldLink RX6 29 "SureCountModel" "hasRead" "[Z") (by decide +kernel)) (fun _ h9 => h9) rfl dX6_readingOf_18 ?_
        refine lv_iconst (v := (3 : Int32)) hx hb dX6_readingOf_21 (by decide) ?_
        refine lv_iload_n hx hb dX6_readingOf_22 rfl (lv_at hl 1 rfl) ?_
        refine lv_imul hx hb dX6_readingOf_23 ?_
        refine lv_iload hx hb dX6_readingOf_24 (lv_at hl 6 rfl) ?_
        refine lv_iadd hx hb dX6_readingOf_26 ?_
        have hi1 := (gd_some hf).1
        replace hf := (gd_some hf).2
        refine va_zald hx hb hK hP 1 1 rfl rfl hi1 dX6_readingOf_27 ?_
        refine lv_if_ne (tgt := 34) hx hb dX6_readingOf_28 (by decide) (fun hc => ?_) (fun hc => ?_)
        · replace hf := (if_neg hc).symm.trans hf
          refine lv_iinc (v := x_3 + (1 : Int32)) (lv' := [(3, .int (x_3 + (1 : Int32))), (0, .ref a_this), (1, .int p_1), (2, .int p_2), (4, .int x_4), (5, .int x_5), (6, .int x_6)]) hx hb dX6_readingOf_34 hl (k := 3) rfl (by first | rfl | decide) (by decide) rfl (fun ls hl => ?_)
          refine lv_aload_n hx hb dX6_readingOf_37 rfl (lv_at hl 1 rfl) ?_
          refine va_get (D := (dC, dI)) (ci := 6) (v := .ref a_this_hand) (C := RX6) (T := TX6) (N := 22) hx hb hts hiX6 hown hK hP 0 rfl rfl 12 (by decide) (hts (.fieldLink RX6 32 "SureCountModel" "hand" "[I") (by decide +kernel)) (fun _ h9 => h9) rfl dX6_readingOf_38 ?_
          refine lv_iconst (v := (3 : Int32)) hx hb dX6_readingOf_41 (by decide) ?_
          refine lv_iload_n hx hb dX6_readingOf_42 rfl (lv_at hl 2 rfl) ?_
          refine lv_imul hx hb dX6_readingOf_43 ?_
          refine lv_iload hx hb dX6_readingOf_44 (lv_at hl 6 rfl) ?_
          refine lv_iadd hx hb dX6_readingOf_46 ?_
          have hi2 := (gd_some hf).1
          replace hf := (gd_some hf).2
          refine va_iald hx hb hK hP 2 0 rfl rfl hi2 dX6_readingOf_47 ?_
          refine lv_iload_n hx hb dX6_readingOf_48 rfl (lv_at hl 3 rfl) ?_
          obtain ⟨o3, ho3, hf⟩ := Option.bind_eq_some_iff.mp hf
          refine pcI (va_runS (As := [.int (f_this_hand (((3 : Int32) * p_1) + x_6).toNatClampNeg), .int p_2]) (rest := []) ⟨hx, hb, hml, hown, hts⟩ (c_X6_of l dC dI cI cZ cR cJ (p_0 := f_this_hand (((3 : Int32) * p_1) + x_6).toNatClampNeg) (p_1 := p_2) (r0 := o3) (N := N)  ho3) (cwS 2 hts gX6_readingOf_X6_of rfl rfl rfl (by decide +kernel) ⟨Nat.le_of_ble_eq_true rfl, Nat.le_of_ble_eq_true rfl⟩) ⟨rd_blind, rd_pre (hP.sub [] rfl) hG⟩ rfl rfl hl.1 rfl (lv_room (Nat.le_of_ble_eq_true rfl)) dX6_readingOf_49 ⟨Nat.zero_le _, Nat.zero_le _⟩) ?_
          refine lv_istore (lv' := [(4, .int o3), (3, .int (x_3 + (1 : Int32))), (0, .ref a_this), (1, .int p_1), (2, .int p_2), (5, .int x_5), (6, .int x_6)]) hx hb dX6_readingOf_52 hl (by decide) rfl (fun ls hl => ?_)
          refine lv_iconst (v := (0 : Int32)) hx hb dX6_readingOf_54 (by decide) ?_
          refine lv_istore (lv' := [(7, .int (0 : Int32)), (4, .int o3), (3, .int (x_3 + (1 : Int32))), (0, .ref a_this), (1, .int p_1), (2, .int p_2), (5, .int x_5), (6, .int x_6)]) hx hb dX6_readingOf_55 hl (by decide) rfl (fun ls hl => ?_)
          exact loop57 N (x_3 + (1 : Int32)) o3 x_5 x_6 (0 : Int32) ls (lv_sub hl [3, 4, 5, 2, 1, 6, 7, 0] rfl) hf
        · replace hf := (if_pos hc).symm.trans hf
          refine lv_goto (tgt := 108) hx hb dX6_readingOf_31 (by decide) ?_
          refine lv_iinc (v := x_6 + (1 : Int32)) (lv' := [(6, .int (x_6 + (1 : Int32))), (0, .ref a_this), (1, .int p_1), (2, .int p_2), (3, .int x_3), (4, .int x_4), (5, .int x_5)]) hx hb dX6_readingOf_108 hl (k := 6) rfl (by first | rfl | decide) (by decide) rfl (fun ls hl => ?_)
          refine lv_goto (tgt := 11) hx hb dX6_readingOf_111 (by decide) ?_
          exact ih11 x_3 x_4 x_5 (x_6 + (1 : Int32)) ls (lv_sub hl [1, 2, 3, 4, 5, 6, 0] rfl) hf
  refine w_entry [(0, .ref a_this), (1, .int p_1), (2, .int p_2)] (Nat.le_of_ble_eq_true rfl) rfl (fun ls hl => ?_)
  rw [f_X6_readingOf] at hf
  refine lv_iconst (v := (0 : Int32)) hx hb dX6_readingOf_0 (by decide) ?_
  refine lv_istore_n (lv' := [(3, .int (0 : Int32)), (0, .ref a_this), (1, .int p_1), (2, .int p_2)]) hx hb dX6_readingOf_1 rfl hl (by decide) rfl (fun ls hl => ?_)
  refine lv_iconst (v := (0 : Int32)) hx hb dX6_readingOf_2 (by decide) ?_
  refine lv_istore (lv' := [(4, .int (0 : Int32)), (3, .int (0 : Int32)), (0, .ref a_this), (1, .int p_1), (2, .int p_2)]) hx hb dX6_readingOf_3 hl (by decide) rfl (fun ls hl => ?_)
  refine lv_iconst (v := (-1 : Int32)) hx hb dX6_readingOf_5 (by decide) ?_
  refine lv_istore (lv' := [(5, .int (-1 : Int32)), (4, .int (0 : Int32)), (3, .int (0 : Int32)), (0, .ref a_this), (1, .int p_1), (2, .int p_2)]) hx hb dX6_readingOf_6 hl (by decide) rfl (fun ls hl => ?_)
  refine lv_iconst (v := (0 : Int32)) hx hb dX6_readingOf_8 (by decide) ?_
  refine lv_istore (lv' := [(6, .int (0 : Int32)), (5, .int (-1 : Int32)), (4, .int (0 : Int32)), (3, .int (0 : Int32)), (0, .ref a_this), (1, .int p_1), (2, .int p_2)]) hx hb dX6_readingOf_9 hl (by decide) rfl (fun ls hl => ?_)
  exact loop11 N (0 : Int32) (0 : Int32) (-1 : Int32) (0 : Int32) ls (lv_sub hl [4, 5, 6, 3, 2, 1, 0] rfl) hf
def f_X6_says (N : Nat) (p_1 : Int32) (p_2 : Int32) (p_3 : Int32) (f_this_word : Nat → Int32) (f_this_isLost : Nat → Int32) (f_this_hasRead : Nat → Int32) (f_this_hand : Nat → Int32) : Option (Int32) := if p_3 = 0 then (gd p_1 300 (Option.bind (f_X6_of (f_this_word p_1.toNatClampNeg) p_2) (fun o2 => some o2))) else (gd p_1 300 (if (f_this_isLost p_1.toNatClampNeg) = 0 then (Option.bind (f_X6_isRead p_1 f_this_hasRead) (fun o6 => if o6 = 0 then (gd p_1 300 (Option.bind (f_X6_of (f_this_word p_1.toNatClampNeg) p_2) (fun o9 => some o9))) else (Option.bind (f_X6_readingOf N p_1 p_2 f_this_hasRead f_this_hand) (fun o7 => some o7)))) else (gd p_1 300 (Option.bind (f_X6_of (f_this_word p_1.toNatClampNeg) p_2) (fun o5 => some o5)))))
set_option maxHeartbeats 4000000 in
set_option maxRecDepth 100000 in
theorem c_X6_says (l : Launch) (dC : Nat → ClassId) (dI : Nat → Nat → Nat) (cI cZ cR cJ : ClassId) (a_this a_this_candidates a_this_winners a_this_boxOf a_this_word a_this_drawn a_this_isLost a_this_hasRead a_this_hand a_this_votes a_this_isWinner : Nat) (v_this_thrown : Int32) (v_this_races : Int32) (v_this_boxes : Int32) (v_this_papers : Int32) (v_this_draws : Int32) (v_this_isSealed : Int32) (v_this_state : Int64) (v_this_margin : Int32) (v_this_having : Int32) (v_this_x : Int32) (v_this_m : Int32) (v_this_took : Int32) (f_this_word : Nat → Int32) (f_this_isLost : Nat → Int32) (f_this_hasRead : Nat → Int32) (f_this_hand : Nat → Int32) (p_1 : Int32) (p_2 : Int32) (p_3 : Int32) (N : Nat) (r0 : Int32) (hf : f_X6_says N p_1 p_2 p_3 f_this_word f_this_isLost f_this_hasRead f_this_hand = some r0) : Met l yX6_says wsX6_says ({ frames := 2, cells := 0, slots := 0, locals := 48 } : Room) (va_Pc ([.ref a_this, .int p_1, .int p_2, .int p_3] : List Value) (rdB (dC, dI) [(a_this, .inr (6, [.int v_this_thrown, .int v_this_races, .int v_this_boxes, .int v_this_papers, .int v_this_draws, .ref a_this_candidates, .ref a_this_winners, .ref a_this_boxOf, .ref a_this_word, .ref a_this_drawn, .ref a_this_isLost, .ref a_this_hasRead, .ref a_this_hand, .int v_this_isSealed, .long v_this_state, .ref a_this_votes, .ref a_this_isWinner, .int v_this_margin, .int v_this_having, .int v_this_x, .int v_this_m, .int v_this_took])), (a_this_word, .inl (cI, 300, .inl f_this_word)), (a_this_isLost, .inl (cZ, 300, .inl f_this_isLost)), (a_this_hasRead, .inl (cZ, 900, .inl f_this_hasRead)), (a_this_hand, .inl (cI, 900, .inl f_this_hand))] (GG dC dI cI cZ cR cJ))) (pqI r0) 0 0 noF := by
  refine Met.ofW (cc := cX6_says) (maxL := 4) (ret := (some .int)) (by decide) rfl ?_
  intro p e s m args below meth c s₁ B hml hv
  obtain ⟨rfl, hP, hG⟩ := hv
  have hx := B.exec
  have hb := B.bytes
  have hr := B.returns
  have hts := atoms_spec (ws := wsX6_says) B.pre
  have hown : s.vm.findClass RX6 = some m.cls := findClass_of_methodNamed B.named
  have hlocks := B.notSynchronized
  have hK := hG.1
  have hiX6 : ∀ w ∈ u_ws RX6 TX6 22, w ∈ wsX6_says := by decide +kernel
  refine w_entry [(0, .ref a_this), (1, .int p_1), (2, .int p_2), (3, .int p_3)] (Nat.le_of_ble_eq_true rfl) rfl (fun ls hl => ?_)
  rw [f_X6_says] at hf
  refine lv_iload_n hx hb dX6_says_0 rfl (lv_at hl 3 rfl) ?_
  refine lv_if_eq (tgt := 21) hx hb dX6_says_1 (by decide) (fun hc => ?_) (fun hc => ?_)
  · replace hf := (if_pos hc).symm.trans hf
    refine lv_aload_n hx hb dX6_says_21 rfl (lv_at hl 0 rfl) ?_
    refine va_get (D := (dC, dI)) (ci := 6) (v := .ref a_this_word) (C := RX6) (T := TX6) (N := 22) hx hb hts hiX6 hown hK hP 0 rfl rfl 8 (by decide) (hts (.fieldLink RX6 19 "SureCountModel" "word" "[I") (by decide +kernel)) (fun _ h9 => h9) rfl dX6_says_22 ?_
    refine lv_iload_n hx hb dX6_says_25 rfl (lv_at hl 1 rfl) ?_
    have hi1 := (gd_some hf).1
    replace hf := (gd_some hf).2
    refine va_iald hx hb hK hP 1 0 rfl rfl hi1 dX6_says_26 ?_
    refine lv_iload_n hx hb dX6_says_27 rfl (lv_at hl 2 rfl) ?_
    obtain ⟨o2, ho2, hf⟩ := Option.bind_eq_some_iff.mp hf
    refine pcI (va_runS (As := [.int (f_this_word p_1.toNatClampNeg), .int p_2]) (rest := []) ⟨hx, hb, hml, hown, hts⟩ (c_X6_of l dC dI cI cZ cR cJ (p_0 := f_this_word p_1.toNatClampNeg) (p_1 := p_2) (r0 := o2) (N := N)  ho2) (cwS 2 hts gX6_says_X6_of rfl rfl rfl (by decide +kernel) ⟨Nat.le_of_ble_eq_true rfl, Nat.le_of_ble_eq_true rfl⟩) ⟨rd_blind, rd_pre (hP.sub [] rfl) hG⟩ rfl rfl hl.1 rfl (lv_room (Nat.le_of_ble_eq_true rfl)) dX6_says_28 ⟨Nat.zero_le _, Nat.zero_le _⟩) ?_
    refine lv_goto (tgt := 40) hx hb dX6_says_31 (by decide) ?_
    cases hf
    exact W.iret hx hb hr (fun t ht hW => ⟨rfl, ht⟩) (fun _ h => nomatch h) dX6_says_40
  · replace hf := (if_neg hc).symm.trans hf
    refine lv_aload_n hx hb dX6_says_4 rfl (lv_at hl 0 rfl) ?_
    refine va_get (D := (dC, dI)) (ci := 6) (v := .ref a_this_isLost) (C := RX6) (T := TX6) (N := 22) hx hb hts hiX6 hown hK hP 0 rfl rfl 10 (by decide) (hts (.fieldLink RX6 25 "SureCountModel" "isLost" "[Z") (by decide +kernel)) (fun _ h9 => h9) rfl dX6_says_5 ?_
    refine lv_iload_n hx hb dX6_says_8 rfl (lv_at hl 1 rfl) ?_
    have hi3 := (gd_some hf).1
    replace hf := (gd_some hf).2
    refine va_zald hx hb hK hP 2 1 rfl rfl hi3 dX6_says_9 ?_
    refine lv_if_ne (tgt := 21) hx hb dX6_says_10 (by decide) (fun hc => ?_) (fun hc => ?_)
    · replace hf := (if_neg hc).symm.trans hf
      refine lv_aload_n hx hb dX6_says_21 rfl (lv_at hl 0 rfl) ?_
      refine va_get (D := (dC, dI)) (ci := 6) (v := .ref a_this_word) (C := RX6) (T := TX6) (N := 22) hx hb hts hiX6 hown hK hP 0 rfl rfl 8 (by decide) (hts (.fieldLink RX6 19 "SureCountModel" "word" "[I") (by decide +kernel)) (fun _ h9 => h9) rfl dX6_says_22 ?_
      refine lv_iload_n hx hb dX6_says_25 rfl (lv_at hl 1 rfl) ?_
      have hi4 := (gd_some hf).1
      replace hf := (gd_some hf).2
      refine va_iald hx hb hK hP 1 0 rfl rfl hi4 dX6_says_26 ?_
      refine lv_iload_n hx hb dX6_says_27 rfl (lv_at hl 2 rfl) ?_
      obtain ⟨o5, ho5, hf⟩ := Option.bind_eq_some_iff.mp hf
      refine pcI (va_runS (As := [.int (f_this_word p_1.toNatClampNeg), .int p_2]) (rest := []) ⟨hx, hb, hml, hown, hts⟩ (c_X6_of l dC dI cI cZ cR cJ (p_0 := f_this_word p_1.toNatClampNeg) (p_1 := p_2) (r0 := o5) (N := N)  ho5) (cwS 2 hts gX6_says_X6_of rfl rfl rfl (by decide +kernel) ⟨Nat.le_of_ble_eq_true rfl, Nat.le_of_ble_eq_true rfl⟩) ⟨rd_blind, rd_pre (hP.sub [] rfl) hG⟩ rfl rfl hl.1 rfl (lv_room (Nat.le_of_ble_eq_true rfl)) dX6_says_28 ⟨Nat.zero_le _, Nat.zero_le _⟩) ?_
      refine lv_goto (tgt := 40) hx hb dX6_says_31 (by decide) ?_
      cases hf
      exact W.iret hx hb hr (fun t ht hW => ⟨rfl, ht⟩) (fun _ h => nomatch h) dX6_says_40
    · replace hf := (if_pos hc).symm.trans hf
      refine lv_aload_n hx hb dX6_says_13 rfl (lv_at hl 0 rfl) ?_
      refine lv_iload_n hx hb dX6_says_14 rfl (lv_at hl 1 rfl) ?_
      obtain ⟨o6, ho6, hf⟩ := Option.bind_eq_some_iff.mp hf
      refine pcI (va_runV (As := [.int p_1]) (rest := []) ⟨hx, hb, hml, hown, hts⟩ (c_X6_isRead l dC dI cI cZ cR cJ (a_this := a_this) (a_this_candidates := a_this_candidates) (a_this_winners := a_this_winners) (a_this_boxOf := a_this_boxOf) (a_this_word := a_this_word) (a_this_drawn := a_this_drawn) (a_this_isLost := a_this_isLost) (a_this_hasRead := a_this_hasRead) (a_this_hand := a_this_hand) (a_this_votes := a_this_votes) (a_this_isWinner := a_this_isWinner) (v_this_thrown := v_this_thrown) (v_this_races := v_this_races) (v_this_boxes := v_this_boxes) (v_this_papers := v_this_papers) (v_this_draws := v_this_draws) (v_this_isSealed := v_this_isSealed) (v_this_state := v_this_state) (v_this_margin := v_this_margin) (v_this_having := v_this_having) (v_this_x := v_this_x) (v_this_m := v_this_m) (v_this_took := v_this_took) (f_this_hasRead := f_this_hasRead) (p_1 := p_1) (r0 := o6) (N := N)  ho6) (cwV 1 hts gX6_says_X6_isRead rfl rfl rfl (by decide +kernel) ⟨Nat.le_of_ble_eq_true rfl, Nat.le_of_ble_eq_true rfl⟩) ⟨rd_blind, va_recv hK hP (ci := 6) (q0 := 0) rfl rfl, rd_pre (hP.sub [0, 3] rfl) hG⟩ rfl rfl hl.1 rfl (lv_room (Nat.le_of_ble_eq_true rfl)) dX6_says_15 ⟨Nat.zero_le _, Nat.zero_le _⟩) ?_
      refine lv_if_ne (tgt := 34) hx hb dX6_says_18 (by decide) (fun hc => ?_) (fun hc => ?_)
      · replace hf := (if_neg hc).symm.trans hf
        refine lv_aload_n hx hb dX6_says_34 rfl (lv_at hl 0 rfl) ?_
        refine lv_iload_n hx hb dX6_says_35 rfl (lv_at hl 1 rfl) ?_
        refine lv_iload_n hx hb dX6_says_36 rfl (lv_at hl 2 rfl) ?_
        obtain ⟨o7, ho7, hf⟩ := Option.bind_eq_some_iff.mp hf
        refine pcI (va_runV (As := [.int p_1, .int p_2]) (rest := []) ⟨hx, hb, hml, hown, hts⟩ (c_X6_readingOf l dC dI cI cZ cR cJ (a_this := a_this) (a_this_candidates := a_this_candidates) (a_this_winners := a_this_winners) (a_this_boxOf := a_this_boxOf) (a_this_word := a_this_word) (a_this_drawn := a_this_drawn) (a_this_isLost := a_this_isLost) (a_this_hasRead := a_this_hasRead) (a_this_hand := a_this_hand) (a_this_votes := a_this_votes) (a_this_isWinner := a_this_isWinner) (v_this_thrown := v_this_thrown) (v_this_races := v_this_races) (v_this_boxes := v_this_boxes) (v_this_papers := v_this_papers) (v_this_draws := v_this_draws) (v_this_isSealed := v_this_isSealed) (v_this_state := v_this_state) (v_this_margin := v_this_margin) (v_this_having := v_this_having) (v_this_x := v_this_x) (v_this_m := v_this_m) (v_this_took := v_this_took) (f_this_hasRead := f_this_hasRead) (f_this_hand := f_this_hand) (p_1 := p_1) (p_2 := p_2) (r0 := o7) (N := N)  ho7) (cwV 2 hts gX6_says_X6_readingOf rfl rfl rfl (by decide +kernel) ⟨Nat.le_of_ble_eq_true rfl, Nat.le_of_ble_eq_true rfl⟩) ⟨rd_blind, va_recv hK hP (ci := 6) (q0 := 0) rfl rfl, rd_pre (hP.sub [0, 3, 4] rfl) hG⟩ rfl rfl hl.1 rfl (lv_room (Nat.le_of_ble_eq_true rfl)) dX6_says_37 ⟨Nat.zero_le _, Nat.zero_le _⟩) ?_
        cases hf
        exact W.iret hx hb hr (fun t ht hW => ⟨rfl, ht⟩) (fun _ h => nomatch h) dX6_says_40
      · replace hf := (if_pos hc).symm.trans hf
        refine lv_aload_n hx hb dX6_says_21 rfl (lv_at hl 0 rfl) ?_
        refine va_get (D := (dC, dI)) (ci := 6) (v := .ref a_this_word) (C := RX6) (T := TX6) (N := 22) hx hb hts hiX6 hown hK hP 0 rfl rfl 8 (by decide) (hts (.fieldLink RX6 19 "SureCountModel" "word" "[I") (by decide +kernel)) (fun _ h9 => h9) rfl dX6_says_22 ?_
        refine lv_iload_n hx hb dX6_says_25 rfl (lv_at hl 1 rfl) ?_
        have hi8 := (gd_some hf).1
        replace hf := (gd_some hf).2
        refine va_iald hx hb hK hP 1 0 rfl rfl hi8 dX6_says_26 ?_
        refine lv_iload_n hx hb dX6_says_27 rfl (lv_at hl 2 rfl) ?_
        obtain ⟨o9, ho9, hf⟩ := Option.bind_eq_some_iff.mp hf
        refine pcI (va_runS (As := [.int (f_this_word p_1.toNatClampNeg), .int p_2]) (rest := []) ⟨hx, hb, hml, hown, hts⟩ (c_X6_of l dC dI cI cZ cR cJ (p_0 := f_this_word p_1.toNatClampNeg) (p_1 := p_2) (r0 := o9) (N := N)  ho9) (cwS 2 hts gX6_says_X6_of rfl rfl rfl (by decide +kernel) ⟨Nat.le_of_ble_eq_true rfl, Nat.le_of_ble_eq_true rfl⟩) ⟨rd_blind, rd_pre (hP.sub [] rfl) hG⟩ rfl rfl hl.1 rfl (lv_room (Nat.le_of_ble_eq_true rfl)) dX6_says_28 ⟨Nat.zero_le _, Nat.zero_le _⟩) ?_
        refine lv_goto (tgt := 40) hx hb dX6_says_31 (by decide) ?_
        cases hf
        exact W.iret hx hb hr (fun t ht hW => ⟨rfl, ht⟩) (fun _ h => nomatch h) dX6_says_40
def f_X6_votesOf_L6 (N : Nat) (p_1 : Int32) (p_2 : Int32) (p_3 : Int32) (v_this_papers : Int32) (f_this_word : Nat → Int32) (f_this_isLost : Nat → Int32) (f_this_hasRead : Nat → Int32) (f_this_hand : Nat → Int32)  : Nat → Int32 → Int32 → Option (Int32)
  | 0, _, _ => none
  | n6 + 1, x_4, x_5 => if v_this_papers ≤ x_5 then (some x_4) else (Option.bind (f_X6_says N x_5 p_1 p_3 f_this_word f_this_isLost f_this_hasRead f_this_hand) (fun o1 => if o1 = p_2 then (f_X6_votesOf_L6 N p_1 p_2 p_3 v_this_papers f_this_word f_this_isLost f_this_hasRead f_this_hand n6 (x_4 + (1 : Int32)) (x_5 + (1 : Int32))) else (f_X6_votesOf_L6 N p_1 p_2 p_3 v_this_papers f_this_word f_this_isLost f_this_hasRead f_this_hand n6 x_4 (x_5 + (1 : Int32)))))
def f_X6_votesOf (N : Nat) (p_1 : Int32) (p_2 : Int32) (p_3 : Int32) (v_this_papers : Int32) (f_this_word : Nat → Int32) (f_this_isLost : Nat → Int32) (f_this_hasRead : Nat → Int32) (f_this_hand : Nat → Int32) : Option (Int32) := f_X6_votesOf_L6 N p_1 p_2 p_3 v_this_papers f_this_word f_this_isLost f_this_hasRead f_this_hand  N (0 : Int32) (0 : Int32)
set_option maxHeartbeats 4000000 in
set_option maxRecDepth 100000 in
theorem c_X6_votesOf (l : Launch) (dC : Nat → ClassId) (dI : Nat → Nat → Nat) (cI cZ cR cJ : ClassId) (a_this a_this_candidates a_this_winners a_this_boxOf a_this_word a_this_drawn a_this_isLost a_this_hasRead a_this_hand a_this_votes a_this_isWinner : Nat) (v_this_thrown : Int32) (v_this_races : Int32) (v_this_boxes : Int32) (v_this_papers : Int32) (v_this_draws : Int32) (v_this_isSealed : Int32) (v_this_state : Int64) (v_this_margin : Int32) (v_this_having : Int32) (v_this_x : Int32) (v_this_m : Int32) (v_this_took : Int32) (f_this_word : Nat → Int32) (f_this_isLost : Nat → Int32) (f_this_hasRead : Nat → Int32) (f_this_hand : Nat → Int32) (p_1 : Int32) (p_2 : Int32) (p_3 : Int32) (N : Nat) (r0 : Int32) (hf : f_X6_votesOf N p_1 p_2 p_3 v_this_papers f_this_word f_this_isLost f_this_hasRead f_this_hand = some r0) : Met l yX6_votesOf wsX6_votesOf ({ frames := 3, cells := 0, slots := 0, locals := 71 } : Room) (va_Pc ([.ref a_this, .int p_1, .int p_2, .int p_3] : List Value) (rdB (dC, dI) [(a_this, .inr (6, [.int v_this_thrown, .int v_this_races, .int v_this_boxes, .int v_this_papers, .int v_this_draws, .ref a_this_candidates, .ref a_this_winners, .ref a_this_boxOf, .ref a_this_word, .ref a_this_drawn, .ref a_this_isLost, .ref a_this_hasRead, .ref a_this_hand, .int v_this_isSealed, .long v_this_state, .ref a_this_votes, .ref a_this_isWinner, .int v_this_margin, .int v_this_having, .int v_this_x, .int v_this_m, .int v_this_took])), (a_this_word, .inl (cI, 300, .inl f_this_word)), (a_this_isLost, .inl (cZ, 300, .inl f_this_isLost)), (a_this_hasRead, .inl (cZ, 900, .inl f_this_hasRead)), (a_this_hand, .inl (cI, 900, .inl f_this_hand))] (GG dC dI cI cZ cR cJ))) (pqI r0) 0 0 noF := by
  refine Met.ofW (cc := cX6_votesOf) (maxL := 6) (ret := (some .int)) (by decide) rfl ?_
  intro p e s m args below meth c s₁ B hml hv
  obtain ⟨rfl, hP, hG⟩ := hv
  have hx := B.exec
  have hb := B.bytes
  have hr := B.returns
  have hts := atoms_spec (ws := wsX6_votesOf) B.pre
  have hown : s.vm.findClass RX6 = some m.cls := findClass_of_methodNamed B.named
  have hlocks := B.notSynchronized
  have hK := hG.1
  have hiX6 : ∀ w ∈ u_ws RX6 TX6 22, w ∈ wsX6_votesOf := by decide +kernel
  have loop6 : ∀ (n : Nat) (x_4 : Int32) (x_5 : Int32) (ls : Array Slot), lv_has ls 6 [(0, .ref a_this), (1, .int p_1), (2, .int p_2), (3, .int p_3), (4, .int x_4), (5, .int x_5)] → f_X6_votesOf_L6 N p_1 p_2 p_3 v_this_papers f_this_word f_this_isLost f_this_hasRead f_this_hand  n x_4 x_5 = some r0 → W p l e (headSpec wsX6_votesOf ({ frames := 3, cells := 0, slots := 0, locals := 71 } : Room)).room s m ([.ref a_this, .int p_1, .int p_2, .int p_3] : List Value).toArray below meth c s.heap [] 0 0 (MQ below (pqI r0) ([.ref a_this, .int p_1, .int p_2, .int p_3] : List Value).toArray s 0 0 noF) (F0 m 6 ls []) := by
    intro n
    induction n with
    | zero => intro x_4 x_5 ls hl hf; rw [f_X6_votesOf_L6] at hf; cases hf
    | succ n6 ih6 =>
      intro x_4 x_5 ls hl hf
      rw [f_X6_votesOf_L6] at hf
      refine lv_iload hx hb dX6_votesOf_6 (lv_at hl 5 rfl) ?_
      refine lv_aload_n hx hb dX6_votesOf_8 rfl (lv_at hl 0 rfl) ?_
      refine va_get (D := (dC, dI)) (ci := 6) (v := .int v_this_papers) (C := RX6) (T := TX6) (N := 22) hx hb hts hiX6 hown hK hP 0 rfl rfl 3 (by decide) (hts (.fieldLink RX6 48 "SureCountModel" "papers" "I") (by decide +kernel)) (fun _ h9 => h9) rfl dX6_votesOf_9 ?_
      refine lv_icmp_ge (tgt := 36) hx hb dX6_votesOf_12 (by decide) (fun hc => ?_) (fun hc => ?_)
      · replace hf := (if_pos hc).symm.trans hf
        refine lv_iload hx hb dX6_votesOf_36 (lv_at hl 4 rfl) ?_
        cases hf
        exact W.iret hx hb hr (fun t ht hW => ⟨rfl, ht⟩) (fun _ h => nomatch h) dX6_votesOf_38
      · replace hf := (if_neg hc).symm.trans hf
        refine lv_aload_n hx hb dX6_votesOf_15 rfl (lv_at hl 0 rfl) ?_
        refine lv_iload hx hb dX6_votesOf_16 (lv_at hl 5 rfl) ?_
        refine lv_iload_n hx hb dX6_votesOf_18 rfl (lv_at hl 1 rfl) ?_
        refine lv_iload_n hx hb dX6_votesOf_19 rfl (lv_at hl 3 rfl) ?_
        obtain ⟨o1, ho1, hf⟩ := Option.bind_eq_some_iff.mp hf
        refine pcI (va_runV (As := [.int x_5, .int p_1, .int p_3]) (rest := []) ⟨hx, hb, hml, hown, hts⟩ (c_X6_says l dC dI cI cZ cR cJ (a_this := a_this) (a_this_candidates := a_this_candidates) (a_this_winners := a_this_winners) (a_this_boxOf := a_this_boxOf) (a_this_word := a_this_word) (a_this_drawn := a_this_drawn) (a_this_isLost := a_this_isLost) (a_this_hasRead := a_this_hasRead) (a_this_hand := a_this_hand) (a_this_votes := a_this_votes) (a_this_isWinner := a_this_isWinner) (v_this_thrown := v_this_thrown) (v_this_races := v_this_races) (v_this_boxes := v_this_boxes) (v_this_papers := v_this_papers) (v_this_draws := v_this_draws) (v_this_isSealed := v_this_isSealed) (v_this_state := v_this_state) (v_this_margin := v_this_margin) (v_this_having := v_this_having) (v_this_x := v_this_x) (v_this_m := v_this_m) (v_this_took := v_this_took) (f_this_word := f_this_word) (f_this_isLost := f_this_isLost) (f_this_hasRead := f_this_hasRead) (f_this_hand := f_this_hand) (p_1 := x_5) (p_2 := p_1) (p_3 := p_3) (r0 := o1) (N := N)  ho1) (cwV 3 hts gX6_votesOf_X6_says rfl rfl rfl (by decide +kernel) ⟨Nat.le_of_ble_eq_true rfl, Nat.le_of_ble_eq_true rfl⟩) ⟨rd_blind, va_recv hK hP (ci := 6) (q0 := 0) rfl rfl, rd_pre (hP.sub [0, 1, 2, 3, 4] rfl) hG⟩ rfl rfl hl.1 rfl (lv_room (Nat.le_of_ble_eq_true rfl)) dX6_votesOf_20 ⟨Nat.zero_le _, Nat.zero_le _⟩) ?_
        refine lv_iload_n hx hb dX6_votesOf_23 rfl (lv_at hl 2 rfl) ?_
        refine lv_icmp_ne (tgt := 30) hx hb dX6_votesOf_24 (by decide) (fun hc => ?_) (fun hc => ?_)
        · replace hf := (if_neg hc).symm.trans hf
          refine lv_iinc (v := x_5 + (1 : Int32)) (lv' := [(5, .int (x_5 + (1 : Int32))), (0, .ref a_this), (1, .int p_1), (2, .int p_2), (3, .int p_3), (4, .int x_4)]) hx hb dX6_votesOf_30 hl (k := 5) rfl (by first | rfl | decide) (by decide) rfl (fun ls hl => ?_)
          refine lv_goto (tgt := 6) hx hb dX6_votesOf_33 (by decide) ?_
          exact ih6 x_4 (x_5 + (1 : Int32)) ls (lv_sub hl [1, 2, 3, 4, 5, 0] rfl) hf
        · replace hf := (if_pos hc).symm.trans hf
          refine lv_iinc (v := x_4 + (1 : Int32)) (lv' := [(4, .int (x_4 + (1 : Int32))), (0, .ref a_this), (1, .int p_1), (2, .int p_2), (3, .int p_3), (5, .int x_5)]) hx hb dX6_votesOf_27 hl (k := 4) rfl (by first | rfl | decide) (by decide) rfl (fun ls hl => ?_)
          refine lv_iinc (v := x_5 + (1 : Int32)) (lv' := [(5, .int (x_5 + (1 : Int32))), (4, .int (x_4 + (1 : Int32))), (0, .ref a_this), (1, .int p_1), (2, .int p_2), (3, .int p_3)]) hx hb dX6_votesOf_30 hl (k := 5) rfl (by first | rfl | decide) (by decide) rfl (fun ls hl => ?_)
          refine lv_goto (tgt := 6) hx hb dX6_votesOf_33 (by decide) ?_
          exact ih6 (x_4 + (1 : Int32)) (x_5 + (1 : Int32)) ls (lv_sub hl [2, 3, 4, 5, 1, 0] rfl) hf
  refine w_entry [(0, .ref a_this), (1, .int p_1), (2, .int p_2), (3, .int p_3)] (Nat.le_of_ble_eq_true rfl) rfl (fun ls hl => ?_)
  rw [f_X6_votesOf] at hf
  refine lv_iconst (v := (0 : Int32)) hx hb dX6_votesOf_0 (by decide) ?_
  refine lv_istore (lv' := [(4, .int (0 : Int32)), (0, .ref a_this), (1, .int p_1), (2, .int p_2), (3, .int p_3)]) hx hb dX6_votesOf_1 hl (by decide) rfl (fun ls hl => ?_)
  refine lv_iconst (v := (0 : Int32)) hx hb dX6_votesOf_3 (by decide) ?_
  refine lv_istore (lv' := [(5, .int (0 : Int32)), (4, .int (0 : Int32)), (0, .ref a_this), (1, .int p_1), (2, .int p_2), (3, .int p_3)]) hx hb dX6_votesOf_4 hl (by decide) rfl (fun ls hl => ?_)
  exact loop6 N (0 : Int32) (0 : Int32) ls (lv_sub hl [2, 3, 4, 5, 1, 0] rfl) hf
def f_X6_winsBy_L15 (N : Nat) (p_1 : Int32) (p_2 : Int32) (p_3 : Int32) (v_this_papers : Int32) (f_this_word : Nat → Int32) (f_this_isLost : Nat → Int32) (f_this_hasRead : Nat → Int32) (f_this_hand : Nat → Int32) (f_this_candidates : Nat → Int32) (f_this_winners : Nat → Int32)  : Nat → Int32 → Int32 → Int32 → Option (Int32)
  | 0, _, _, _ => none
  | n15 + 1, x_4, x_5, x_6 => gd p_1 5 (if (f_this_candidates p_1.toNatClampNeg) < x_6 then (gd p_1 5 (if (f_this_winners p_1.toNatClampNeg) ≤ x_5 then (some (0 : Int32)) else (some (1 : Int32)))) else (if x_6 = p_2 then (if x_4 < (0 : Int32) then (f_X6_winsBy_L15 N p_1 p_2 p_3 v_this_papers f_this_word f_this_isLost f_this_hasRead f_this_hand f_this_candidates f_this_winners n15 x_4 (x_5 + (1 : Int32)) (x_6 + (1 : Int32))) else (if (0 : Int32) = x_4 then (if p_2 ≤ x_6 then (f_X6_winsBy_L15 N p_1 p_2 p_3 v_this_papers f_this_word f_this_isLost f_this_hasRead f_this_hand f_this_candidates f_this_winners n15 x_4 x_5 (x_6 + (1 : Int32))) else (f_X6_winsBy_L15 N p_1 p_2 p_3 v_this_papers f_this_word f_this_isLost f_this_hasRead f_this_hand f_this_candidates f_this_winners n15 x_4 (x_5 + (1 : Int32)) (x_6 + (1 : Int32)))) else (f_X6_winsBy_L15 N p_1 p_2 p_3 v_this_papers f_this_word f_this_isLost f_this_hasRead f_this_hand f_this_candidates f_this_winners n15 x_4 x_5 (x_6 + (1 : Int32))))) else (Option.bind (f_X6_votesOf N p_1 x_6 p_3 v_this_papers f_this_word f_this_isLost f_this_hasRead f_this_hand) (fun o4 => if x_4 < o4 then (f_X6_winsBy_L15 N p_1 p_2 p_3 v_this_papers f_this_word f_this_isLost f_this_hasRead f_this_hand f_this_candidates f_this_winners n15 x_4 (x_5 + (1 : Int32)) (x_6 + (1 : Int32))) else (if o4 = x_4 then (if p_2 ≤ x_6 then (f_X6_winsBy_L15 N p_1 p_2 p_3 v_this_papers f_this_word f_this_isLost f_this_hasRead f_this_hand f_this_candidates f_this_winners n15 x_4 x_5 (x_6 + (1 : Int32))) else (f_X6_winsBy_L15 N p_1 p_2 p_3 v_this_papers f_this_word f_this_isLost f_this_hasRead f_this_hand f_this_candidates f_this_winners n15 x_4 (x_5 + (1 : Int32)) (x_6 + (1 : Int32)))) else (f_X6_winsBy_L15 N p_1 p_2 p_3 v_this_papers f_this_word f_this_isLost f_this_hasRead f_this_hand f_this_candidates f_this_winners n15 x_4 x_5 (x_6 + (1 : Int32))))))))
def f_X6_winsBy (N : Nat) (p_1 : Int32) (p_2 : Int32) (p_3 : Int32) (v_this_papers : Int32) (f_this_word : Nat → Int32) (f_this_isLost : Nat → Int32) (f_this_hasRead : Nat → Int32) (f_this_hand : Nat → Int32) (f_this_candidates : Nat → Int32) (f_this_winners : Nat → Int32) : Option (Int32) := Option.bind (f_X6_votesOf N p_1 p_2 p_3 v_this_papers f_this_word f_this_isLost f_this_hasRead f_this_hand) (fun o1 => f_X6_winsBy_L15 N p_1 p_2 p_3 v_this_papers f_this_word f_this_isLost f_this_hasRead f_this_hand f_this_candidates f_this_winners  N o1 (0 : Int32) (1 : Int32))
set_option maxHeartbeats 4000000 in
set_option maxRecDepth 100000 in
theorem c_X6_winsBy (l : Launch) (dC : Nat → ClassId) (dI : Nat → Nat → Nat) (cI cZ cR cJ : ClassId) (a_this a_this_candidates a_this_winners a_this_boxOf a_this_word a_this_drawn a_this_isLost a_this_hasRead a_this_hand a_this_votes a_this_isWinner : Nat) (v_this_thrown : Int32) (v_this_races : Int32) (v_this_boxes : Int32) (v_this_papers : Int32) (v_this_draws : Int32) (v_this_isSealed : Int32) (v_this_state : Int64) (v_this_margin : Int32) (v_this_having : Int32) (v_this_x : Int32) (v_this_m : Int32) (v_this_took : Int32) (f_this_word : Nat → Int32) (f_this_isLost : Nat → Int32) (f_this_hasRead : Nat → Int32) (f_this_hand : Nat → Int32) (f_this_candidates : Nat → Int32) (f_this_winners : Nat → Int32) (p_1 : Int32) (p_2 : Int32) (p_3 : Int32) (N : Nat) (r0 : Int32) (hf : f_X6_winsBy N p_1 p_2 p_3 v_this_papers f_this_word f_this_isLost f_this_hasRead f_this_hand f_this_candidates f_this_winners = some r0) : Met l yX6_winsBy wsX6_winsBy ({ frames := 4, cells := 0, slots := 0, locals := 96 } : Room) (va_Pc ([.ref a_this, .int p_1, .int p_2, .int p_3] : List Value) (rdB (dC, dI) [(a_this, .inr (6, [.int v_this_thrown, .int v_this_races, .int v_this_boxes, .int v_this_papers, .int v_this_draws, .ref a_this_candidates, .ref a_this_winners, .ref a_this_boxOf, .ref a_this_word, .ref a_this_drawn, .ref a_this_isLost, .ref a_this_hasRead, .ref a_this_hand, .int v_this_isSealed, .long v_this_state, .ref a_this_votes, .ref a_this_isWinner, .int v_this_margin, .int v_this_having, .int v_this_x, .int v_this_m, .int v_this_took])), (a_this_word, .inl (cI, 300, .inl f_this_word)), (a_this_isLost, .inl (cZ, 300, .inl f_this_isLost)), (a_this_hasRead, .inl (cZ, 900, .inl f_this_hasRead)), (a_this_hand, .inl (cI, 900, .inl f_this_hand)), (a_this_candidates, .inl (cI, 5, .inl f_this_candidates)), (a_this_winners, .inl (cI, 5, .inl f_this_winners))] (GG dC dI cI cZ cR cJ))) (pqI r0) 0 0 noF := by
  refine Met.ofW (cc := cX6_winsBy) (maxL := 8) (ret := (some .boolean)) (by decide) rfl ?_
  intro p e s m args below meth c s₁ B hml hv
  obtain ⟨rfl, hP, hG⟩ := hv
  have hx := B.exec
  have hb := B.bytes
  have hr := B.returns
  have hts := atoms_spec (ws := wsX6_winsBy) B.pre
  have hown : s.vm.findClass RX6 = some m.cls := findClass_of_methodNamed B.named
  have hlocks := B.notSynchronized
  have hK := hG.1
  have hiX6 : ∀ w ∈ u_ws RX6 TX6 22, w ∈ wsX6_winsBy := by decide +kernel
  have loop15 : ∀ (n : Nat) (x_4 : Int32) (x_5 : Int32) (x_6 : Int32) (ls : Array Slot), lv_has ls 8 [(0, .ref a_this), (1, .int p_1), (2, .int p_2), (3, .int p_3), (4, .int x_4), (5, .int x_5), (6, .int x_6)] → f_X6_winsBy_L15 N p_1 p_2 p_3 v_this_papers f_this_word f_this_isLost f_this_hasRead f_this_hand f_this_candidates f_this_winners  n x_4 x_5 x_6 = some r0 → W p l e (headSpec wsX6_winsBy ({ frames := 4, cells := 0, slots := 0, locals := 96 } : Room)).room s m ([.ref a_this, .int p_1, .int p_2, .int p_3] : List Value).toArray below meth c s.heap [] 0 0 (MQ below (pqI r0) ([.ref a_this, .int p_1, .int p_2, .int p_3] : List Value).toArray s 0 0 noF) (F0 m 15 ls []) := by
    intro n
    induction n with
    | zero => intro x_4 x_5 x_6 ls hl hf; rw [f_X6_winsBy_L15] at hf; cases hf
    | succ n15 ih15 =>
      intro x_4 x_5 x_6 ls hl hf
      rw [f_X6_winsBy_L15] at hf
      refine lv_iload hx hb dX6_winsBy_15 (lv_at hl 6 rfl) ?_
      refine lv_aload_n hx hb dX6_winsBy_17 rfl (lv_at hl 0 rfl) ?_
      refine va_get (D := (dC, dI)) (ci := 6) (v := .ref a_this_candidates) (C := RX6) (T := TX6) (N := 22) hx hb hts hiX6 hown hK hP 0 rfl rfl 5 (by decide) (hts (.fieldLink RX6 7 "SureCountModel" "candidates" "[I") (by decide +kernel)) (fun _ h9 => h9) rfl dX6_winsBy_18 ?_
      refine lv_iload_n hx hb dX6_winsBy_21 rfl (lv_at hl 1 rfl) ?_
      have hi2 := (gd_some hf).1
      replace hf := (gd_some hf).2
      refine va_iald hx hb hK hP 5 0 rfl rfl hi2 dX6_winsBy_22 ?_
      refine lv_icmp_gt (tgt := 75) hx hb dX6_winsBy_23 (by decide) (fun hc => ?_) (fun hc => ?_)
      · replace hf := (if_pos hc).symm.trans hf
        refine lv_iload hx hb dX6_winsBy_75 (lv_at hl 5 rfl) ?_
        refine lv_aload_n hx hb dX6_winsBy_77 rfl (lv_at hl 0 rfl) ?_
        refine va_get (D := (dC, dI)) (ci := 6) (v := .ref a_this_winners) (C := RX6) (T := TX6) (N := 22) hx hb hts hiX6 hown hK hP 0 rfl rfl 6 (by decide) (hts (.fieldLink RX6 13 "SureCountModel" "winners" "[I") (by decide +kernel)) (fun _ h9 => h9) rfl dX6_winsBy_78 ?_
        refine lv_iload_n hx hb dX6_winsBy_81 rfl (lv_at hl 1 rfl) ?_
        have hi3 := (gd_some hf).1
        replace hf := (gd_some hf).2
        refine va_iald hx hb hK hP 6 0 rfl rfl hi3 dX6_winsBy_82 ?_
        refine lv_icmp_ge (tgt := 90) hx hb dX6_winsBy_83 (by decide) (fun hc => ?_) (fun hc => ?_)
        · replace hf := (if_pos hc).symm.trans hf
          refine lv_iconst (v := (0 : Int32)) hx hb dX6_winsBy_90 (by decide) ?_
          cases hf
          exact W.zret hx hb hr rfl (fun t ht hW => ⟨rfl, ht⟩) (fun _ h => nomatch h) dX6_winsBy_91
        · replace hf := (if_neg hc).symm.trans hf
          refine lv_iconst (v := (1 : Int32)) hx hb dX6_winsBy_86 (by decide) ?_
          refine lv_goto (tgt := 91) hx hb dX6_winsBy_87 (by decide) ?_
          cases hf
          exact W.zret hx hb hr rfl (fun t ht hW => ⟨rfl, ht⟩) (fun _ h => nomatch h) dX6_winsBy_91
      · replace hf := (if_neg hc).symm.trans hf
        refine lv_iload hx hb dX6_winsBy_26 (lv_at hl 6 rfl) ?_
        refine lv_iload_n hx hb dX6_winsBy_28 rfl (lv_at hl 2 rfl) ?_
        refine lv_icmp_ne (tgt := 36) hx hb dX6_winsBy_29 (by decide) (fun hc => ?_) (fun hc => ?_)
        · replace hf := (if_neg hc).symm.trans hf
          refine lv_aload_n hx hb dX6_winsBy_36 rfl (lv_at hl 0 rfl) ?_
          refine lv_iload_n hx hb dX6_winsBy_37 rfl (lv_at hl 1 rfl) ?_
          refine lv_iload hx hb dX6_winsBy_38 (lv_at hl 6 rfl) ?_
          refine lv_iload_n hx hb dX6_winsBy_40 rfl (lv_at hl 3 rfl) ?_
          obtain ⟨o4, ho4, hf⟩ := Option.bind_eq_some_iff.mp hf
          refine pcI (va_runV (As := [.int p_1, .int x_6, .int p_3]) (rest := []) ⟨hx, hb, hml, hown, hts⟩ (c_X6_votesOf l dC dI cI cZ cR cJ (a_this := a_this) (a_this_candidates := a_this_candidates) (a_this_winners := a_this_winners) (a_this_boxOf := a_this_boxOf) (a_this_word := a_this_word) (a_this_drawn := a_this_drawn) (a_this_isLost := a_this_isLost) (a_this_hasRead := a_this_hasRead) (a_this_hand := a_this_hand) (a_this_votes := a_this_votes) (a_this_isWinner := a_this_isWinner) (v_this_thrown := v_this_thrown) (v_this_races := v_this_races) (v_this_boxes := v_this_boxes) (v_this_papers := v_this_papers) (v_this_draws := v_this_draws) (v_this_isSealed := v_this_isSealed) (v_this_state := v_this_state) (v_this_margin := v_this_margin) (v_this_having := v_this_having) (v_this_x := v_this_x) (v_this_m := v_this_m) (v_this_took := v_this_took) (f_this_word := f_this_word) (f_this_isLost := f_this_isLost) (f_this_hasRead := f_this_hasRead) (f_this_hand := f_this_hand) (p_1 := p_1) (p_2 := x_6) (p_3 := p_3) (r0 := o4) (N := N)  ho4) (cwV 3 hts gX6_winsBy_X6_votesOf rfl rfl rfl (by decide +kernel) ⟨Nat.le_of_ble_eq_true rfl, Nat.le_of_ble_eq_true rfl⟩) ⟨rd_blind, va_recv hK hP (ci := 6) (q0 := 0) rfl rfl, rd_pre (hP.sub [0, 1, 2, 3, 4] rfl) hG⟩ rfl rfl hl.1 rfl (lv_room (Nat.le_of_ble_eq_true rfl)) dX6_winsBy_41 ⟨Nat.zero_le _, Nat.zero_le _⟩) ?_
          refine lv_istore (lv' := [(7, .int o4), (0, .ref a_this), (1, .int p_1), (2, .int p_2), (3, .int p_3), (4, .int x_4), (5, .int x_5), (6, .int x_6)]) hx hb dX6_winsBy_44 hl (by decide) rfl (fun ls hl => ?_)
          refine lv_iload hx hb dX6_winsBy_46 (lv_at hl 0 rfl) ?_
          refine lv_iload hx hb dX6_winsBy_48 (lv_at hl 5 rfl) ?_
          refine lv_icmp_gt (tgt := 66) hx hb dX6_winsBy_50 (by decide) (fun hc => ?_) (fun hc => ?_)
          · replace hf := (if_pos hc).symm.trans hf
            refine lv_iinc (v := x_5 + (1 : Int32)) (lv' := [(5, .int (x_5 + (1 : Int32))), (7, .int o4), (0, .ref a_this), (1, .int p_1), (2, .int p_2), (3, .int p_3), (4, .int x_4), (6, .int x_6)]) hx hb dX6_winsBy_66 hl (k := 6) rfl (by first | rfl | decide) (by decide) rfl (fun ls hl => ?_)
            refine lv_iinc (v := x_6 + (1 : Int32)) (lv' := [(6, .int (x_6 + (1 : Int32))), (5, .int (x_5 + (1 : Int32))), (7, .int o4), (0, .ref a_this), (1, .int p_1), (2, .int p_2), (3, .int p_3), (4, .int x_4)]) hx hb dX6_winsBy_69 hl (k := 7) rfl (by first | rfl | decide) (by decide) rfl (fun ls hl => ?_)
            refine lv_goto (tgt := 15) hx hb dX6_winsBy_72 (by decide) ?_
            exact ih15 x_4 (x_5 + (1 : Int32)) (x_6 + (1 : Int32)) ls (lv_sub hl [3, 4, 5, 6, 7, 1, 0] rfl) hf
          · replace hf := (if_neg hc).symm.trans hf
            refine lv_iload hx hb dX6_winsBy_53 (lv_at hl 0 rfl) ?_
            refine lv_iload hx hb dX6_winsBy_55 (lv_at hl 5 rfl) ?_
            refine lv_icmp_ne (tgt := 69) hx hb dX6_winsBy_57 (by decide) (fun hc => ?_) (fun hc => ?_)
            · replace hf := (if_neg hc).symm.trans hf
              refine lv_iinc (v := x_6 + (1 : Int32)) (lv' := [(6, .int (x_6 + (1 : Int32))), (7, .int o4), (0, .ref a_this), (1, .int p_1), (2, .int p_2), (3, .int p_3), (4, .int x_4), (5, .int x_5)]) hx hb dX6_winsBy_69 hl (k := 7) rfl (by first | rfl | decide) (by decide) rfl (fun ls hl => ?_)
              refine lv_goto (tgt := 15) hx hb dX6_winsBy_72 (by decide) ?_
              exact ih15 x_4 x_5 (x_6 + (1 : Int32)) ls (lv_sub hl [2, 3, 4, 5, 6, 7, 0] rfl) hf
            · replace hf := (if_pos hc).symm.trans hf
              refine lv_iload hx hb dX6_winsBy_60 (lv_at hl 7 rfl) ?_
              refine lv_iload_n hx hb dX6_winsBy_62 rfl (lv_at hl 3 rfl) ?_
              refine lv_icmp_ge (tgt := 69) hx hb dX6_winsBy_63 (by decide) (fun hc => ?_) (fun hc => ?_)
              · replace hf := (if_pos hc).symm.trans hf
                refine lv_iinc (v := x_6 + (1 : Int32)) (lv' := [(6, .int (x_6 + (1 : Int32))), (7, .int o4), (0, .ref a_this), (1, .int p_1), (2, .int p_2), (3, .int p_3), (4, .int x_4), (5, .int x_5)]) hx hb dX6_winsBy_69 hl (k := 7) rfl (by first | rfl | decide) (by decide) rfl (fun ls hl => ?_)
                refine lv_goto (tgt := 15) hx hb dX6_winsBy_72 (by decide) ?_
                exact ih15 x_4 x_5 (x_6 + (1 : Int32)) ls (lv_sub hl [2, 3, 4, 5, 6, 7, 0] rfl) hf
              · replace hf := (if_neg hc).symm.trans hf
                refine lv_iinc (v := x_5 + (1 : Int32)) (lv' := [(5, .int (x_5 + (1 : Int32))), (7, .int o4), (0, .ref a_this), (1, .int p_1), (2, .int p_2), (3, .int p_3), (4, .int x_4), (6, .int x_6)]) hx hb dX6_winsBy_66 hl (k := 6) rfl (by first | rfl | decide) (by decide) rfl (fun ls hl => ?_)
                refine lv_iinc (v := x_6 + (1 : Int32)) (lv' := [(6, .int (x_6 + (1 : Int32))), (5, .int (x_5 + (1 : Int32))), (7, .int o4), (0, .ref a_this), (1, .int p_1), (2, .int p_2), (3, .int p_3), (4, .int x_4)]) hx hb dX6_winsBy_69 hl (k := 7) rfl (by first | rfl | decide) (by decide) rfl (fun ls hl => ?_)
                refine lv_goto (tgt := 15) hx hb dX6_winsBy_72 (by decide) ?_
                exact ih15 x_4 (x_5 + (1 : Int32)) (x_6 + (1 : Int32)) ls (lv_sub hl [3, 4, 5, 6, 7, 1, 0] rfl) hf
        · replace hf := (if_pos hc).symm.trans hf
          refine lv_iconst (v := (0 : Int32)) hx hb dX6_winsBy_32 (by decide) ?_
          refine lv_goto (tgt := 44) hx hb dX6_winsBy_33 (by decide) ?_
          refine lv_istore (lv' := [(7, .int (0 : Int32)), (0, .ref a_this), (1, .int p_1), (2, .int p_2), (3, .int p_3), (4, .int x_4), (5, .int x_5), (6, .int x_6)]) hx hb dX6_winsBy_44 hl (by decide) rfl (fun ls hl => ?_)
          refine lv_iload hx hb dX6_winsBy_46 (lv_at hl 0 rfl) ?_
          refine lv_iload hx hb dX6_winsBy_48 (lv_at hl 5 rfl) ?_
          refine lv_icmp_gt (tgt := 66) hx hb dX6_winsBy_50 (by decide) (fun hc => ?_) (fun hc => ?_)
          · replace hf := (if_pos hc).symm.trans hf
            refine lv_iinc (v := x_5 + (1 : Int32)) (lv' := [(5, .int (x_5 + (1 : Int32))), (7, .int (0 : Int32)), (0, .ref a_this), (1, .int p_1), (2, .int p_2), (3, .int p_3), (4, .int x_4), (6, .int x_6)]) hx hb dX6_winsBy_66 hl (k := 6) rfl (by first | rfl | decide) (by decide) rfl (fun ls hl => ?_)
            refine lv_iinc (v := x_6 + (1 : Int32)) (lv' := [(6, .int (x_6 + (1 : Int32))), (5, .int (x_5 + (1 : Int32))), (7, .int (0 : Int32)), (0, .ref a_this), (1, .int p_1), (2, .int p_2), (3, .int p_3), (4, .int x_4)]) hx hb dX6_winsBy_69 hl (k := 7) rfl (by first | rfl | decide) (by decide) rfl (fun ls hl => ?_)
            refine lv_goto (tgt := 15) hx hb dX6_winsBy_72 (by decide) ?_
            exact ih15 x_4 (x_5 + (1 : Int32)) (x_6 + (1 : Int32)) ls (lv_sub hl [3, 4, 5, 6, 7, 1, 0] rfl) hf
          · replace hf := (if_neg hc).symm.trans hf
            refine lv_iload hx hb dX6_winsBy_53 (lv_at hl 0 rfl) ?_
            refine lv_iload hx hb dX6_winsBy_55 (lv_at hl 5 rfl) ?_
            refine lv_icmp_ne (tgt := 69) hx hb dX6_winsBy_57 (by decide) (fun hc => ?_) (fun hc => ?_)
            · replace hf := (if_neg hc).symm.trans hf
              refine lv_iinc (v := x_6 + (1 : Int32)) (lv' := [(6, .int (x_6 + (1 : Int32))), (7, .int (0 : Int32)), (0, .ref a_this), (1, .int p_1), (2, .int p_2), (3, .int p_3), (4, .int x_4), (5, .int x_5)]) hx hb dX6_winsBy_69 hl (k := 7) rfl (by first | rfl | decide) (by decide) rfl (fun ls hl => ?_)
              refine lv_goto (tgt := 15) hx hb dX6_winsBy_72 (by decide) ?_
              exact ih15 x_4 x_5 (x_6 + (1 : Int32)) ls (lv_sub hl [2, 3, 4, 5, 6, 7, 0] rfl) hf
            · replace hf := (if_pos hc).symm.trans hf
              refine lv_iload hx hb dX6_winsBy_60 (lv_at hl 7 rfl) ?_
              refine lv_iload_n hx hb dX6_winsBy_62 rfl (lv_at hl 3 rfl) ?_
              refine lv_icmp_ge (tgt := 69) hx hb dX6_winsBy_63 (by decide) (fun hc => ?_) (fun hc => ?_)
              · replace hf := (if_pos hc).symm.trans hf
                refine lv_iinc (v := x_6 + (1 : Int32)) (lv' := [(6, .int (x_6 + (1 : Int32))), (7, .int (0 : Int32)), (0, .ref a_this), (1, .int p_1), (2, .int p_2), (3, .int p_3), (4, .int x_4), (5, .int x_5)]) hx hb dX6_winsBy_69 hl (k := 7) rfl (by first | rfl | decide) (by decide) rfl (fun ls hl => ?_)
                refine lv_goto (tgt := 15) hx hb dX6_winsBy_72 (by decide) ?_
                exact ih15 x_4 x_5 (x_6 + (1 : Int32)) ls (lv_sub hl [2, 3, 4, 5, 6, 7, 0] rfl) hf
              · replace hf := (if_neg hc).symm.trans hf
                refine lv_iinc (v := x_5 + (1 : Int32)) (lv' := [(5, .int (x_5 + (1 : Int32))), (7, .int (0 : Int32)), (0, .ref a_this), (1, .int p_1), (2, .int p_2), (3, .int p_3), (4, .int x_4), (6, .int x_6)]) hx hb dX6_winsBy_66 hl (k := 6) rfl (by first | rfl | decide) (by decide) rfl (fun ls hl => ?_)
                refine lv_iinc (v := x_6 + (1 : Int32)) (lv' := [(6, .int (x_6 + (1 : Int32))), (5, .int (x_5 + (1 : Int32))), (7, .int (0 : Int32)), (0, .ref a_this), (1, .int p_1), (2, .int p_2), (3, .int p_3), (4, .int x_4)]) hx hb dX6_winsBy_69 hl (k := 7) rfl (by first | rfl | decide) (by decide) rfl (fun ls hl => ?_)
                refine lv_goto (tgt := 15) hx hb dX6_winsBy_72 (by decide) ?_
                exact ih15 x_4 (x_5 + (1 : Int32)) (x_6 + (1 : Int32)) ls (lv_sub hl [3, 4, 5, 6, 7, 1, 0] rfl) hf
  refine w_entry [(0, .ref a_this), (1, .int p_1), (2, .int p_2), (3, .int p_3)] (Nat.le_of_ble_eq_true rfl) rfl (fun ls hl => ?_)
  rw [f_X6_winsBy] at hf
  refine lv_aload_n hx hb dX6_winsBy_0 rfl (lv_at hl 0 rfl) ?_
  refine lv_iload_n hx hb dX6_winsBy_1 rfl (lv_at hl 1 rfl) ?_
  refine lv_iload_n hx hb dX6_winsBy_2 rfl (lv_at hl 2 rfl) ?_
  refine lv_iload_n hx hb dX6_winsBy_3 rfl (lv_at hl 3 rfl) ?_
  obtain ⟨o1, ho1, hf⟩ := Option.bind_eq_some_iff.mp hf
  refine pcI (va_runV (As := [.int p_1, .int p_2, .int p_3]) (rest := []) ⟨hx, hb, hml, hown, hts⟩ (c_X6_votesOf l dC dI cI cZ cR cJ (a_this := a_this) (a_this_candidates := a_this_candidates) (a_this_winners := a_this_winners) (a_this_boxOf := a_this_boxOf) (a_this_word := a_this_word) (a_this_drawn := a_this_drawn) (a_this_isLost := a_this_isLost) (a_this_hasRead := a_this_hasRead) (a_this_hand := a_this_hand) (a_this_votes := a_this_votes) (a_this_isWinner := a_this_isWinner) (v_this_thrown := v_this_thrown) (v_this_races := v_this_races) (v_this_boxes := v_this_boxes) (v_this_papers := v_this_papers) (v_this_draws := v_this_draws) (v_this_isSealed := v_this_isSealed) (v_this_state := v_this_state) (v_this_margin := v_this_margin) (v_this_having := v_this_having) (v_this_x := v_this_x) (v_this_m := v_this_m) (v_this_took := v_this_took) (f_this_word := f_this_word) (f_this_isLost := f_this_isLost) (f_this_hasRead := f_this_hasRead) (f_this_hand := f_this_hand) (p_1 := p_1) (p_2 := p_2) (p_3 := p_3) (r0 := o1) (N := N)  ho1) (cwV 3 hts gX6_winsBy_X6_votesOf rfl rfl rfl (by decide +kernel) ⟨Nat.le_of_ble_eq_true rfl, Nat.le_of_ble_eq_true rfl⟩) ⟨rd_blind, va_recv hK hP (ci := 6) (q0 := 0) rfl rfl, rd_pre (hP.sub [0, 1, 2, 3, 4] rfl) hG⟩ rfl rfl hl.1 rfl (lv_room (Nat.le_of_ble_eq_true rfl)) dX6_winsBy_4 ⟨Nat.zero_le _, Nat.zero_le _⟩) ?_
  refine lv_istore (lv' := [(4, .int o1), (0, .ref a_this), (1, .int p_1), (2, .int p_2), (3, .int p_3)]) hx hb dX6_winsBy_7 hl (by decide) rfl (fun ls hl => ?_)
  refine lv_iconst (v := (0 : Int32)) hx hb dX6_winsBy_9 (by decide) ?_
  refine lv_istore (lv' := [(5, .int (0 : Int32)), (4, .int o1), (0, .ref a_this), (1, .int p_1), (2, .int p_2), (3, .int p_3)]) hx hb dX6_winsBy_10 hl (by decide) rfl (fun ls hl => ?_)
  refine lv_iconst (v := (1 : Int32)) hx hb dX6_winsBy_12 (by decide) ?_
  refine lv_istore (lv' := [(6, .int (1 : Int32)), (5, .int (0 : Int32)), (4, .int o1), (0, .ref a_this), (1, .int p_1), (2, .int p_2), (3, .int p_3)]) hx hb dX6_winsBy_13 hl (by decide) rfl (fun ls hl => ?_)
  exact loop15 N o1 (0 : Int32) (1 : Int32) ls (lv_sub hl [3, 4, 5, 6, 2, 1, 0] rfl) hf
def f_X6_isKnown (p_1 : Int32) (f_this_isLost : Nat → Int32) (f_this_hasRead : Nat → Int32) : Option (Int32) := gd p_1 300 (if (f_this_isLost p_1.toNatClampNeg) = 0 then (Option.bind (f_X6_isRead p_1 f_this_hasRead) (fun o2 => if o2 = 0 then (some (0 : Int32)) else (some (1 : Int32)))) else (some (1 : Int32)))
set_option maxHeartbeats 4000000 in
set_option maxRecDepth 100000 in
theorem c_X6_isKnown (l : Launch) (dC : Nat → ClassId) (dI : Nat → Nat → Nat) (cI cZ cR cJ : ClassId) (a_this a_this_candidates a_this_winners a_this_boxOf a_this_word a_this_drawn a_this_isLost a_this_hasRead a_this_hand a_this_votes a_this_isWinner : Nat) (v_this_thrown : Int32) (v_this_races : Int32) (v_this_boxes : Int32) (v_this_papers : Int32) (v_this_draws : Int32) (v_this_isSealed : Int32) (v_this_state : Int64) (v_this_margin : Int32) (v_this_having : Int32) (v_this_x : Int32) (v_this_m : Int32) (v_this_took : Int32) (f_this_isLost : Nat → Int32) (f_this_hasRead : Nat → Int32) (p_1 : Int32) (N : Nat) (r0 : Int32) (hf : f_X6_isKnown p_1 f_this_isLost f_this_hasRead = some r0) : Met l yX6_isKnown wsX6_isKnown ({ frames := 1, cells := 0, slots := 0, locals := 21 } : Room) (va_Pc ([.ref a_this, .int p_1] : List Value) (rdB (dC, dI) [(a_this, .inr (6, [.int v_this_thrown, .int v_this_races, .int v_this_boxes, .int v_this_papers, .int v_this_draws, .ref a_this_candidates, .ref a_this_winners, .ref a_this_boxOf, .ref a_this_word, .ref a_this_drawn, .ref a_this_isLost, .ref a_this_hasRead, .ref a_this_hand, .int v_this_isSealed, .long v_this_state, .ref a_this_votes, .ref a_this_isWinner, .int v_this_margin, .int v_this_having, .int v_this_x, .int v_this_m, .int v_this_took])), (a_this_isLost, .inl (cZ, 300, .inl f_this_isLost)), (a_this_hasRead, .inl (cZ, 900, .inl f_this_hasRead))] (GG dC dI cI cZ cR cJ))) (pqI r0) 0 0 noF := by
  refine Met.ofW (cc := cX6_isKnown) (maxL := 2) (ret := (some .boolean)) (by decide) rfl ?_
  intro p e s m args below meth c s₁ B hml hv
  obtain ⟨rfl, hP, hG⟩ := hv
  have hx := B.exec
  have hb := B.bytes
  have hr := B.returns
  have hts := atoms_spec (ws := wsX6_isKnown) B.pre
  have hown : s.vm.findClass RX6 = some m.cls := findClass_of_methodNamed B.named
  have hlocks := B.notSynchronized
  have hK := hG.1
  have hiX6 : ∀ w ∈ u_ws RX6 TX6 22, w ∈ wsX6_isKnown := by decide +kernel
  refine w_entry [(0, .ref a_this), (1, .int p_1)] (Nat.le_of_ble_eq_true rfl) rfl (fun ls hl => ?_)
  rw [f_X6_isKnown] at hf
  refine lv_aload_n hx hb dX6_isKnown_0 rfl (lv_at hl 0 rfl) ?_
  refine va_get (D := (dC, dI)) (ci := 6) (v := .ref a_this_isLost) (C := RX6) (T := TX6) (N := 22) hx hb hts hiX6 hown hK hP 0 rfl rfl 10 (by decide) (hts (.fieldLink RX6 25 "SureCountModel" "isLost" "[Z") (by decide +kernel)) (fun _ h9 => h9) rfl dX6_isKnown_1 ?_
  refine lv_iload_n hx hb dX6_isKnown_4 rfl (lv_at hl 1 rfl) ?_
  have hi1 := (gd_some hf).1
  replace hf := (gd_some hf).2
  refine va_zald hx hb hK hP 1 1 rfl rfl hi1 dX6_isKnown_5 ?_
  refine lv_if_ne (tgt := 17) hx hb dX6_isKnown_6 (by decide) (fun hc => ?_) (fun hc => ?_)
  · replace hf := (if_neg hc).symm.trans hf
    refine lv_iconst (v := (1 : Int32)) hx hb dX6_isKnown_17 (by decide) ?_
    refine lv_goto (tgt := 22) hx hb dX6_isKnown_18 (by decide) ?_
    cases hf
    exact W.zret hx hb hr rfl (fun t ht hW => ⟨rfl, ht⟩) (fun _ h => nomatch h) dX6_isKnown_22
  · replace hf := (if_pos hc).symm.trans hf
    refine lv_aload_n hx hb dX6_isKnown_9 rfl (lv_at hl 0 rfl) ?_
    refine lv_iload_n hx hb dX6_isKnown_10 rfl (lv_at hl 1 rfl) ?_
    obtain ⟨o2, ho2, hf⟩ := Option.bind_eq_some_iff.mp hf
    refine pcI (va_runV (As := [.int p_1]) (rest := []) ⟨hx, hb, hml, hown, hts⟩ (c_X6_isRead l dC dI cI cZ cR cJ (a_this := a_this) (a_this_candidates := a_this_candidates) (a_this_winners := a_this_winners) (a_this_boxOf := a_this_boxOf) (a_this_word := a_this_word) (a_this_drawn := a_this_drawn) (a_this_isLost := a_this_isLost) (a_this_hasRead := a_this_hasRead) (a_this_hand := a_this_hand) (a_this_votes := a_this_votes) (a_this_isWinner := a_this_isWinner) (v_this_thrown := v_this_thrown) (v_this_races := v_this_races) (v_this_boxes := v_this_boxes) (v_this_papers := v_this_papers) (v_this_draws := v_this_draws) (v_this_isSealed := v_this_isSealed) (v_this_state := v_this_state) (v_this_margin := v_this_margin) (v_this_having := v_this_having) (v_this_x := v_this_x) (v_this_m := v_this_m) (v_this_took := v_this_took) (f_this_hasRead := f_this_hasRead) (p_1 := p_1) (r0 := o2) (N := N)  ho2) (cwV 1 hts gX6_isKnown_X6_isRead rfl rfl rfl (by decide +kernel) ⟨Nat.le_of_ble_eq_true rfl, Nat.le_of_ble_eq_true rfl⟩) ⟨rd_blind, va_recv hK hP (ci := 6) (q0 := 0) rfl rfl, rd_pre (hP.sub [0, 2] rfl) hG⟩ rfl rfl hl.1 rfl (lv_room (Nat.le_of_ble_eq_true rfl)) dX6_isKnown_11 ⟨Nat.zero_le _, Nat.zero_le _⟩) ?_
    refine lv_if_eq (tgt := 21) hx hb dX6_isKnown_14 (by decide) (fun hc => ?_) (fun hc => ?_)
    · replace hf := (if_pos hc).symm.trans hf
      refine lv_iconst (v := (0 : Int32)) hx hb dX6_isKnown_21 (by decide) ?_
      cases hf
      exact W.zret hx hb hr rfl (fun t ht hW => ⟨rfl, ht⟩) (fun _ h => nomatch h) dX6_isKnown_22
    · replace hf := (if_neg hc).symm.trans hf
      refine lv_iconst (v := (1 : Int32)) hx hb dX6_isKnown_17 (by decide) ?_
      refine lv_goto (tgt := 22) hx hb dX6_isKnown_18 (by decide) ?_
      cases hf
      exact W.zret hx hb hr rfl (fun t ht hW => ⟨rfl, ht⟩) (fun _ h => nomatch h) dX6_isKnown_22
def f_X6_isDrawn_L2 (p_1 : Int32) (v_this_draws : Int32) (f_this_drawn : Nat → Int32)  : Nat → Int32 → Option (Int32)
  | 0, _ => none
  | n2 + 1, x_2 => if v_this_draws ≤ x_2 then (some (0 : Int32)) else (gd x_2 2000 (if (f_this_drawn x_2.toNatClampNeg) = p_1 then (some (1 : Int32)) else (f_X6_isDrawn_L2 p_1 v_this_draws f_this_drawn n2 (x_2 + (1 : Int32)))))
def f_X6_isDrawn (N : Nat) (p_1 : Int32) (v_this_draws : Int32) (f_this_drawn : Nat → Int32) : Option (Int32) := f_X6_isDrawn_L2 p_1 v_this_draws f_this_drawn  N (0 : Int32)
set_option maxHeartbeats 4000000 in
set_option maxRecDepth 100000 in
theorem c_X6_isDrawn (l : Launch) (dC : Nat → ClassId) (dI : Nat → Nat → Nat) (cI cZ cR cJ : ClassId) (a_this a_this_candidates a_this_winners a_this_boxOf a_this_word a_this_drawn a_this_isLost a_this_hasRead a_this_hand a_this_votes a_this_isWinner : Nat) (v_this_thrown : Int32) (v_this_races : Int32) (v_this_boxes : Int32) (v_this_papers : Int32) (v_this_draws : Int32) (v_this_isSealed : Int32) (v_this_state : Int64) (v_this_margin : Int32) (v_this_having : Int32) (v_this_x : Int32) (v_this_m : Int32) (v_this_took : Int32) (f_this_drawn : Nat → Int32) (p_1 : Int32) (N : Nat) (r0 : Int32) (hf : f_X6_isDrawn N p_1 v_this_draws f_this_drawn = some r0) : Met l yX6_isDrawn wsX6_isDrawn ({ frames := 0, cells := 0, slots := 0, locals := 0 } : Room) (va_Pc ([.ref a_this, .int p_1] : List Value) (rdB (dC, dI) [(a_this, .inr (6, [.int v_this_thrown, .int v_this_races, .int v_this_boxes, .int v_this_papers, .int v_this_draws, .ref a_this_candidates, .ref a_this_winners, .ref a_this_boxOf, .ref a_this_word, .ref a_this_drawn, .ref a_this_isLost, .ref a_this_hasRead, .ref a_this_hand, .int v_this_isSealed, .long v_this_state, .ref a_this_votes, .ref a_this_isWinner, .int v_this_margin, .int v_this_having, .int v_this_x, .int v_this_m, .int v_this_took])), (a_this_drawn, .inl (cI, 2000, .inl f_this_drawn))] (GG dC dI cI cZ cR cJ))) (pqI r0) 0 0 noF := by
  refine Met.ofW (cc := cX6_isDrawn) (maxL := 3) (ret := (some .boolean)) (by decide) rfl ?_
  intro p e s m args below meth c s₁ B hml hv
  obtain ⟨rfl, hP, hG⟩ := hv
  have hx := B.exec
  have hb := B.bytes
  have hr := B.returns
  have hts := atoms_spec (ws := wsX6_isDrawn) B.pre
  have hown : s.vm.findClass RX6 = some m.cls := findClass_of_methodNamed B.named
  have hlocks := B.notSynchronized
  have hK := hG.1
  have hiX6 : ∀ w ∈ u_ws RX6 TX6 22, w ∈ wsX6_isDrawn := by decide +kernel
  have loop2 : ∀ (n : Nat) (x_2 : Int32) (ls : Array Slot), lv_has ls 3 [(0, .ref a_this), (1, .int p_1), (2, .int x_2)] → f_X6_isDrawn_L2 p_1 v_this_draws f_this_drawn  n x_2 = some r0 → W p l e (headSpec wsX6_isDrawn ({ frames := 0, cells := 0, slots := 0, locals := 0 } : Room)).room s m ([.ref a_this, .int p_1] : List Value).toArray below meth c s.heap [] 0 0 (MQ below (pqI r0) ([.ref a_this, .int p_1] : List Value).toArray s 0 0 noF) (F0 m 2 ls []) := by
    intro n
    induction n with
    | zero => intro x_2 ls hl hf; rw [f_X6_isDrawn_L2] at hf; cases hf
    | succ n2 ih2 =>
      intro x_2 ls hl hf
      rw [f_X6_isDrawn_L2] at hf
      refine lv_iload_n hx hb dX6_isDrawn_2 rfl (lv_at hl 2 rfl) ?_
      refine lv_aload_n hx hb dX6_isDrawn_3 rfl (lv_at hl 0 rfl) ?_
      refine va_get (D := (dC, dI)) (ci := 6) (v := .int v_this_draws) (C := RX6) (T := TX6) (N := 22) hx hb hts hiX6 hown hK hP 0 rfl rfl 4 (by decide) (hts (.fieldLink RX6 111 "SureCountModel" "draws" "I") (by decide +kernel)) (fun _ h9 => h9) rfl dX6_isDrawn_4 ?_
      refine lv_icmp_ge (tgt := 28) hx hb dX6_isDrawn_7 (by decide) (fun hc => ?_) (fun hc => ?_)
      · replace hf := (if_pos hc).symm.trans hf
        refine lv_iconst (v := (0 : Int32)) hx hb dX6_isDrawn_28 (by decide) ?_
        cases hf
        exact W.zret hx hb hr rfl (fun t ht hW => ⟨rfl, ht⟩) (fun _ h => nomatch h) dX6_isDrawn_29
      · replace hf := (if_neg hc).symm.trans hf
        refine lv_aload_n hx hb dX6_isDrawn_10 rfl (lv_at hl 0 rfl) ?_
        refine va_get (D := (dC, dI)) (ci := 6) (v := .ref a_this_drawn) (C := RX6) (T := TX6) (N := 22) hx hb hts hiX6 hown hK hP 0 rfl rfl 9 (by decide) (hts (.fieldLink RX6 22 "SureCountModel" "drawn" "[I") (by decide +kernel)) (fun _ h9 => h9) rfl dX6_isDrawn_11 ?_
        refine lv_iload_n hx hb dX6_isDrawn_14 rfl (lv_at hl 2 rfl) ?_
        have hi1 := (gd_some hf).1
        replace hf := (gd_some hf).2
        refine va_iald hx hb hK hP 1 0 rfl rfl hi1 dX6_isDrawn_15 ?_
        refine lv_iload_n hx hb dX6_isDrawn_16 rfl (lv_at hl 1 rfl) ?_
        refine lv_icmp_ne (tgt := 22) hx hb dX6_isDrawn_17 (by decide) (fun hc => ?_) (fun hc => ?_)
        · replace hf := (if_neg hc).symm.trans hf
          refine lv_iinc (v := x_2 + (1 : Int32)) (lv' := [(2, .int (x_2 + (1 : Int32))), (0, .ref a_this), (1, .int p_1)]) hx hb dX6_isDrawn_22 hl (k := 2) rfl (by first | rfl | decide) (by decide) rfl (fun ls hl => ?_)
          refine lv_goto (tgt := 2) hx hb dX6_isDrawn_25 (by decide) ?_
          exact ih2 (x_2 + (1 : Int32)) ls (lv_sub hl [1, 2, 0] rfl) hf
        · replace hf := (if_pos hc).symm.trans hf
          refine lv_iconst (v := (1 : Int32)) hx hb dX6_isDrawn_20 (by decide) ?_
          cases hf
          exact W.zret hx hb hr rfl (fun t ht hW => ⟨rfl, ht⟩) (fun _ h => nomatch h) dX6_isDrawn_21
  refine w_entry [(0, .ref a_this), (1, .int p_1)] (Nat.le_of_ble_eq_true rfl) rfl (fun ls hl => ?_)
  rw [f_X6_isDrawn] at hf
  refine lv_iconst (v := (0 : Int32)) hx hb dX6_isDrawn_0 (by decide) ?_
  refine lv_istore_n (lv' := [(2, .int (0 : Int32)), (0, .ref a_this), (1, .int p_1)]) hx hb dX6_isDrawn_1 rfl hl (by decide) rfl (fun ls hl => ?_)
  exact loop2 N (0 : Int32) ls (lv_sub hl [1, 2, 0] rfl) hf
def f_X6_gives (p_0 : Int32) (p_1 : Int32) (p_2 : Int32) : Option (Int32) := if p_0 = p_1 then (if p_0 = p_2 then (some ((1 : Int32) - (1 : Int32))) else (some ((1 : Int32) - (0 : Int32)))) else (if p_0 = p_2 then (some ((0 : Int32) - (1 : Int32))) else (some ((0 : Int32) - (0 : Int32))))
set_option maxHeartbeats 4000000 in
set_option maxRecDepth 100000 in
theorem c_X6_gives (l : Launch) (dC : Nat → ClassId) (dI : Nat → Nat → Nat) (cI cZ cR cJ : ClassId) (p_0 : Int32) (p_1 : Int32) (p_2 : Int32) (N : Nat) (r0 : Int32) (hf : f_X6_gives p_0 p_1 p_2 = some r0) : Met l yX6_gives wsX6_gives ({ frames := 0, cells := 0, slots := 0, locals := 0 } : Room) (va_Pc ([.int p_0, .int p_1, .int p_2] : List Value) (rdB (dC, dI) [] (GG dC dI cI cZ cR cJ))) (pqI r0) 0 0 noF := by
  refine Met.ofW (cc := cX6_gives) (maxL := 3) (ret := (some .int)) (by decide) rfl ?_
  intro p e s m args below meth c s₁ B hml hv
  obtain ⟨rfl, hP, hG⟩ := hv
  have hx := B.exec
  have hb := B.bytes
  have hr := B.returns
  have hts := atoms_spec (ws := wsX6_gives) B.pre
  have hown : s.vm.findClass RX6 = some m.cls := findClass_of_methodNamed B.named
  have hlocks := B.notSynchronized
  have hK := hG.1
  refine w_entry [(0, .int p_0), (1, .int p_1), (2, .int p_2)] (Nat.le_of_ble_eq_true rfl) rfl (fun ls hl => ?_)
  rw [f_X6_gives] at hf
  refine lv_iload_n hx hb dX6_gives_0 rfl (lv_at hl 0 rfl) ?_
  refine lv_iload_n hx hb dX6_gives_1 rfl (lv_at hl 1 rfl) ?_
  refine lv_icmp_ne (tgt := 9) hx hb dX6_gives_2 (by decide) (fun hc => ?_) (fun hc => ?_)
  · replace hf := (if_neg hc).symm.trans hf
    refine lv_iconst (v := (0 : Int32)) hx hb dX6_gives_9 (by decide) ?_
    refine lv_iload_n hx hb dX6_gives_10 rfl (lv_at hl 0 rfl) ?_
    refine lv_iload_n hx hb dX6_gives_11 rfl (lv_at hl 2 rfl) ?_
    refine lv_icmp_ne (tgt := 19) hx hb dX6_gives_12 (by decide) (fun hc => ?_) (fun hc => ?_)
    · replace hf := (if_neg hc).symm.trans hf
      refine lv_iconst (v := (0 : Int32)) hx hb dX6_gives_19 (by decide) ?_
      refine lv_isub hx hb dX6_gives_20 ?_
      cases hf
      exact W.iret hx hb hr (fun t ht hW => ⟨rfl, ht⟩) (fun _ h => nomatch h) dX6_gives_21
    · replace hf := (if_pos hc).symm.trans hf
      refine lv_iconst (v := (1 : Int32)) hx hb dX6_gives_15 (by decide) ?_
      refine lv_goto (tgt := 20) hx hb dX6_gives_16 (by decide) ?_
      refine lv_isub hx hb dX6_gives_20 ?_
      cases hf
      exact W.iret hx hb hr (fun t ht hW => ⟨rfl, ht⟩) (fun _ h => nomatch h) dX6_gives_21
  · replace hf := (if_pos hc).symm.trans hf
    refine lv_iconst (v := (1 : Int32)) hx hb dX6_gives_5 (by decide) ?_
    refine lv_goto (tgt := 10) hx hb dX6_gives_6 (by decide) ?_
    refine lv_iload_n hx hb dX6_gives_10 rfl (lv_at hl 0 rfl) ?_
    refine lv_iload_n hx hb dX6_gives_11 rfl (lv_at hl 2 rfl) ?_
    refine lv_icmp_ne (tgt := 19) hx hb dX6_gives_12 (by decide) (fun hc => ?_) (fun hc => ?_)
    · replace hf := (if_neg hc).symm.trans hf
      refine lv_iconst (v := (0 : Int32)) hx hb dX6_gives_19 (by decide) ?_
      refine lv_isub hx hb dX6_gives_20 ?_
      cases hf
      exact W.iret hx hb hr (fun t ht hW => ⟨rfl, ht⟩) (fun _ h => nomatch h) dX6_gives_21
    · replace hf := (if_pos hc).symm.trans hf
      refine lv_iconst (v := (1 : Int32)) hx hb dX6_gives_15 (by decide) ?_
      refine lv_goto (tgt := 20) hx hb dX6_gives_16 (by decide) ?_
      refine lv_isub hx hb dX6_gives_20 ?_
      cases hf
      exact W.iret hx hb hr (fun t ht hW => ⟨rfl, ht⟩) (fun _ h => nomatch h) dX6_gives_21
def f_X6_isTaken (N : Nat) (p_1 : Int32) (p_2 : Int32) (f_this_word : Nat → Int32) (f_this_isLost : Nat → Int32) (f_this_hasRead : Nat → Int32) (f_this_hand : Nat → Int32) : Option (Int32) := gd p_1 300 (Option.bind (f_X6_of (f_this_word p_1.toNatClampNeg) p_2) (fun o2 => if o2 = (7 : Int32) then (gd p_1 300 (if (f_this_isLost p_1.toNatClampNeg) = 0 then (Option.bind (f_X6_readingOf N p_1 p_2 f_this_hasRead f_this_hand) (fun o4 => if o4 = (7 : Int32) then (some (0 : Int32)) else (some (1 : Int32)))) else (some (0 : Int32)))) else (some (1 : Int32))))
set_option maxHeartbeats 4000000 in
set_option maxRecDepth 100000 in
theorem c_X6_isTaken (l : Launch) (dC : Nat → ClassId) (dI : Nat → Nat → Nat) (cI cZ cR cJ : ClassId) (a_this a_this_candidates a_this_winners a_this_boxOf a_this_word a_this_drawn a_this_isLost a_this_hasRead a_this_hand a_this_votes a_this_isWinner : Nat) (v_this_thrown : Int32) (v_this_races : Int32) (v_this_boxes : Int32) (v_this_papers : Int32) (v_this_draws : Int32) (v_this_isSealed : Int32) (v_this_state : Int64) (v_this_margin : Int32) (v_this_having : Int32) (v_this_x : Int32) (v_this_m : Int32) (v_this_took : Int32) (f_this_word : Nat → Int32) (f_this_isLost : Nat → Int32) (f_this_hasRead : Nat → Int32) (f_this_hand : Nat → Int32) (p_1 : Int32) (p_2 : Int32) (N : Nat) (r0 : Int32) (hf : f_X6_isTaken N p_1 p_2 f_this_word f_this_isLost f_this_hasRead f_this_hand = some r0) : Met l yX6_isTaken wsX6_isTaken ({ frames := 2, cells := 0, slots := 0, locals := 48 } : Room) (va_Pc ([.ref a_this, .int p_1, .int p_2] : List Value) (rdB (dC, dI) [(a_this, .inr (6, [.int v_this_thrown, .int v_this_races, .int v_this_boxes, .int v_this_papers, .int v_this_draws, .ref a_this_candidates, .ref a_this_winners, .ref a_this_boxOf, .ref a_this_word, .ref a_this_drawn, .ref a_this_isLost, .ref a_this_hasRead, .ref a_this_hand, .int v_this_isSealed, .long v_this_state, .ref a_this_votes, .ref a_this_isWinner, .int v_this_margin, .int v_this_having, .int v_this_x, .int v_this_m, .int v_this_took])), (a_this_word, .inl (cI, 300, .inl f_this_word)), (a_this_isLost, .inl (cZ, 300, .inl f_this_isLost)), (a_this_hasRead, .inl (cZ, 900, .inl f_this_hasRead)), (a_this_hand, .inl (cI, 900, .inl f_this_hand))] (GG dC dI cI cZ cR cJ))) (pqI r0) 0 0 noF := by
  refine Met.ofW (cc := cX6_isTaken) (maxL := 3) (ret := (some .boolean)) (by decide) rfl ?_
  intro p e s m args below meth c s₁ B hml hv
  obtain ⟨rfl, hP, hG⟩ := hv
  have hx := B.exec
  have hb := B.bytes
  have hr := B.returns
  have hts := atoms_spec (ws := wsX6_isTaken) B.pre
  have hown : s.vm.findClass RX6 = some m.cls := findClass_of_methodNamed B.named
  have hlocks := B.notSynchronized
  have hK := hG.1
  have hiX6 : ∀ w ∈ u_ws RX6 TX6 22, w ∈ wsX6_isTaken := by decide +kernel
  refine w_entry [(0, .ref a_this), (1, .int p_1), (2, .int p_2)] (Nat.le_of_ble_eq_true rfl) rfl (fun ls hl => ?_)
  rw [f_X6_isTaken] at hf
  refine lv_aload_n hx hb dX6_isTaken_0 rfl (lv_at hl 0 rfl) ?_
  refine va_get (D := (dC, dI)) (ci := 6) (v := .ref a_this_word) (C := RX6) (T := TX6) (N := 22) hx hb hts hiX6 hown hK hP 0 rfl rfl 8 (by decide) (hts (.fieldLink RX6 19 "SureCountModel" "word" "[I") (by decide +kernel)) (fun _ h9 => h9) rfl dX6_isTaken_1 ?_
  refine lv_iload_n hx hb dX6_isTaken_4 rfl (lv_at hl 1 rfl) ?_
  have hi1 := (gd_some hf).1
  replace hf := (gd_some hf).2
  refine va_iald hx hb hK hP 1 0 rfl rfl hi1 dX6_isTaken_5 ?_
  refine lv_iload_n hx hb dX6_isTaken_6 rfl (lv_at hl 2 rfl) ?_
  obtain ⟨o2, ho2, hf⟩ := Option.bind_eq_some_iff.mp hf
  refine pcI (va_runS (As := [.int (f_this_word p_1.toNatClampNeg), .int p_2]) (rest := []) ⟨hx, hb, hml, hown, hts⟩ (c_X6_of l dC dI cI cZ cR cJ (p_0 := f_this_word p_1.toNatClampNeg) (p_1 := p_2) (r0 := o2) (N := N)  ho2) (cwS 2 hts gX6_isTaken_X6_of rfl rfl rfl (by decide +kernel) ⟨Nat.le_of_ble_eq_true rfl, Nat.le_of_ble_eq_true rfl⟩) ⟨rd_blind, rd_pre (hP.sub [] rfl) hG⟩ rfl rfl hl.1 rfl (lv_room (Nat.le_of_ble_eq_true rfl)) dX6_isTaken_7 ⟨Nat.zero_le _, Nat.zero_le _⟩) ?_
  refine lv_bipush (v := (7 : Int32)) hx hb dX6_isTaken_10 (by decide) ?_
  refine lv_icmp_ne (tgt := 35) hx hb dX6_isTaken_12 (by decide) (fun hc => ?_) (fun hc => ?_)
  · replace hf := (if_neg hc).symm.trans hf
    refine lv_iconst (v := (1 : Int32)) hx hb dX6_isTaken_35 (by decide) ?_
    refine lv_goto (tgt := 40) hx hb dX6_isTaken_36 (by decide) ?_
    cases hf
    exact W.zret hx hb hr rfl (fun t ht hW => ⟨rfl, ht⟩) (fun _ h => nomatch h) dX6_isTaken_40
  · replace hf := (if_pos hc).symm.trans hf
    refine lv_aload_n hx hb dX6_isTaken_15 rfl (lv_at hl 0 rfl) ?_
    refine va_get (D := (dC, dI)) (ci := 6) (v := .ref a_this_isLost) (C := RX6) (T := TX6) (N := 22) hx hb hts hiX6 hown hK hP 0 rfl rfl 10 (by decide) (hts (.fieldLink RX6 25 "SureCountModel" "isLost" "[Z") (by decide +kernel)) (fun _ h9 => h9) rfl dX6_isTaken_16 ?_
    refine lv_iload_n hx hb dX6_isTaken_19 rfl (lv_at hl 1 rfl) ?_
    have hi3 := (gd_some hf).1
    replace hf := (gd_some hf).2
    refine va_zald hx hb hK hP 2 1 rfl rfl hi3 dX6_isTaken_20 ?_
    refine lv_if_ne (tgt := 39) hx hb dX6_isTaken_21 (by decide) (fun hc => ?_) (fun hc => ?_)
    · replace hf := (if_neg hc).symm.trans hf
      refine lv_iconst (v := (0 : Int32)) hx hb dX6_isTaken_39 (by decide) ?_
      cases hf
      exact W.zret hx hb hr rfl (fun t ht hW => ⟨rfl, ht⟩) (fun _ h => nomatch h) dX6_isTaken_40
    · replace hf := (if_pos hc).symm.trans hf
      refine lv_aload_n hx hb dX6_isTaken_24 rfl (lv_at hl 0 rfl) ?_
      refine lv_iload_n hx hb dX6_isTaken_25 rfl (lv_at hl 1 rfl) ?_
      refine lv_iload_n hx hb dX6_isTaken_26 rfl (lv_at hl 2 rfl) ?_
      obtain ⟨o4, ho4, hf⟩ := Option.bind_eq_some_iff.mp hf
      refine pcI (va_runV (As := [.int p_1, .int p_2]) (rest := []) ⟨hx, hb, hml, hown, hts⟩ (c_X6_readingOf l dC dI cI cZ cR cJ (a_this := a_this) (a_this_candidates := a_this_candidates) (a_this_winners := a_this_winners) (a_this_boxOf := a_this_boxOf) (a_this_word := a_this_word) (a_this_drawn := a_this_drawn) (a_this_isLost := a_this_isLost) (a_this_hasRead := a_this_hasRead) (a_this_hand := a_this_hand) (a_this_votes := a_this_votes) (a_this_isWinner := a_this_isWinner) (v_this_thrown := v_this_thrown) (v_this_races := v_this_races) (v_this_boxes := v_this_boxes) (v_this_papers := v_this_papers) (v_this_draws := v_this_draws) (v_this_isSealed := v_this_isSealed) (v_this_state := v_this_state) (v_this_margin := v_this_margin) (v_this_having := v_this_having) (v_this_x := v_this_x) (v_this_m := v_this_m) (v_this_took := v_this_took) (f_this_hasRead := f_this_hasRead) (f_this_hand := f_this_hand) (p_1 := p_1) (p_2 := p_2) (r0 := o4) (N := N)  ho4) (cwV 2 hts gX6_isTaken_X6_readingOf rfl rfl rfl (by decide +kernel) ⟨Nat.le_of_ble_eq_true rfl, Nat.le_of_ble_eq_true rfl⟩) ⟨rd_blind, va_recv hK hP (ci := 6) (q0 := 0) rfl rfl, rd_pre (hP.sub [0, 3, 4] rfl) hG⟩ rfl rfl hl.1 rfl (lv_room (Nat.le_of_ble_eq_true rfl)) dX6_isTaken_27 ⟨Nat.zero_le _, Nat.zero_le _⟩) ?_
      refine lv_bipush (v := (7 : Int32)) hx hb dX6_isTaken_30 (by decide) ?_
      refine lv_icmp_eq (tgt := 39) hx hb dX6_isTaken_32 (by decide) (fun hc => ?_) (fun hc => ?_)
      · replace hf := (if_pos hc).symm.trans hf
        refine lv_iconst (v := (0 : Int32)) hx hb dX6_isTaken_39 (by decide) ?_
        cases hf
        exact W.zret hx hb hr rfl (fun t ht hW => ⟨rfl, ht⟩) (fun _ h => nomatch h) dX6_isTaken_40
      · replace hf := (if_neg hc).symm.trans hf
        refine lv_iconst (v := (1 : Int32)) hx hb dX6_isTaken_35 (by decide) ?_
        refine lv_goto (tgt := 40) hx hb dX6_isTaken_36 (by decide) ?_
        cases hf
        exact W.zret hx hb hr rfl (fun t ht hW => ⟨rfl, ht⟩) (fun _ h => nomatch h) dX6_isTaken_40
def f_X6_divides (p_1 : Int64) (p_3 : Int64) : Option (Int64) := gz p_3 (some (((p_1 + p_3) - (1 : Int64)) / p_3))
set_option maxHeartbeats 4000000 in
set_option maxRecDepth 100000 in
theorem c_X6_divides (l : Launch) (dC : Nat → ClassId) (dI : Nat → Nat → Nat) (cI cZ cR cJ : ClassId) (a_this : Nat) (p_1 : Int64) (p_3 : Int64) (N : Nat) (r0 : Int64) (hf : f_X6_divides p_1 p_3 = some r0) : Met l yX6_divides wsX6_divides ({ frames := 0, cells := 0, slots := 0, locals := 0 } : Room) (va_Pc ([.ref a_this, .long p_1, .long p_3] : List Value) (rdB (dC, dI) [] (GG dC dI cI cZ cR cJ))) (pqL r0) 0 0 noF := by
  refine Met.ofW (cc := cX6_divides) (maxL := 5) (ret := (some .long)) (by decide) rfl ?_
  intro p e s m args below meth c s₁ B hml hv
  obtain ⟨rfl, hP, hG⟩ := hv
  have hx := B.exec
  have hb := B.bytes
  have hr := B.returns
  have hts := atoms_spec (ws := wsX6_divides) B.pre
  have hown : s.vm.findClass RX6 = some m.cls := findClass_of_methodNamed B.named
  have hlocks := B.notSynchronized
  have hK := hG.1
  refine w_entry [(0, .ref a_this), (1, .long p_1), (3, .long p_3)] (Nat.le_of_ble_eq_true rfl) rfl (fun ls hl => ?_)
  rw [f_X6_divides] at hf
  refine lv_lload_n hx hb dX6_divides_0 rfl (lv_at hl 1 rfl) ?_
  refine lv_lload_n hx hb dX6_divides_1 rfl (lv_at hl 2 rfl) ?_
  refine lv_ladd hx hb dX6_divides_2 ?_
  refine lv_lconst (v := (1 : Int64)) hx hb dX6_divides_3 (by decide) ?_
  refine lv_lsub hx hb dX6_divides_4 ?_
  refine lv_lload_n hx hb dX6_divides_5 rfl (lv_at hl 2 rfl) ?_
  have hz1 := (gz_some hf).1
  replace hf := (gz_some hf).2
  refine lv_ldiv hx hb dX6_divides_6 hz1 ?_
  cases hf
  exact W.lret hx hb hr (fun t ht hW => ⟨rfl, ht⟩) (fun _ h => nomatch h) dX6_divides_7
