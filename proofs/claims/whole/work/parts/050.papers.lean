def f_J6_bitCount_0f7a4 (p_0 : Int32) : Option (Int32) := Option.bind (some (p_0 - ((iush p_0 (1 : Int32)) &&& (1431655765 : Int32)))) (fun x1 => Option.bind (some ((x1 &&& (858993459 : Int32)) + ((iush x1 (2 : Int32)) &&& (858993459 : Int32)))) (fun x2 => Option.bind (some ((x2 + (iush x2 (4 : Int32))) &&& (252645135 : Int32))) (fun x3 => Option.bind (some ((x3 + (iush x3 (8 : Int32))) + (iush (x3 + (iush x3 (8 : Int32))) (16 : Int32)))) (fun x4 => some (x4 &&& (63 : Int32))))))
set_option maxHeartbeats 4000000 in
set_option maxRecDepth 100000 in
theorem c_J6_bitCount_0f7a4 (l : Launch) (dC : Nat → ClassId) (dI : Nat → Nat → Nat) (cI cZ cR cJ : ClassId) (p_0 : Int32) (N : Nat) (r0 : Int32) (hf : f_J6_bitCount_0f7a4 p_0 = some r0) : Met l yJ6_bitCount_0f7a4 wsJ6_bitCount_0f7a4 ({ frames := 0, cells := 0, slots := 0, locals := 0 } : Room) (va_Pc ([.int p_0] : List Value) (rdB (dC, dI) [] (GG dC dI cI cZ cR cJ))) (pqI r0) 0 0 noF := by
  refine Met.ofW (cc := cJ6_bitCount_0f7a4) (maxL := 1) (ret := (some .int)) (by decide) rfl ?_
  intro p e s m args below meth c s₁ B hml hv
  obtain ⟨rfl, hP, hG⟩ := hv
  have hx := B.exec
  have hb := B.bytes
  have hr := B.returns
  have hts := atoms_spec (ws := wsJ6_bitCount_0f7a4) B.pre
  have hown : s.vm.findClass RJ6 = some m.cls := findClass_of_methodNamed B.named
  have hlocks := B.notSynchronized
  have hK := hG.1
  refine w_entry [(0, .int p_0)] (Nat.le_of_ble_eq_true rfl) rfl (fun ls hl => ?_)
  rw [f_J6_bitCount_0f7a4] at hf
  refine lv_iload_n hx hb dJ6_bitCount_0f7a4_0 rfl (lv_at hl 0 rfl) ?_
  refine lv_iload_n hx hb dJ6_bitCount_0f7a4_1 rfl (lv_at hl 0 rfl) ?_
  refine lv_iconst (v := (1 : Int32)) hx hb dJ6_bitCount_0f7a4_2 (by decide) ?_
  refine lv_iushr (v := iush p_0 (1 : Int32)) hx hb dJ6_bitCount_0f7a4_3 rfl ?_
  refine lv_ldcw (v := (1431655765 : Int32)) hx hb hown (hts (.constant RJ6 265 (1431655765)) (by decide +kernel)) dJ6_bitCount_0f7a4_4 ?_
  refine lv_iand hx hb dJ6_bitCount_0f7a4_7 ?_
  refine lv_isub hx hb dJ6_bitCount_0f7a4_8 ?_
  obtain ⟨x1, hx1, hf⟩ := Option.bind_eq_some_iff.mp hf
  replace hx1 := Option.some.inj hx1
  refine W.eq (g2 := F0 m 9 ls [.int x1]) (by subst hx1; rfl) ?_
  refine lv_istore_n (lv' := [(0, .int x1)]) hx hb dJ6_bitCount_0f7a4_9 rfl hl (by decide) rfl (fun ls hl => ?_)
  refine lv_iload_n hx hb dJ6_bitCount_0f7a4_10 rfl (lv_at hl 0 rfl) ?_
  refine lv_ldcw (v := (858993459 : Int32)) hx hb hown (hts (.constant RJ6 266 (858993459)) (by decide +kernel)) dJ6_bitCount_0f7a4_11 ?_
  refine lv_iand hx hb dJ6_bitCount_0f7a4_14 ?_
  refine lv_iload_n hx hb dJ6_bitCount_0f7a4_15 rfl (lv_at hl 0 rfl) ?_
  refine lv_iconst (v := (2 : Int32)) hx hb dJ6_bitCount_0f7a4_16 (by decide) ?_
  refine lv_iushr (v := iush x1 (2 : Int32)) hx hb dJ6_bitCount_0f7a4_17 rfl ?_
  refine lv_ldcw (v := (858993459 : Int32)) hx hb hown (hts (.constant RJ6 266 (858993459)) (by decide +kernel)) dJ6_bitCount_0f7a4_18 ?_
  refine lv_iand hx hb dJ6_bitCount_0f7a4_21 ?_
  refine lv_iadd hx hb dJ6_bitCount_0f7a4_22 ?_
  obtain ⟨x2, hx2, hf⟩ := Option.bind_eq_some_iff.mp hf
  replace hx2 := Option.some.inj hx2
  refine W.eq (g2 := F0 m 23 ls [.int x2]) (by subst hx2; rfl) ?_
  refine lv_istore_n (lv' := [(0, .int x2)]) hx hb dJ6_bitCount_0f7a4_23 rfl hl (by decide) rfl (fun ls hl => ?_)
  refine lv_iload_n hx hb dJ6_bitCount_0f7a4_24 rfl (lv_at hl 0 rfl) ?_
  refine lv_iload_n hx hb dJ6_bitCount_0f7a4_25 rfl (lv_at hl 0 rfl) ?_
  refine lv_iconst (v := (4 : Int32)) hx hb dJ6_bitCount_0f7a4_26 (by decide) ?_
  refine lv_iushr (v := iush x2 (4 : Int32)) hx hb dJ6_bitCount_0f7a4_27 rfl ?_
  refine lv_iadd hx hb dJ6_bitCount_0f7a4_28 ?_
  refine lv_ldcw (v := (252645135 : Int32)) hx hb hown (hts (.constant RJ6 267 (252645135)) (by decide +kernel)) dJ6_bitCount_0f7a4_29 ?_
  refine lv_iand hx hb dJ6_bitCount_0f7a4_32 ?_
  obtain ⟨x3, hx3, hf⟩ := Option.bind_eq_some_iff.mp hf
  replace hx3 := Option.some.inj hx3
  refine W.eq (g2 := F0 m 33 ls [.int x3]) (by subst hx3; rfl) ?_
  refine lv_istore_n (lv' := [(0, .int x3)]) hx hb dJ6_bitCount_0f7a4_33 rfl hl (by decide) rfl (fun ls hl => ?_)
  refine lv_iload_n hx hb dJ6_bitCount_0f7a4_34 rfl (lv_at hl 0 rfl) ?_
  refine lv_iload_n hx hb dJ6_bitCount_0f7a4_35 rfl (lv_at hl 0 rfl) ?_
  refine lv_bipush (v := (8 : Int32)) hx hb dJ6_bitCount_0f7a4_36 (by decide) ?_
  refine lv_iushr (v := iush x3 (8 : Int32)) hx hb dJ6_bitCount_0f7a4_38 rfl ?_
  refine lv_iadd hx hb dJ6_bitCount_0f7a4_39 ?_
  refine lv_istore_n (lv' := [(0, .int (x3 + (iush x3 (8 : Int32))))]) hx hb dJ6_bitCount_0f7a4_40 rfl hl (by decide) rfl (fun ls hl => ?_)
  refine lv_iload_n hx hb dJ6_bitCount_0f7a4_41 rfl (lv_at hl 0 rfl) ?_
  refine lv_iload_n hx hb dJ6_bitCount_0f7a4_42 rfl (lv_at hl 0 rfl) ?_
  refine lv_bipush (v := (16 : Int32)) hx hb dJ6_bitCount_0f7a4_43 (by decide) ?_
  refine lv_iushr (v := iush (x3 + (iush x3 (8 : Int32))) (16 : Int32)) hx hb dJ6_bitCount_0f7a4_45 rfl ?_
  refine lv_iadd hx hb dJ6_bitCount_0f7a4_46 ?_
  obtain ⟨x4, hx4, hf⟩ := Option.bind_eq_some_iff.mp hf
  replace hx4 := Option.some.inj hx4
  refine W.eq (g2 := F0 m 47 ls [.int x4]) (by subst hx4; rfl) ?_
  refine lv_istore_n (lv' := [(0, .int x4)]) hx hb dJ6_bitCount_0f7a4_47 rfl hl (by decide) rfl (fun ls hl => ?_)
  refine lv_iload_n hx hb dJ6_bitCount_0f7a4_48 rfl (lv_at hl 0 rfl) ?_
  refine lv_bipush (v := (63 : Int32)) hx hb dJ6_bitCount_0f7a4_49 (by decide) ?_
  refine lv_iand hx hb dJ6_bitCount_0f7a4_51 ?_
  cases hf
  exact W.iret hx hb hr (fun t ht hW => ⟨rfl, ht⟩) (fun _ h => nomatch h) dJ6_bitCount_0f7a4_52
def f_X5_markOf (p_0 : Int32) (p_1 : Int32) : Option (Int32) := some ((iush p_0 ((3 : Int32) * p_1)) &&& (7 : Int32))
set_option maxHeartbeats 4000000 in
set_option maxRecDepth 100000 in
theorem c_X5_markOf (l : Launch) (dC : Nat → ClassId) (dI : Nat → Nat → Nat) (cI cZ cR cJ : ClassId) (p_0 : Int32) (p_1 : Int32) (N : Nat) (r0 : Int32) (hf : f_X5_markOf p_0 p_1 = some r0) : Met l yX5_markOf wsX5_markOf ({ frames := 0, cells := 0, slots := 0, locals := 0 } : Room) (va_Pc ([.int p_0, .int p_1] : List Value) (rdB (dC, dI) [] (GG dC dI cI cZ cR cJ))) (pqI r0) 0 0 noF := by
  refine Met.ofW (cc := cX5_markOf) (maxL := 2) (ret := (some .int)) (by decide) rfl ?_
  intro p e s m args below meth c s₁ B hml hv
  obtain ⟨rfl, hP, hG⟩ := hv
  have hx := B.exec
  have hb := B.bytes
  have hr := B.returns
  have hts := atoms_spec (ws := wsX5_markOf) B.pre
  have hown : s.vm.findClass RX5 = some m.cls := findClass_of_methodNamed B.named
  have hlocks := B.notSynchronized
  have hK := hG.1
  refine w_entry [(0, .int p_0), (1, .int p_1)] (Nat.le_of_ble_eq_true rfl) rfl (fun ls hl => ?_)
  rw [f_X5_markOf] at hf
  refine lv_iload_n hx hb dX5_markOf_0 rfl (lv_at hl 0 rfl) ?_
  refine lv_iconst (v := (3 : Int32)) hx hb dX5_markOf_1 (by decide) ?_
  refine lv_iload_n hx hb dX5_markOf_2 rfl (lv_at hl 1 rfl) ?_
  refine lv_imul hx hb dX5_markOf_3 ?_
  refine lv_iushr (v := iush p_0 ((3 : Int32) * p_1)) hx hb dX5_markOf_4 rfl ?_
  refine lv_bipush (v := (7 : Int32)) hx hb dX5_markOf_5 (by decide) ?_
  refine lv_iand hx hb dX5_markOf_7 ?_
  cases hf
  exact W.iret hx hb hr (fun t ht hW => ⟨rfl, ht⟩) (fun _ h => nomatch h) dX5_markOf_8
def f_X1_has (p_1 : Int32) (v_this_size : Int32) : Option (Int32) := if p_1 < 0 then (some (0 : Int32)) else (if v_this_size ≤ p_1 then (some (0 : Int32)) else (some (1 : Int32)))
set_option maxHeartbeats 4000000 in
set_option maxRecDepth 100000 in
theorem c_X1_has (l : Launch) (dC : Nat → ClassId) (dI : Nat → Nat → Nat) (cI cZ cR cJ : ClassId) (a_this a_this_boxOf a_this_wordOf a_this_isLost a_this_wasDrawn a_this_handsOf a_this_handWords : Nat) (v_this_size : Int32) (p_1 : Int32) (N : Nat) (r0 : Int32) (hf : f_X1_has p_1 v_this_size = some r0) : Met l yX1_has wsX1_has ({ frames := 0, cells := 0, slots := 0, locals := 0 } : Room) (va_Pc ([.ref a_this, .int p_1] : List Value) (rdB (dC, dI) [(a_this, .inr (1, [.ref a_this_boxOf, .ref a_this_wordOf, .ref a_this_isLost, .ref a_this_wasDrawn, .ref a_this_handsOf, .ref a_this_handWords, .int v_this_size]))] (GG dC dI cI cZ cR cJ))) (pqI r0) 0 0 noF := by
  refine Met.ofW (cc := cX1_has) (maxL := 2) (ret := (some .boolean)) (by decide) rfl ?_
  intro p e s m args below meth c s₁ B hml hv
  obtain ⟨rfl, hP, hG⟩ := hv
  have hx := B.exec
  have hb := B.bytes
  have hr := B.returns
  have hts := atoms_spec (ws := wsX1_has) B.pre
  have hown : s.vm.findClass RX1 = some m.cls := findClass_of_methodNamed B.named
  have hlocks := B.notSynchronized
  have hK := hG.1
  have hiX1 : ∀ w ∈ u_ws RX1 TX1 7, w ∈ wsX1_has := by decide +kernel
  refine w_entry [(0, .ref a_this), (1, .int p_1)] (Nat.le_of_ble_eq_true rfl) rfl (fun ls hl => ?_)
  rw [f_X1_has] at hf
  refine lv_iload_n hx hb dX1_has_0 rfl (lv_at hl 1 rfl) ?_
  refine lv_if_lt (tgt := 16) hx hb dX1_has_1 (by decide) (fun hc => ?_) (fun hc => ?_)
  · replace hf := (if_pos hc).symm.trans hf
    refine lv_iconst (v := (0 : Int32)) hx hb dX1_has_16 (by decide) ?_
    cases hf
    exact W.zret hx hb hr rfl (fun t ht hW => ⟨rfl, ht⟩) (fun _ h => nomatch h) dX1_has_17
  · replace hf := (if_neg hc).symm.trans hf
    refine lv_iload_n hx hb dX1_has_4 rfl (lv_at hl 1 rfl) ?_
    refine lv_aload_n hx hb dX1_has_5 rfl (lv_at hl 0 rfl) ?_
    refine va_get (D := (dC, dI)) (ci := 1) (v := .int v_this_size) (C := RX1) (T := TX1) (N := 7) hx hb hts hiX1 hown hK hP 0 rfl rfl 6 (by decide) (hts (.fieldLink RX1 31 "SureCount$Papers" "size" "I") (by decide +kernel)) (fun _ h9 => h9) rfl dX1_has_6 ?_
    refine lv_icmp_ge (tgt := 16) hx hb dX1_has_9 (by decide) (fun hc => ?_) (fun hc => ?_)
    · replace hf := (if_pos hc).symm.trans hf
      refine lv_iconst (v := (0 : Int32)) hx hb dX1_has_16 (by decide) ?_
      cases hf
      exact W.zret hx hb hr rfl (fun t ht hW => ⟨rfl, ht⟩) (fun _ h => nomatch h) dX1_has_17
    · replace hf := (if_neg hc).symm.trans hf
      refine lv_iconst (v := (1 : Int32)) hx hb dX1_has_12 (by decide) ?_
      refine lv_goto (tgt := 17) hx hb dX1_has_13 (by decide) ?_
      cases hf
      exact W.zret hx hb hr rfl (fun t ht hW => ⟨rfl, ht⟩) (fun _ h => nomatch h) dX1_has_17
def f_X1_isReadBy (p_1 : Int32) (p_2 : Int32) (f_this_handsOf : Nat → Int32) : Option (Int32) := gd p_1 300 (if ((f_this_handsOf p_1.toNatClampNeg) &&& ((1 : Int32) <<< (p_2 &&& 31))) = 0 then (some (0 : Int32)) else (some (1 : Int32)))
set_option maxHeartbeats 4000000 in
set_option maxRecDepth 100000 in
theorem c_X1_isReadBy (l : Launch) (dC : Nat → ClassId) (dI : Nat → Nat → Nat) (cI cZ cR cJ : ClassId) (a_this a_this_boxOf a_this_wordOf a_this_isLost a_this_wasDrawn a_this_handsOf a_this_handWords : Nat) (v_this_size : Int32) (f_this_handsOf : Nat → Int32) (p_1 : Int32) (p_2 : Int32) (N : Nat) (r0 : Int32) (hf : f_X1_isReadBy p_1 p_2 f_this_handsOf = some r0) : Met l yX1_isReadBy wsX1_isReadBy ({ frames := 0, cells := 0, slots := 0, locals := 0 } : Room) (va_Pc ([.ref a_this, .int p_1, .int p_2] : List Value) (rdB (dC, dI) [(a_this, .inr (1, [.ref a_this_boxOf, .ref a_this_wordOf, .ref a_this_isLost, .ref a_this_wasDrawn, .ref a_this_handsOf, .ref a_this_handWords, .int v_this_size])), (a_this_handsOf, .inl (cI, 300, .inl f_this_handsOf))] (GG dC dI cI cZ cR cJ))) (pqI r0) 0 0 noF := by
  refine Met.ofW (cc := cX1_isReadBy) (maxL := 3) (ret := (some .boolean)) (by decide) rfl ?_
  intro p e s m args below meth c s₁ B hml hv
  obtain ⟨rfl, hP, hG⟩ := hv
  have hx := B.exec
  have hb := B.bytes
  have hr := B.returns
  have hts := atoms_spec (ws := wsX1_isReadBy) B.pre
  have hown : s.vm.findClass RX1 = some m.cls := findClass_of_methodNamed B.named
  have hlocks := B.notSynchronized
  have hK := hG.1
  have hiX1 : ∀ w ∈ u_ws RX1 TX1 7, w ∈ wsX1_isReadBy := by decide +kernel
  refine w_entry [(0, .ref a_this), (1, .int p_1), (2, .int p_2)] (Nat.le_of_ble_eq_true rfl) rfl (fun ls hl => ?_)
  rw [f_X1_isReadBy] at hf
  refine lv_aload_n hx hb dX1_isReadBy_0 rfl (lv_at hl 0 rfl) ?_
  refine va_get (D := (dC, dI)) (ci := 1) (v := .ref a_this_handsOf) (C := RX1) (T := TX1) (N := 7) hx hb hts hiX1 hown hK hP 0 rfl rfl 4 (by decide) (hts (.fieldLink RX1 25 "SureCount$Papers" "handsOf" "[I") (by decide +kernel)) (fun _ h9 => h9) rfl dX1_isReadBy_1 ?_
  refine lv_iload_n hx hb dX1_isReadBy_4 rfl (lv_at hl 1 rfl) ?_
  have hi1 := (gd_some hf).1
  replace hf := (gd_some hf).2
  refine va_iald hx hb hK hP 1 0 rfl rfl hi1 dX1_isReadBy_5 ?_
  refine lv_iconst (v := (1 : Int32)) hx hb dX1_isReadBy_6 (by decide) ?_
  refine lv_iload_n hx hb dX1_isReadBy_7 rfl (lv_at hl 2 rfl) ?_
  refine lv_ishl hx hb dX1_isReadBy_8 ?_
  refine lv_iand hx hb dX1_isReadBy_9 ?_
  refine lv_if_eq (tgt := 17) hx hb dX1_isReadBy_10 (by decide) (fun hc => ?_) (fun hc => ?_)
  · replace hf := (if_pos hc).symm.trans hf
    refine lv_iconst (v := (0 : Int32)) hx hb dX1_isReadBy_17 (by decide) ?_
    cases hf
    exact W.zret hx hb hr rfl (fun t ht hW => ⟨rfl, ht⟩) (fun _ h => nomatch h) dX1_isReadBy_18
  · replace hf := (if_neg hc).symm.trans hf
    refine lv_iconst (v := (1 : Int32)) hx hb dX1_isReadBy_13 (by decide) ?_
    refine lv_goto (tgt := 18) hx hb dX1_isReadBy_14 (by decide) ?_
    cases hf
    exact W.zret hx hb hr rfl (fun t ht hW => ⟨rfl, ht⟩) (fun _ h => nomatch h) dX1_isReadBy_18
def f_X1_isReadByHand (p_1 : Int32) (f_this_handsOf : Nat → Int32) : Option (Int32) := gd p_1 300 (if (f_this_handsOf p_1.toNatClampNeg) = 0 then (some (0 : Int32)) else (some (1 : Int32)))
set_option maxHeartbeats 4000000 in
set_option maxRecDepth 100000 in
theorem c_X1_isReadByHand (l : Launch) (dC : Nat → ClassId) (dI : Nat → Nat → Nat) (cI cZ cR cJ : ClassId) (a_this a_this_boxOf a_this_wordOf a_this_isLost a_this_wasDrawn a_this_handsOf a_this_handWords : Nat) (v_this_size : Int32) (f_this_handsOf : Nat → Int32) (p_1 : Int32) (N : Nat) (r0 : Int32) (hf : f_X1_isReadByHand p_1 f_this_handsOf = some r0) : Met l yX1_isReadByHand wsX1_isReadByHand ({ frames := 0, cells := 0, slots := 0, locals := 0 } : Room) (va_Pc ([.ref a_this, .int p_1] : List Value) (rdB (dC, dI) [(a_this, .inr (1, [.ref a_this_boxOf, .ref a_this_wordOf, .ref a_this_isLost, .ref a_this_wasDrawn, .ref a_this_handsOf, .ref a_this_handWords, .int v_this_size])), (a_this_handsOf, .inl (cI, 300, .inl f_this_handsOf))] (GG dC dI cI cZ cR cJ))) (pqI r0) 0 0 noF := by
  refine Met.ofW (cc := cX1_isReadByHand) (maxL := 2) (ret := (some .boolean)) (by decide) rfl ?_
  intro p e s m args below meth c s₁ B hml hv
  obtain ⟨rfl, hP, hG⟩ := hv
  have hx := B.exec
  have hb := B.bytes
  have hr := B.returns
  have hts := atoms_spec (ws := wsX1_isReadByHand) B.pre
  have hown : s.vm.findClass RX1 = some m.cls := findClass_of_methodNamed B.named
  have hlocks := B.notSynchronized
  have hK := hG.1
  have hiX1 : ∀ w ∈ u_ws RX1 TX1 7, w ∈ wsX1_isReadByHand := by decide +kernel
  refine w_entry [(0, .ref a_this), (1, .int p_1)] (Nat.le_of_ble_eq_true rfl) rfl (fun ls hl => ?_)
  rw [f_X1_isReadByHand] at hf
  refine lv_aload_n hx hb dX1_isReadByHand_0 rfl (lv_at hl 0 rfl) ?_
  refine va_get (D := (dC, dI)) (ci := 1) (v := .ref a_this_handsOf) (C := RX1) (T := TX1) (N := 7) hx hb hts hiX1 hown hK hP 0 rfl rfl 4 (by decide) (hts (.fieldLink RX1 25 "SureCount$Papers" "handsOf" "[I") (by decide +kernel)) (fun _ h9 => h9) rfl dX1_isReadByHand_1 ?_
  refine lv_iload_n hx hb dX1_isReadByHand_4 rfl (lv_at hl 1 rfl) ?_
  have hi1 := (gd_some hf).1
  replace hf := (gd_some hf).2
  refine va_iald hx hb hK hP 1 0 rfl rfl hi1 dX1_isReadByHand_5 ?_
  refine lv_if_eq (tgt := 13) hx hb dX1_isReadByHand_6 (by decide) (fun hc => ?_) (fun hc => ?_)
  · replace hf := (if_pos hc).symm.trans hf
    refine lv_iconst (v := (0 : Int32)) hx hb dX1_isReadByHand_13 (by decide) ?_
    cases hf
    exact W.zret hx hb hr rfl (fun t ht hW => ⟨rfl, ht⟩) (fun _ h => nomatch h) dX1_isReadByHand_14
  · replace hf := (if_neg hc).symm.trans hf
    refine lv_iconst (v := (1 : Int32)) hx hb dX1_isReadByHand_9 (by decide) ?_
    refine lv_goto (tgt := 14) hx hb dX1_isReadByHand_10 (by decide) ?_
    cases hf
    exact W.zret hx hb hr rfl (fun t ht hW => ⟨rfl, ht⟩) (fun _ h => nomatch h) dX1_isReadByHand_14
def f_X1_isSettled (p_1 : Int32) (f_this_isLost : Nat → Int32) (f_this_handsOf : Nat → Int32) : Option (Int32) := gd p_1 300 (if (f_this_isLost p_1.toNatClampNeg) = 0 then (Option.bind (f_X1_isReadByHand p_1 f_this_handsOf) (fun o2 => if o2 = 0 then (some (0 : Int32)) else (some (1 : Int32)))) else (some (1 : Int32)))
set_option maxHeartbeats 4000000 in
set_option maxRecDepth 100000 in
theorem c_X1_isSettled (l : Launch) (dC : Nat → ClassId) (dI : Nat → Nat → Nat) (cI cZ cR cJ : ClassId) (a_this a_this_boxOf a_this_wordOf a_this_isLost a_this_wasDrawn a_this_handsOf a_this_handWords : Nat) (v_this_size : Int32) (f_this_isLost : Nat → Int32) (f_this_handsOf : Nat → Int32) (p_1 : Int32) (N : Nat) (r0 : Int32) (hf : f_X1_isSettled p_1 f_this_isLost f_this_handsOf = some r0) : Met l yX1_isSettled wsX1_isSettled ({ frames := 1, cells := 0, slots := 0, locals := 21 } : Room) (va_Pc ([.ref a_this, .int p_1] : List Value) (rdB (dC, dI) [(a_this, .inr (1, [.ref a_this_boxOf, .ref a_this_wordOf, .ref a_this_isLost, .ref a_this_wasDrawn, .ref a_this_handsOf, .ref a_this_handWords, .int v_this_size])), (a_this_isLost, .inl (cZ, 300, .inl f_this_isLost)), (a_this_handsOf, .inl (cI, 300, .inl f_this_handsOf))] (GG dC dI cI cZ cR cJ))) (pqI r0) 0 0 noF := by
  refine Met.ofW (cc := cX1_isSettled) (maxL := 2) (ret := (some .boolean)) (by decide) rfl ?_
  intro p e s m args below meth c s₁ B hml hv
  obtain ⟨rfl, hP, hG⟩ := hv
  have hx := B.exec
  have hb := B.bytes
  have hr := B.returns
  have hts := atoms_spec (ws := wsX1_isSettled) B.pre
  have hown : s.vm.findClass RX1 = some m.cls := findClass_of_methodNamed B.named
  have hlocks := B.notSynchronized
  have hK := hG.1
  have hiX1 : ∀ w ∈ u_ws RX1 TX1 7, w ∈ wsX1_isSettled := by decide +kernel
  refine w_entry [(0, .ref a_this), (1, .int p_1)] (Nat.le_of_ble_eq_true rfl) rfl (fun ls hl => ?_)
  rw [f_X1_isSettled] at hf
  refine lv_aload_n hx hb dX1_isSettled_0 rfl (lv_at hl 0 rfl) ?_
  refine va_get (D := (dC, dI)) (ci := 1) (v := .ref a_this_isLost) (C := RX1) (T := TX1) (N := 7) hx hb hts hiX1 hown hK hP 0 rfl rfl 2 (by decide) (hts (.fieldLink RX1 18 "SureCount$Papers" "isLost" "[Z") (by decide +kernel)) (fun _ h9 => h9) rfl dX1_isSettled_1 ?_
  refine lv_iload_n hx hb dX1_isSettled_4 rfl (lv_at hl 1 rfl) ?_
  have hi1 := (gd_some hf).1
  replace hf := (gd_some hf).2
  refine va_zald hx hb hK hP 1 1 rfl rfl hi1 dX1_isSettled_5 ?_
  refine lv_if_ne (tgt := 17) hx hb dX1_isSettled_6 (by decide) (fun hc => ?_) (fun hc => ?_)
  · replace hf := (if_neg hc).symm.trans hf
    refine lv_iconst (v := (1 : Int32)) hx hb dX1_isSettled_17 (by decide) ?_
    refine lv_goto (tgt := 22) hx hb dX1_isSettled_18 (by decide) ?_
    cases hf
    exact W.zret hx hb hr rfl (fun t ht hW => ⟨rfl, ht⟩) (fun _ h => nomatch h) dX1_isSettled_22
  · replace hf := (if_pos hc).symm.trans hf
    refine lv_aload_n hx hb dX1_isSettled_9 rfl (lv_at hl 0 rfl) ?_
    refine lv_iload_n hx hb dX1_isSettled_10 rfl (lv_at hl 1 rfl) ?_
    obtain ⟨o2, ho2, hf⟩ := Option.bind_eq_some_iff.mp hf
    refine pcI (va_runV (As := [.int p_1]) (rest := []) ⟨hx, hb, hml, hown, hts⟩ (c_X1_isReadByHand l dC dI cI cZ cR cJ (a_this := a_this) (a_this_boxOf := a_this_boxOf) (a_this_wordOf := a_this_wordOf) (a_this_isLost := a_this_isLost) (a_this_wasDrawn := a_this_wasDrawn) (a_this_handsOf := a_this_handsOf) (a_this_handWords := a_this_handWords) (v_this_size := v_this_size) (f_this_handsOf := f_this_handsOf) (p_1 := p_1) (r0 := o2) (N := N)  ho2) (cwV 1 hts gX1_isSettled_X1_isReadByHand rfl rfl rfl (by decide +kernel) ⟨Nat.le_of_ble_eq_true rfl, Nat.le_of_ble_eq_true rfl⟩) ⟨rd_blind, va_recv hK hP (ci := 1) (q0 := 0) rfl rfl, rd_pre (hP.sub [0, 2] rfl) hG⟩ rfl rfl hl.1 rfl (lv_room (Nat.le_of_ble_eq_true rfl)) dX1_isSettled_11 ⟨Nat.zero_le _, Nat.zero_le _⟩) ?_
    refine lv_if_eq (tgt := 21) hx hb dX1_isSettled_14 (by decide) (fun hc => ?_) (fun hc => ?_)
    · replace hf := (if_pos hc).symm.trans hf
      refine lv_iconst (v := (0 : Int32)) hx hb dX1_isSettled_21 (by decide) ?_
      cases hf
      exact W.zret hx hb hr rfl (fun t ht hW => ⟨rfl, ht⟩) (fun _ h => nomatch h) dX1_isSettled_22
    · replace hf := (if_neg hc).symm.trans hf
      refine lv_iconst (v := (1 : Int32)) hx hb dX1_isSettled_17 (by decide) ?_
      refine lv_goto (tgt := 22) hx hb dX1_isSettled_18 (by decide) ?_
      cases hf
      exact W.zret hx hb hr rfl (fun t ht hW => ⟨rfl, ht⟩) (fun _ h => nomatch h) dX1_isSettled_22
def f_X1_wordMark (p_1 : Int32) (p_2 : Int32) (f_this_wordOf : Nat → Int32) : Option (Int32) := gd p_1 300 (Option.bind (f_X5_markOf (f_this_wordOf p_1.toNatClampNeg) p_2) (fun o2 => some o2))
set_option maxHeartbeats 4000000 in
set_option maxRecDepth 100000 in
theorem c_X1_wordMark (l : Launch) (dC : Nat → ClassId) (dI : Nat → Nat → Nat) (cI cZ cR cJ : ClassId) (a_this a_this_boxOf a_this_wordOf a_this_isLost a_this_wasDrawn a_this_handsOf a_this_handWords : Nat) (v_this_size : Int32) (f_this_wordOf : Nat → Int32) (p_1 : Int32) (p_2 : Int32) (N : Nat) (r0 : Int32) (hf : f_X1_wordMark p_1 p_2 f_this_wordOf = some r0) : Met l yX1_wordMark wsX1_wordMark ({ frames := 1, cells := 0, slots := 0, locals := 21 } : Room) (va_Pc ([.ref a_this, .int p_1, .int p_2] : List Value) (rdB (dC, dI) [(a_this, .inr (1, [.ref a_this_boxOf, .ref a_this_wordOf, .ref a_this_isLost, .ref a_this_wasDrawn, .ref a_this_handsOf, .ref a_this_handWords, .int v_this_size])), (a_this_wordOf, .inl (cI, 300, .inl f_this_wordOf))] (GG dC dI cI cZ cR cJ))) (pqI r0) 0 0 noF := by
  refine Met.ofW (cc := cX1_wordMark) (maxL := 3) (ret := (some .int)) (by decide) rfl ?_
  intro p e s m args below meth c s₁ B hml hv
  obtain ⟨rfl, hP, hG⟩ := hv
  have hx := B.exec
  have hb := B.bytes
  have hr := B.returns
  have hts := atoms_spec (ws := wsX1_wordMark) B.pre
  have hown : s.vm.findClass RX1 = some m.cls := findClass_of_methodNamed B.named
  have hlocks := B.notSynchronized
  have hK := hG.1
  have hiX1 : ∀ w ∈ u_ws RX1 TX1 7, w ∈ wsX1_wordMark := by decide +kernel
  refine w_entry [(0, .ref a_this), (1, .int p_1), (2, .int p_2)] (Nat.le_of_ble_eq_true rfl) rfl (fun ls hl => ?_)
  rw [f_X1_wordMark] at hf
  refine lv_aload_n hx hb dX1_wordMark_0 rfl (lv_at hl 0 rfl) ?_
  refine va_get (D := (dC, dI)) (ci := 1) (v := .ref a_this_wordOf) (C := RX1) (T := TX1) (N := 7) hx hb hts hiX1 hown hK hP 0 rfl rfl 1 (by decide) (hts (.fieldLink RX1 15 "SureCount$Papers" "wordOf" "[I") (by decide +kernel)) (fun _ h9 => h9) rfl dX1_wordMark_1 ?_
  refine lv_iload_n hx hb dX1_wordMark_4 rfl (lv_at hl 1 rfl) ?_
  have hi1 := (gd_some hf).1
  replace hf := (gd_some hf).2
  refine va_iald hx hb hK hP 1 0 rfl rfl hi1 dX1_wordMark_5 ?_
  refine lv_iload_n hx hb dX1_wordMark_6 rfl (lv_at hl 2 rfl) ?_
  obtain ⟨o2, ho2, hf⟩ := Option.bind_eq_some_iff.mp hf
  refine pcI (va_runSN (As := [.int (f_this_wordOf p_1.toNatClampNeg), .int p_2]) (rest := []) ⟨hx, hb, hml, hown, hts⟩ (c_X5_markOf l dC dI cI cZ cR cJ (p_0 := f_this_wordOf p_1.toNatClampNeg) (p_1 := p_2) (r0 := o2) (N := N)  ho2) ⟨va_cnB 2 hts gX1_wordMark_X5_markOf_n39 rfl rfl rfl (hG.2.2.1 (RX1, 39, yX5_markOf, "SureCount") (List.mem_of_getElem? (i := 6) rfl)) (hts (.initialized RX5) (by decide +kernel)) (by decide +kernel) ⟨Nat.le_of_ble_eq_true rfl, Nat.le_of_ble_eq_true rfl⟩, hts (.static yX5_markOf) (by decide +kernel), trivial⟩ ⟨rd_blind, rd_pre (hP.sub [] rfl) hG⟩ rfl rfl hl.1 rfl (lv_room (Nat.le_of_ble_eq_true rfl)) dX1_wordMark_7 ⟨Nat.zero_le _, Nat.zero_le _⟩) ?_
  cases hf
  exact W.iret hx hb hr (fun t ht hW => ⟨rfl, ht⟩) (fun _ h => nomatch h) dX1_wordMark_10
def f_X1_handMark (p_1 : Int32) (p_2 : Int32) (p_3 : Int32) (f_this_handsOf : Nat → Int32) (f_this_handWords : Nat → Int32) : Option (Int32) := Option.bind (f_X1_isReadBy p_1 p_2 f_this_handsOf) (fun o1 => if o1 = 0 then (some (-1 : Int32)) else (gd ((p_1 * (3 : Int32)) + p_2) 900 (Option.bind (f_X5_markOf (f_this_handWords ((p_1 * (3 : Int32)) + p_2).toNatClampNeg) p_3) (fun o3 => some o3))))
set_option maxHeartbeats 4000000 in
set_option maxRecDepth 100000 in
theorem c_X1_handMark (l : Launch) (dC : Nat → ClassId) (dI : Nat → Nat → Nat) (cI cZ cR cJ : ClassId) (a_this a_this_boxOf a_this_wordOf a_this_isLost a_this_wasDrawn a_this_handsOf a_this_handWords : Nat) (v_this_size : Int32) (f_this_handsOf : Nat → Int32) (f_this_handWords : Nat → Int32) (p_1 : Int32) (p_2 : Int32) (p_3 : Int32) (N : Nat) (r0 : Int32) (hf : f_X1_handMark p_1 p_2 p_3 f_this_handsOf f_this_handWords = some r0) : Met l yX1_handMark wsX1_handMark ({ frames := 1, cells := 0, slots := 0, locals := 22 } : Room) (va_Pc ([.ref a_this, .int p_1, .int p_2, .int p_3] : List Value) (rdB (dC, dI) [(a_this, .inr (1, [.ref a_this_boxOf, .ref a_this_wordOf, .ref a_this_isLost, .ref a_this_wasDrawn, .ref a_this_handsOf, .ref a_this_handWords, .int v_this_size])), (a_this_handsOf, .inl (cI, 300, .inl f_this_handsOf)), (a_this_handWords, .inl (cI, 900, .inl f_this_handWords))] (GG dC dI cI cZ cR cJ))) (pqI r0) 0 0 noF := by
  refine Met.ofW (cc := cX1_handMark) (maxL := 4) (ret := (some .int)) (by decide) rfl ?_
  intro p e s m args below meth c s₁ B hml hv
  obtain ⟨rfl, hP, hG⟩ := hv
  have hx := B.exec
  have hb := B.bytes
  have hr := B.returns
  have hts := atoms_spec (ws := wsX1_handMark) B.pre
  have hown : s.vm.findClass RX1 = some m.cls := findClass_of_methodNamed B.named
  have hlocks := B.notSynchronized
  have hK := hG.1
  have hiX1 : ∀ w ∈ u_ws RX1 TX1 7, w ∈ wsX1_handMark := by decide +kernel
  refine w_entry [(0, .ref a_this), (1, .int p_1), (2, .int p_2), (3, .int p_3)] (Nat.le_of_ble_eq_true rfl) rfl (fun ls hl => ?_)
  rw [f_X1_handMark] at hf
  refine lv_aload_n hx hb dX1_handMark_0 rfl (lv_at hl 0 rfl) ?_
  refine lv_iload_n hx hb dX1_handMark_1 rfl (lv_at hl 1 rfl) ?_
  refine lv_iload_n hx hb dX1_handMark_2 rfl (lv_at hl 2 rfl) ?_
  obtain ⟨o1, ho1, hf⟩ := Option.bind_eq_some_iff.mp hf
  refine pcI (va_runV (As := [.int p_1, .int p_2]) (rest := []) ⟨hx, hb, hml, hown, hts⟩ (c_X1_isReadBy l dC dI cI cZ cR cJ (a_this := a_this) (a_this_boxOf := a_this_boxOf) (a_this_wordOf := a_this_wordOf) (a_this_isLost := a_this_isLost) (a_this_wasDrawn := a_this_wasDrawn) (a_this_handsOf := a_this_handsOf) (a_this_handWords := a_this_handWords) (v_this_size := v_this_size) (f_this_handsOf := f_this_handsOf) (p_1 := p_1) (p_2 := p_2) (r0 := o1) (N := N)  ho1) (cwV 2 hts gX1_handMark_X1_isReadBy rfl rfl rfl (by decide +kernel) ⟨Nat.le_of_ble_eq_true rfl, Nat.le_of_ble_eq_true rfl⟩) ⟨rd_blind, va_recv hK hP (ci := 1) (q0 := 0) rfl rfl, rd_pre (hP.sub [0, 1] rfl) hG⟩ rfl rfl hl.1 rfl (lv_room (Nat.le_of_ble_eq_true rfl)) dX1_handMark_3 ⟨Nat.zero_le _, Nat.zero_le _⟩) ?_
  refine lv_if_eq (tgt := 26) hx hb dX1_handMark_6 (by decide) (fun hc => ?_) (fun hc => ?_)
  · replace hf := (if_pos hc).symm.trans hf
    refine lv_iconst (v := (-1 : Int32)) hx hb dX1_handMark_26 (by decide) ?_
    cases hf
    exact W.iret hx hb hr (fun t ht hW => ⟨rfl, ht⟩) (fun _ h => nomatch h) dX1_handMark_27
  · replace hf := (if_neg hc).symm.trans hf
    refine lv_aload_n hx hb dX1_handMark_9 rfl (lv_at hl 0 rfl) ?_
    refine va_get (D := (dC, dI)) (ci := 1) (v := .ref a_this_handWords) (C := RX1) (T := TX1) (N := 7) hx hb hts hiX1 hown hK hP 0 rfl rfl 5 (by decide) (hts (.fieldLink RX1 28 "SureCount$Papers" "handWords" "[I") (by decide +kernel)) (fun _ h9 => h9) rfl dX1_handMark_10 ?_
    refine lv_iload_n hx hb dX1_handMark_13 rfl (lv_at hl 1 rfl) ?_
    refine lv_iconst (v := (3 : Int32)) hx hb dX1_handMark_14 (by decide) ?_
    refine lv_imul hx hb dX1_handMark_15 ?_
    refine lv_iload_n hx hb dX1_handMark_16 rfl (lv_at hl 2 rfl) ?_
    refine lv_iadd hx hb dX1_handMark_17 ?_
    have hi2 := (gd_some hf).1
    replace hf := (gd_some hf).2
    refine va_iald hx hb hK hP 2 0 rfl rfl hi2 dX1_handMark_18 ?_
    refine lv_iload_n hx hb dX1_handMark_19 rfl (lv_at hl 3 rfl) ?_
    obtain ⟨o3, ho3, hf⟩ := Option.bind_eq_some_iff.mp hf
    refine pcI (va_runSN (As := [.int (f_this_handWords ((p_1 * (3 : Int32)) + p_2).toNatClampNeg), .int p_3]) (rest := []) ⟨hx, hb, hml, hown, hts⟩ (c_X5_markOf l dC dI cI cZ cR cJ (p_0 := f_this_handWords ((p_1 * (3 : Int32)) + p_2).toNatClampNeg) (p_1 := p_3) (r0 := o3) (N := N)  ho3) ⟨va_cnB 2 hts gX1_handMark_X5_markOf_n39 rfl rfl rfl (hG.2.2.1 (RX1, 39, yX5_markOf, "SureCount") (List.mem_of_getElem? (i := 6) rfl)) (hts (.initialized RX5) (by decide +kernel)) (by decide +kernel) ⟨Nat.le_of_ble_eq_true rfl, Nat.le_of_ble_eq_true rfl⟩, hts (.static yX5_markOf) (by decide +kernel), trivial⟩ ⟨rd_blind, rd_pre (hP.sub [] rfl) hG⟩ rfl rfl hl.1 rfl (lv_room (Nat.le_of_ble_eq_true rfl)) dX1_handMark_20 ⟨Nat.zero_le _, Nat.zero_le _⟩) ?_
    refine lv_goto (tgt := 27) hx hb dX1_handMark_23 (by decide) ?_
    cases hf
    exact W.iret hx hb hr (fun t ht hW => ⟨rfl, ht⟩) (fun _ h => nomatch h) dX1_handMark_27
def f_X1_handsMark (p_1 : Int32) (p_2 : Int32) (f_this_handsOf : Nat → Int32) (f_this_handWords : Nat → Int32) : Option (Int32) := Option.bind (f_X1_handMark p_1 (0 : Int32) p_2 f_this_handsOf f_this_handWords) (fun o1 => Option.bind (f_X1_handMark p_1 (1 : Int32) p_2 f_this_handsOf f_this_handWords) (fun o2 => Option.bind (f_X1_handMark p_1 (2 : Int32) p_2 f_this_handsOf f_this_handWords) (fun o3 => if o1 = (-1 : Int32) then (if o2 = (-1 : Int32) then (gd p_1 300 (Option.bind (f_J6_bitCount_0f7a4 (f_this_handsOf p_1.toNatClampNeg)) (fun o5 => if o5 ≤ (1 : Int32) then (some (imax o1 (imax o2 o3))) else (some (0 : Int32))))) else (if o2 = o3 then (some o2) else (gd p_1 300 (Option.bind (f_J6_bitCount_0f7a4 (f_this_handsOf p_1.toNatClampNeg)) (fun o7 => if o7 ≤ (1 : Int32) then (some (imax o1 (imax o2 o3))) else (some (0 : Int32))))))) else (if o1 = o2 then (some o1) else (if o1 = o3 then (some o1) else (if o2 = (-1 : Int32) then (gd p_1 300 (Option.bind (f_J6_bitCount_0f7a4 (f_this_handsOf p_1.toNatClampNeg)) (fun o9 => if o9 ≤ (1 : Int32) then (some (imax o1 (imax o2 o3))) else (some (0 : Int32))))) else (if o2 = o3 then (some o2) else (gd p_1 300 (Option.bind (f_J6_bitCount_0f7a4 (f_this_handsOf p_1.toNatClampNeg)) (fun o11 => if o11 ≤ (1 : Int32) then (some (imax o1 (imax o2 o3))) else (some (0 : Int32))))))))))))
set_option maxHeartbeats 4000000 in
set_option maxRecDepth 100000 in
theorem c_X1_handsMark (l : Launch) (dC : Nat → ClassId) (dI : Nat → Nat → Nat) (cI cZ cR cJ : ClassId) (a_this a_this_boxOf a_this_wordOf a_this_isLost a_this_wasDrawn a_this_handsOf a_this_handWords : Nat) (v_this_size : Int32) (f_this_handsOf : Nat → Int32) (f_this_handWords : Nat → Int32) (p_1 : Int32) (p_2 : Int32) (N : Nat) (r0 : Int32) (hf : f_X1_handsMark p_1 p_2 f_this_handsOf f_this_handWords = some r0) : Met l yX1_handsMark wsX1_handsMark ({ frames := 2, cells := 0, slots := 0, locals := 45 } : Room) (va_Pc ([.ref a_this, .int p_1, .int p_2] : List Value) (rdB (dC, dI) [(a_this, .inr (1, [.ref a_this_boxOf, .ref a_this_wordOf, .ref a_this_isLost, .ref a_this_wasDrawn, .ref a_this_handsOf, .ref a_this_handWords, .int v_this_size])), (a_this_handsOf, .inl (cI, 300, .inl f_this_handsOf)), (a_this_handWords, .inl (cI, 900, .inl f_this_handWords))] (GG dC dI cI cZ cR cJ))) (pqI r0) 0 0 noF := by
  refine Met.ofW (cc := cX1_handsMark) (maxL := 6) (ret := (some .int)) (by decide) rfl ?_
  intro p e s m args below meth c s₁ B hml hv
  obtain ⟨rfl, hP, hG⟩ := hv
  have hx := B.exec
  have hb := B.bytes
  have hr := B.returns
  have hts := atoms_spec (ws := wsX1_handsMark) B.pre
  have hown : s.vm.findClass RX1 = some m.cls := findClass_of_methodNamed B.named
  have hlocks := B.notSynchronized
  have hK := hG.1
  have hiX1 : ∀ w ∈ u_ws RX1 TX1 7, w ∈ wsX1_handsMark := by decide +kernel
  refine w_entry [(0, .ref a_this), (1, .int p_1), (2, .int p_2)] (Nat.le_of_ble_eq_true rfl) rfl (fun ls hl => ?_)
  rw [f_X1_handsMark] at hf
  refine lv_aload_n hx hb dX1_handsMark_0 rfl (lv_at hl 0 rfl) ?_
  refine lv_iload_n hx hb dX1_handsMark_1 rfl (lv_at hl 1 rfl) ?_
  refine lv_iconst (v := (0 : Int32)) hx hb dX1_handsMark_2 (by decide) ?_
  refine lv_iload_n hx hb dX1_handsMark_3 rfl (lv_at hl 2 rfl) ?_
  obtain ⟨o1, ho1, hf⟩ := Option.bind_eq_some_iff.mp hf
  refine pcI (va_runV (As := [.int p_1, .int (0 : Int32), .int p_2]) (rest := []) ⟨hx, hb, hml, hown, hts⟩ (c_X1_handMark l dC dI cI cZ cR cJ (a_this := a_this) (a_this_boxOf := a_this_boxOf) (a_this_wordOf := a_this_wordOf) (a_this_isLost := a_this_isLost) (a_this_wasDrawn := a_this_wasDrawn) (a_this_handsOf := a_this_handsOf) (a_this_handWords := a_this_handWords) (v_this_size := v_this_size) (f_this_handsOf := f_this_handsOf) (f_this_handWords := f_this_handWords) (p_1 := p_1) (p_2 := (0 : Int32)) (p_3 := p_2) (r0 := o1) (N := N)  ho1) (cwV 3 hts gX1_handsMark_X1_handMark rfl rfl rfl (by decide +kernel) ⟨Nat.le_of_ble_eq_true rfl, Nat.le_of_ble_eq_true rfl⟩) ⟨rd_blind, va_recv hK hP (ci := 1) (q0 := 0) rfl rfl, rd_pre (hP.sub [0, 1, 2] rfl) hG⟩ rfl rfl hl.1 rfl (lv_room (Nat.le_of_ble_eq_true rfl)) dX1_handsMark_4 ⟨Nat.zero_le _, Nat.zero_le _⟩) ?_
  refine lv_istore_n (lv' := [(3, .int o1), (0, .ref a_this), (1, .int p_1), (2, .int p_2)]) hx hb dX1_handsMark_7 rfl hl (by decide) rfl (fun ls hl => ?_)
  refine lv_aload_n hx hb dX1_handsMark_8 rfl (lv_at hl 1 rfl) ?_
  refine lv_iload_n hx hb dX1_handsMark_9 rfl (lv_at hl 2 rfl) ?_
  refine lv_iconst (v := (1 : Int32)) hx hb dX1_handsMark_10 (by decide) ?_
  refine lv_iload_n hx hb dX1_handsMark_11 rfl (lv_at hl 3 rfl) ?_
  obtain ⟨o2, ho2, hf⟩ := Option.bind_eq_some_iff.mp hf
  refine pcI (va_runV (As := [.int p_1, .int (1 : Int32), .int p_2]) (rest := []) ⟨hx, hb, hml, hown, hts⟩ (c_X1_handMark l dC dI cI cZ cR cJ (a_this := a_this) (a_this_boxOf := a_this_boxOf) (a_this_wordOf := a_this_wordOf) (a_this_isLost := a_this_isLost) (a_this_wasDrawn := a_this_wasDrawn) (a_this_handsOf := a_this_handsOf) (a_this_handWords := a_this_handWords) (v_this_size := v_this_size) (f_this_handsOf := f_this_handsOf) (f_this_handWords := f_this_handWords) (p_1 := p_1) (p_2 := (1 : Int32)) (p_3 := p_2) (r0 := o2) (N := N)  ho2) (cwV 3 hts gX1_handsMark_X1_handMark rfl rfl rfl (by decide +kernel) ⟨Nat.le_of_ble_eq_true rfl, Nat.le_of_ble_eq_true rfl⟩) ⟨rd_blind, va_recv hK hP (ci := 1) (q0 := 0) rfl rfl, rd_pre (hP.sub [0, 1, 2] rfl) hG⟩ rfl rfl hl.1 rfl (lv_room (Nat.le_of_ble_eq_true rfl)) dX1_handsMark_12 ⟨Nat.zero_le _, Nat.zero_le _⟩) ?_
  refine lv_istore (lv' := [(4, .int o2), (3, .int o1), (0, .ref a_this), (1, .int p_1), (2, .int p_2)]) hx hb dX1_handsMark_15 hl (by decide) rfl (fun ls hl => ?_)
  refine lv_aload_n hx hb dX1_handsMark_17 rfl (lv_at hl 2 rfl) ?_
  refine lv_iload_n hx hb dX1_handsMark_18 rfl (lv_at hl 3 rfl) ?_
  refine lv_iconst (v := (2 : Int32)) hx hb dX1_handsMark_19 (by decide) ?_
  refine lv_iload_n hx hb dX1_handsMark_20 rfl (lv_at hl 4 rfl) ?_
  obtain ⟨o3, ho3, hf⟩ := Option.bind_eq_some_iff.mp hf
  refine pcI (va_runV (As := [.int p_1, .int (2 : Int32), .int p_2]) (rest := []) ⟨hx, hb, hml, hown, hts⟩ (c_X1_handMark l dC dI cI cZ cR cJ (a_this := a_this) (a_this_boxOf := a_this_boxOf) (a_this_wordOf := a_this_wordOf) (a_this_isLost := a_this_isLost) (a_this_wasDrawn := a_this_wasDrawn) (a_this_handsOf := a_this_handsOf) (a_this_handWords := a_this_handWords) (v_this_size := v_this_size) (f_this_handsOf := f_this_handsOf) (f_this_handWords := f_this_handWords) (p_1 := p_1) (p_2 := (2 : Int32)) (p_3 := p_2) (r0 := o3) (N := N)  ho3) (cwV 3 hts gX1_handsMark_X1_handMark rfl rfl rfl (by decide +kernel) ⟨Nat.le_of_ble_eq_true rfl, Nat.le_of_ble_eq_true rfl⟩) ⟨rd_blind, va_recv hK hP (ci := 1) (q0 := 0) rfl rfl, rd_pre (hP.sub [0, 1, 2] rfl) hG⟩ rfl rfl hl.1 rfl (lv_room (Nat.le_of_ble_eq_true rfl)) dX1_handsMark_21 ⟨Nat.zero_le _, Nat.zero_le _⟩) ?_
  refine lv_istore (lv' := [(5, .int o3), (4, .int o2), (3, .int o1), (0, .ref a_this), (1, .int p_1), (2, .int p_2)]) hx hb dX1_handsMark_24 hl (by decide) rfl (fun ls hl => ?_)
  refine lv_iload_n hx hb dX1_handsMark_26 rfl (lv_at hl 2 rfl) ?_
  refine lv_iconst (v := (-1 : Int32)) hx hb dX1_handsMark_27 (by decide) ?_
  refine lv_icmp_eq (tgt := 45) hx hb dX1_handsMark_28 (by decide) (fun hc => ?_) (fun hc => ?_)
  · replace hf := (if_pos hc).symm.trans hf
    refine lv_iload hx hb dX1_handsMark_45 (lv_at hl 1 rfl) ?_
    refine lv_iconst (v := (-1 : Int32)) hx hb dX1_handsMark_47 (by decide) ?_
    refine lv_icmp_eq (tgt := 61) hx hb dX1_handsMark_48 (by decide) (fun hc => ?_) (fun hc => ?_)
    · replace hf := (if_pos hc).symm.trans hf
      refine lv_aload_n hx hb dX1_handsMark_61 rfl (lv_at hl 3 rfl) ?_
      refine va_get (D := (dC, dI)) (ci := 1) (v := .ref a_this_handsOf) (C := RX1) (T := TX1) (N := 7) hx hb hts hiX1 hown hK hP 0 rfl rfl 4 (by decide) (hts (.fieldLink RX1 25 "SureCount$Papers" "handsOf" "[I") (by decide +kernel)) (fun _ h9 => h9) rfl dX1_handsMark_62 ?_
      refine lv_iload_n hx hb dX1_handsMark_65 rfl (lv_at hl 4 rfl) ?_
      have hi4 := (gd_some hf).1
      replace hf := (gd_some hf).2
      refine va_iald hx hb hK hP 1 0 rfl rfl hi4 dX1_handsMark_66 ?_
      obtain ⟨o5, ho5, hf⟩ := Option.bind_eq_some_iff.mp hf
      refine pcI (va_runS (As := [.int (f_this_handsOf p_1.toNatClampNeg)]) (rest := []) ⟨hx, hb, hml, hown, hts⟩ (c_J6_bitCount_0f7a4 l dC dI cI cZ cR cJ (p_0 := f_this_handsOf p_1.toNatClampNeg) (r0 := o5) (N := N)  ho5) (va_cwS 1 hts gX1_handsMark_J6_bitCount_0f7a4 rfl rfl rfl (by decide +kernel) ⟨Nat.le_of_ble_eq_true rfl, Nat.le_of_ble_eq_true rfl⟩) ⟨rd_blind, rd_pre (hP.sub [] rfl) hG⟩ rfl rfl hl.1 rfl (lv_room (Nat.le_of_ble_eq_true rfl)) dX1_handsMark_67 ⟨Nat.zero_le _, Nat.zero_le _⟩) ?_
      refine lv_iconst (v := (1 : Int32)) hx hb dX1_handsMark_70 (by decide) ?_
      refine lv_icmp_le (tgt := 76) hx hb dX1_handsMark_71 (by decide) (fun hc => ?_) (fun hc => ?_)
      · replace hf := (if_pos hc).symm.trans hf
        refine lv_iload_n hx hb dX1_handsMark_76 rfl (lv_at hl 2 rfl) ?_
        refine lv_iload hx hb dX1_handsMark_77 (lv_at hl 1 rfl) ?_
        refine lv_iload hx hb dX1_handsMark_79 (lv_at hl 0 rfl) ?_
        refine va_mmax hx hb (hml.trans hl.1.symm) hown (hts (.methodLink RX1 53 Lib.Math.max.name) (by decide +kernel)) (hts (.static Lib.Math.max.name) (by decide +kernel)) (hts (.initialized "java/lang/Math") (by decide +kernel)) (hts (.code Lib.Math.max.name Lib.Math.max.code 2 (some .int)) (by decide +kernel)) (Nat.le_of_ble_eq_true rfl) (Nat.le_of_ble_eq_true rfl) (Nat.zero_le _) (Nat.zero_le _) dX1_handsMark_81 ?_
        refine va_mmax hx hb (hml.trans hl.1.symm) hown (hts (.methodLink RX1 53 Lib.Math.max.name) (by decide +kernel)) (hts (.static Lib.Math.max.name) (by decide +kernel)) (hts (.initialized "java/lang/Math") (by decide +kernel)) (hts (.code Lib.Math.max.name Lib.Math.max.code 2 (some .int)) (by decide +kernel)) (Nat.le_of_ble_eq_true rfl) (Nat.le_of_ble_eq_true rfl) (Nat.zero_le _) (Nat.zero_le _) dX1_handsMark_84 ?_
        cases hf
        exact W.iret hx hb hr (fun t ht hW => ⟨rfl, ht⟩) (fun _ h => nomatch h) dX1_handsMark_87
      · replace hf := (if_neg hc).symm.trans hf
        refine lv_iconst (v := (0 : Int32)) hx hb dX1_handsMark_74 (by decide) ?_
        cases hf
        exact W.iret hx hb hr (fun t ht hW => ⟨rfl, ht⟩) (fun _ h => nomatch h) dX1_handsMark_75
    · replace hf := (if_neg hc).symm.trans hf
      refine lv_iload hx hb dX1_handsMark_51 (lv_at hl 1 rfl) ?_
      refine lv_iload hx hb dX1_handsMark_53 (lv_at hl 0 rfl) ?_
      refine lv_icmp_ne (tgt := 61) hx hb dX1_handsMark_55 (by decide) (fun hc => ?_) (fun hc => ?_)
      · replace hf := (if_neg hc).symm.trans hf
        refine lv_aload_n hx hb dX1_handsMark_61 rfl (lv_at hl 3 rfl) ?_
        refine va_get (D := (dC, dI)) (ci := 1) (v := .ref a_this_handsOf) (C := RX1) (T := TX1) (N := 7) hx hb hts hiX1 hown hK hP 0 rfl rfl 4 (by decide) (hts (.fieldLink RX1 25 "SureCount$Papers" "handsOf" "[I") (by decide +kernel)) (fun _ h9 => h9) rfl dX1_handsMark_62 ?_
        refine lv_iload_n hx hb dX1_handsMark_65 rfl (lv_at hl 4 rfl) ?_
        have hi6 := (gd_some hf).1
        replace hf := (gd_some hf).2
        refine va_iald hx hb hK hP 1 0 rfl rfl hi6 dX1_handsMark_66 ?_
        obtain ⟨o7, ho7, hf⟩ := Option.bind_eq_some_iff.mp hf
        refine pcI (va_runS (As := [.int (f_this_handsOf p_1.toNatClampNeg)]) (rest := []) ⟨hx, hb, hml, hown, hts⟩ (c_J6_bitCount_0f7a4 l dC dI cI cZ cR cJ (p_0 := f_this_handsOf p_1.toNatClampNeg) (r0 := o7) (N := N)  ho7) (va_cwS 1 hts gX1_handsMark_J6_bitCount_0f7a4 rfl rfl rfl (by decide +kernel) ⟨Nat.le_of_ble_eq_true rfl, Nat.le_of_ble_eq_true rfl⟩) ⟨rd_blind, rd_pre (hP.sub [] rfl) hG⟩ rfl rfl hl.1 rfl (lv_room (Nat.le_of_ble_eq_true rfl)) dX1_handsMark_67 ⟨Nat.zero_le _, Nat.zero_le _⟩) ?_
        refine lv_iconst (v := (1 : Int32)) hx hb dX1_handsMark_70 (by decide) ?_
        refine lv_icmp_le (tgt := 76) hx hb dX1_handsMark_71 (by decide) (fun hc => ?_) (fun hc => ?_)
        · replace hf := (if_pos hc).symm.trans hf
          refine lv_iload_n hx hb dX1_handsMark_76 rfl (lv_at hl 2 rfl) ?_
          refine lv_iload hx hb dX1_handsMark_77 (lv_at hl 1 rfl) ?_
          refine lv_iload hx hb dX1_handsMark_79 (lv_at hl 0 rfl) ?_
          refine va_mmax hx hb (hml.trans hl.1.symm) hown (hts (.methodLink RX1 53 Lib.Math.max.name) (by decide +kernel)) (hts (.static Lib.Math.max.name) (by decide +kernel)) (hts (.initialized "java/lang/Math") (by decide +kernel)) (hts (.code Lib.Math.max.name Lib.Math.max.code 2 (some .int)) (by decide +kernel)) (Nat.le_of_ble_eq_true rfl) (Nat.le_of_ble_eq_true rfl) (Nat.zero_le _) (Nat.zero_le _) dX1_handsMark_81 ?_
          refine va_mmax hx hb (hml.trans hl.1.symm) hown (hts (.methodLink RX1 53 Lib.Math.max.name) (by decide +kernel)) (hts (.static Lib.Math.max.name) (by decide +kernel)) (hts (.initialized "java/lang/Math") (by decide +kernel)) (hts (.code Lib.Math.max.name Lib.Math.max.code 2 (some .int)) (by decide +kernel)) (Nat.le_of_ble_eq_true rfl) (Nat.le_of_ble_eq_true rfl) (Nat.zero_le _) (Nat.zero_le _) dX1_handsMark_84 ?_
          cases hf
          exact W.iret hx hb hr (fun t ht hW => ⟨rfl, ht⟩) (fun _ h => nomatch h) dX1_handsMark_87
        · replace hf := (if_neg hc).symm.trans hf
          refine lv_iconst (v := (0 : Int32)) hx hb dX1_handsMark_74 (by decide) ?_
          cases hf
          exact W.iret hx hb hr (fun t ht hW => ⟨rfl, ht⟩) (fun _ h => nomatch h) dX1_handsMark_75
      · replace hf := (if_pos hc).symm.trans hf
        refine lv_iload hx hb dX1_handsMark_58 (lv_at hl 1 rfl) ?_
        cases hf
        exact W.iret hx hb hr (fun t ht hW => ⟨rfl, ht⟩) (fun _ h => nomatch h) dX1_handsMark_60
  · replace hf := (if_neg hc).symm.trans hf
    refine lv_iload_n hx hb dX1_handsMark_31 rfl (lv_at hl 2 rfl) ?_
    refine lv_iload hx hb dX1_handsMark_32 (lv_at hl 1 rfl) ?_
    refine lv_icmp_eq (tgt := 43) hx hb dX1_handsMark_34 (by decide) (fun hc => ?_) (fun hc => ?_)
    · replace hf := (if_pos hc).symm.trans hf
      refine lv_iload_n hx hb dX1_handsMark_43 rfl (lv_at hl 2 rfl) ?_
      cases hf
      exact W.iret hx hb hr (fun t ht hW => ⟨rfl, ht⟩) (fun _ h => nomatch h) dX1_handsMark_44
    · replace hf := (if_neg hc).symm.trans hf
      refine lv_iload_n hx hb dX1_handsMark_37 rfl (lv_at hl 2 rfl) ?_
      refine lv_iload hx hb dX1_handsMark_38 (lv_at hl 0 rfl) ?_
      refine lv_icmp_ne (tgt := 45) hx hb dX1_handsMark_40 (by decide) (fun hc => ?_) (fun hc => ?_)
      · replace hf := (if_neg hc).symm.trans hf
        refine lv_iload hx hb dX1_handsMark_45 (lv_at hl 1 rfl) ?_
        refine lv_iconst (v := (-1 : Int32)) hx hb dX1_handsMark_47 (by decide) ?_
        refine lv_icmp_eq (tgt := 61) hx hb dX1_handsMark_48 (by decide) (fun hc => ?_) (fun hc => ?_)
        · replace hf := (if_pos hc).symm.trans hf
          refine lv_aload_n hx hb dX1_handsMark_61 rfl (lv_at hl 3 rfl) ?_
          refine va_get (D := (dC, dI)) (ci := 1) (v := .ref a_this_handsOf) (C := RX1) (T := TX1) (N := 7) hx hb hts hiX1 hown hK hP 0 rfl rfl 4 (by decide) (hts (.fieldLink RX1 25 "SureCount$Papers" "handsOf" "[I") (by decide +kernel)) (fun _ h9 => h9) rfl dX1_handsMark_62 ?_
          refine lv_iload_n hx hb dX1_handsMark_65 rfl (lv_at hl 4 rfl) ?_
          have hi8 := (gd_some hf).1
          replace hf := (gd_some hf).2
          refine va_iald hx hb hK hP 1 0 rfl rfl hi8 dX1_handsMark_66 ?_
          obtain ⟨o9, ho9, hf⟩ := Option.bind_eq_some_iff.mp hf
          refine pcI (va_runS (As := [.int (f_this_handsOf p_1.toNatClampNeg)]) (rest := []) ⟨hx, hb, hml, hown, hts⟩ (c_J6_bitCount_0f7a4 l dC dI cI cZ cR cJ (p_0 := f_this_handsOf p_1.toNatClampNeg) (r0 := o9) (N := N)  ho9) (va_cwS 1 hts gX1_handsMark_J6_bitCount_0f7a4 rfl rfl rfl (by decide +kernel) ⟨Nat.le_of_ble_eq_true rfl, Nat.le_of_ble_eq_true rfl⟩) ⟨rd_blind, rd_pre (hP.sub [] rfl) hG⟩ rfl rfl hl.1 rfl (lv_room (Nat.le_of_ble_eq_true rfl)) dX1_handsMark_67 ⟨Nat.zero_le _, Nat.zero_le _⟩) ?_
          refine lv_iconst (v := (1 : Int32)) hx hb dX1_handsMark_70 (by decide) ?_
          refine lv_icmp_le (tgt := 76) hx hb dX1_handsMark_71 (by decide) (fun hc => ?_) (fun hc => ?_)
          · replace hf := (if_pos hc).symm.trans hf
            refine lv_iload_n hx hb dX1_handsMark_76 rfl (lv_at hl 2 rfl) ?_
            refine lv_iload hx hb dX1_handsMark_77 (lv_at hl 1 rfl) ?_
            refine lv_iload hx hb dX1_handsMark_79 (lv_at hl 0 rfl) ?_
            refine va_mmax hx hb (hml.trans hl.1.symm) hown (hts (.methodLink RX1 53 Lib.Math.max.name) (by decide +kernel)) (hts (.static Lib.Math.max.name) (by decide +kernel)) (hts (.initialized "java/lang/Math") (by decide +kernel)) (hts (.code Lib.Math.max.name Lib.Math.max.code 2 (some .int)) (by decide +kernel)) (Nat.le_of_ble_eq_true rfl) (Nat.le_of_ble_eq_true rfl) (Nat.zero_le _) (Nat.zero_le _) dX1_handsMark_81 ?_
            refine va_mmax hx hb (hml.trans hl.1.symm) hown (hts (.methodLink RX1 53 Lib.Math.max.name) (by decide +kernel)) (hts (.static Lib.Math.max.name) (by decide +kernel)) (hts (.initialized "java/lang/Math") (by decide +kernel)) (hts (.code Lib.Math.max.name Lib.Math.max.code 2 (some .int)) (by decide +kernel)) (Nat.le_of_ble_eq_true rfl) (Nat.le_of_ble_eq_true rfl) (Nat.zero_le _) (Nat.zero_le _) dX1_handsMark_84 ?_
            cases hf
            exact W.iret hx hb hr (fun t ht hW => ⟨rfl, ht⟩) (fun _ h => nomatch h) dX1_handsMark_87
          · replace hf := (if_neg hc).symm.trans hf
            refine lv_iconst (v := (0 : Int32)) hx hb dX1_handsMark_74 (by decide) ?_
            cases hf
            exact W.iret hx hb hr (fun t ht hW => ⟨rfl, ht⟩) (fun _ h => nomatch h) dX1_handsMark_75
        · replace hf := (if_neg hc).symm.trans hf
          refine lv_iload hx hb dX1_handsMark_51 (lv_at hl 1 rfl) ?_
          refine lv_iload hx hb dX1_handsMark_53 (lv_at hl 0 rfl) ?_
          refine lv_icmp_ne (tgt := 61) hx hb dX1_handsMark_55 (by decide) (fun hc => ?_) (fun hc => ?_)
          · replace hf := (if_neg hc).symm.trans hf
            refine lv_aload_n hx hb dX1_handsMark_61 rfl (lv_at hl 3 rfl) ?_
            refine va_get (D := (dC, dI)) (ci := 1) (v := .ref a_this_handsOf) (C := RX1) (T := TX1) (N := 7) hx hb hts hiX1 hown hK hP 0 rfl rfl 4 (by decide) (hts (.fieldLink RX1 25 "SureCount$Papers" "handsOf" "[I") (by decide +kernel)) (fun _ h9 => h9) rfl dX1_handsMark_62 ?_
            refine lv_iload_n hx hb dX1_handsMark_65 rfl (lv_at hl 4 rfl) ?_
            have hi10 := (gd_some hf).1
            replace hf := (gd_some hf).2
            refine va_iald hx hb hK hP 1 0 rfl rfl hi10 dX1_handsMark_66 ?_
            obtain ⟨o11, ho11, hf⟩ := Option.bind_eq_some_iff.mp hf
            refine pcI (va_runS (As := [.int (f_this_handsOf p_1.toNatClampNeg)]) (rest := []) ⟨hx, hb, hml, hown, hts⟩ (c_J6_bitCount_0f7a4 l dC dI cI cZ cR cJ (p_0 := f_this_handsOf p_1.toNatClampNeg) (r0 := o11) (N := N)  ho11) (va_cwS 1 hts gX1_handsMark_J6_bitCount_0f7a4 rfl rfl rfl (by decide +kernel) ⟨Nat.le_of_ble_eq_true rfl, Nat.le_of_ble_eq_true rfl⟩) ⟨rd_blind, rd_pre (hP.sub [] rfl) hG⟩ rfl rfl hl.1 rfl (lv_room (Nat.le_of_ble_eq_true rfl)) dX1_handsMark_67 ⟨Nat.zero_le _, Nat.zero_le _⟩) ?_
            refine lv_iconst (v := (1 : Int32)) hx hb dX1_handsMark_70 (by decide) ?_
            refine lv_icmp_le (tgt := 76) hx hb dX1_handsMark_71 (by decide) (fun hc => ?_) (fun hc => ?_)
            · replace hf := (if_pos hc).symm.trans hf
              refine lv_iload_n hx hb dX1_handsMark_76 rfl (lv_at hl 2 rfl) ?_
              refine lv_iload hx hb dX1_handsMark_77 (lv_at hl 1 rfl) ?_
              refine lv_iload hx hb dX1_handsMark_79 (lv_at hl 0 rfl) ?_
              refine va_mmax hx hb (hml.trans hl.1.symm) hown (hts (.methodLink RX1 53 Lib.Math.max.name) (by decide +kernel)) (hts (.static Lib.Math.max.name) (by decide +kernel)) (hts (.initialized "java/lang/Math") (by decide +kernel)) (hts (.code Lib.Math.max.name Lib.Math.max.code 2 (some .int)) (by decide +kernel)) (Nat.le_of_ble_eq_true rfl) (Nat.le_of_ble_eq_true rfl) (Nat.zero_le _) (Nat.zero_le _) dX1_handsMark_81 ?_
              refine va_mmax hx hb (hml.trans hl.1.symm) hown (hts (.methodLink RX1 53 Lib.Math.max.name) (by decide +kernel)) (hts (.static Lib.Math.max.name) (by decide +kernel)) (hts (.initialized "java/lang/Math") (by decide +kernel)) (hts (.code Lib.Math.max.name Lib.Math.max.code 2 (some .int)) (by decide +kernel)) (Nat.le_of_ble_eq_true rfl) (Nat.le_of_ble_eq_true rfl) (Nat.zero_le _) (Nat.zero_le _) dX1_handsMark_84 ?_
              cases hf
              exact W.iret hx hb hr (fun t ht hW => ⟨rfl, ht⟩) (fun _ h => nomatch h) dX1_handsMark_87
            · replace hf := (if_neg hc).symm.trans hf
              refine lv_iconst (v := (0 : Int32)) hx hb dX1_handsMark_74 (by decide) ?_
              cases hf
              exact W.iret hx hb hr (fun t ht hW => ⟨rfl, ht⟩) (fun _ h => nomatch h) dX1_handsMark_75
          · replace hf := (if_pos hc).symm.trans hf
            refine lv_iload hx hb dX1_handsMark_58 (lv_at hl 1 rfl) ?_
            cases hf
            exact W.iret hx hb hr (fun t ht hW => ⟨rfl, ht⟩) (fun _ h => nomatch h) dX1_handsMark_60
      · replace hf := (if_pos hc).symm.trans hf
        refine lv_iload_n hx hb dX1_handsMark_43 rfl (lv_at hl 2 rfl) ?_
        cases hf
        exact W.iret hx hb hr (fun t ht hW => ⟨rfl, ht⟩) (fun _ h => nomatch h) dX1_handsMark_44
def f_X1_wholeMark (p_1 : Int32) (p_2 : Int32) (f_this_handsOf : Nat → Int32) (f_this_wordOf : Nat → Int32) (f_this_handWords : Nat → Int32) : Option (Int32) := Option.bind (f_X1_isReadByHand p_1 f_this_handsOf) (fun o1 => if o1 = 0 then (Option.bind (f_X1_wordMark p_1 p_2 f_this_wordOf) (fun o2 => some o2)) else (Option.bind (f_X1_handsMark p_1 p_2 f_this_handsOf f_this_handWords) (fun o3 => some o3)))
set_option maxHeartbeats 4000000 in
set_option maxRecDepth 100000 in
theorem c_X1_wholeMark (l : Launch) (dC : Nat → ClassId) (dI : Nat → Nat → Nat) (cI cZ cR cJ : ClassId) (a_this a_this_boxOf a_this_wordOf a_this_isLost a_this_wasDrawn a_this_handsOf a_this_handWords : Nat) (v_this_size : Int32) (f_this_handsOf : Nat → Int32) (f_this_wordOf : Nat → Int32) (f_this_handWords : Nat → Int32) (p_1 : Int32) (p_2 : Int32) (N : Nat) (r0 : Int32) (hf : f_X1_wholeMark p_1 p_2 f_this_handsOf f_this_wordOf f_this_handWords = some r0) : Met l yX1_wholeMark wsX1_wholeMark ({ frames := 3, cells := 0, slots := 0, locals := 70 } : Room) (va_Pc ([.ref a_this, .int p_1, .int p_2] : List Value) (rdB (dC, dI) [(a_this, .inr (1, [.ref a_this_boxOf, .ref a_this_wordOf, .ref a_this_isLost, .ref a_this_wasDrawn, .ref a_this_handsOf, .ref a_this_handWords, .int v_this_size])), (a_this_handsOf, .inl (cI, 300, .inl f_this_handsOf)), (a_this_wordOf, .inl (cI, 300, .inl f_this_wordOf)), (a_this_handWords, .inl (cI, 900, .inl f_this_handWords))] (GG dC dI cI cZ cR cJ))) (pqI r0) 0 0 noF := by
  refine Met.ofW (cc := cX1_wholeMark) (maxL := 3) (ret := (some .int)) (by decide) rfl ?_
  intro p e s m args below meth c s₁ B hml hv
  obtain ⟨rfl, hP, hG⟩ := hv
  have hx := B.exec
  have hb := B.bytes
  have hr := B.returns
  have hts := atoms_spec (ws := wsX1_wholeMark) B.pre
  have hown : s.vm.findClass RX1 = some m.cls := findClass_of_methodNamed B.named
  have hlocks := B.notSynchronized
  have hK := hG.1
  refine w_entry [(0, .ref a_this), (1, .int p_1), (2, .int p_2)] (Nat.le_of_ble_eq_true rfl) rfl (fun ls hl => ?_)
  rw [f_X1_wholeMark] at hf
  refine lv_aload_n hx hb dX1_wholeMark_0 rfl (lv_at hl 0 rfl) ?_
  refine lv_iload_n hx hb dX1_wholeMark_1 rfl (lv_at hl 1 rfl) ?_
  obtain ⟨o1, ho1, hf⟩ := Option.bind_eq_some_iff.mp hf
  refine pcI (va_runV (As := [.int p_1]) (rest := []) ⟨hx, hb, hml, hown, hts⟩ (c_X1_isReadByHand l dC dI cI cZ cR cJ (a_this := a_this) (a_this_boxOf := a_this_boxOf) (a_this_wordOf := a_this_wordOf) (a_this_isLost := a_this_isLost) (a_this_wasDrawn := a_this_wasDrawn) (a_this_handsOf := a_this_handsOf) (a_this_handWords := a_this_handWords) (v_this_size := v_this_size) (f_this_handsOf := f_this_handsOf) (p_1 := p_1) (r0 := o1) (N := N)  ho1) (cwV 1 hts gX1_wholeMark_X1_isReadByHand rfl rfl rfl (by decide +kernel) ⟨Nat.le_of_ble_eq_true rfl, Nat.le_of_ble_eq_true rfl⟩) ⟨rd_blind, va_recv hK hP (ci := 1) (q0 := 0) rfl rfl, rd_pre (hP.sub [0, 1] rfl) hG⟩ rfl rfl hl.1 rfl (lv_room (Nat.le_of_ble_eq_true rfl)) dX1_wholeMark_2 ⟨Nat.zero_le _, Nat.zero_le _⟩) ?_
  refine lv_if_eq (tgt := 17) hx hb dX1_wholeMark_5 (by decide) (fun hc => ?_) (fun hc => ?_)
  · replace hf := (if_pos hc).symm.trans hf
    refine lv_aload_n hx hb dX1_wholeMark_17 rfl (lv_at hl 0 rfl) ?_
    refine lv_iload_n hx hb dX1_wholeMark_18 rfl (lv_at hl 1 rfl) ?_
    refine lv_iload_n hx hb dX1_wholeMark_19 rfl (lv_at hl 2 rfl) ?_
    obtain ⟨o2, ho2, hf⟩ := Option.bind_eq_some_iff.mp hf
    refine pcI (va_runV (As := [.int p_1, .int p_2]) (rest := []) ⟨hx, hb, hml, hown, hts⟩ (c_X1_wordMark l dC dI cI cZ cR cJ (a_this := a_this) (a_this_boxOf := a_this_boxOf) (a_this_wordOf := a_this_wordOf) (a_this_isLost := a_this_isLost) (a_this_wasDrawn := a_this_wasDrawn) (a_this_handsOf := a_this_handsOf) (a_this_handWords := a_this_handWords) (v_this_size := v_this_size) (f_this_wordOf := f_this_wordOf) (p_1 := p_1) (p_2 := p_2) (r0 := o2) (N := N)  ho2) (cwV 2 hts gX1_wholeMark_X1_wordMark rfl rfl rfl (by decide +kernel) ⟨Nat.le_of_ble_eq_true rfl, Nat.le_of_ble_eq_true rfl⟩) ⟨rd_blind, va_recv hK hP (ci := 1) (q0 := 0) rfl rfl, rd_pre (hP.sub [0, 2] rfl) hG⟩ rfl rfl hl.1 rfl (lv_room (Nat.le_of_ble_eq_true rfl)) dX1_wholeMark_20 ⟨Nat.zero_le _, Nat.zero_le _⟩) ?_
    cases hf
    exact W.iret hx hb hr (fun t ht hW => ⟨rfl, ht⟩) (fun _ h => nomatch h) dX1_wholeMark_23
  · replace hf := (if_neg hc).symm.trans hf
    refine lv_aload_n hx hb dX1_wholeMark_8 rfl (lv_at hl 0 rfl) ?_
    refine lv_iload_n hx hb dX1_wholeMark_9 rfl (lv_at hl 1 rfl) ?_
    refine lv_iload_n hx hb dX1_wholeMark_10 rfl (lv_at hl 2 rfl) ?_
    obtain ⟨o3, ho3, hf⟩ := Option.bind_eq_some_iff.mp hf
    refine pcI (va_runV (As := [.int p_1, .int p_2]) (rest := []) ⟨hx, hb, hml, hown, hts⟩ (c_X1_handsMark l dC dI cI cZ cR cJ (a_this := a_this) (a_this_boxOf := a_this_boxOf) (a_this_wordOf := a_this_wordOf) (a_this_isLost := a_this_isLost) (a_this_wasDrawn := a_this_wasDrawn) (a_this_handsOf := a_this_handsOf) (a_this_handWords := a_this_handWords) (v_this_size := v_this_size) (f_this_handsOf := f_this_handsOf) (f_this_handWords := f_this_handWords) (p_1 := p_1) (p_2 := p_2) (r0 := o3) (N := N)  ho3) (cwV 2 hts gX1_wholeMark_X1_handsMark rfl rfl rfl (by decide +kernel) ⟨Nat.le_of_ble_eq_true rfl, Nat.le_of_ble_eq_true rfl⟩) ⟨rd_blind, va_recv hK hP (ci := 1) (q0 := 0) rfl rfl, rd_pre (hP.sub [0, 1, 3] rfl) hG⟩ rfl rfl hl.1 rfl (lv_room (Nat.le_of_ble_eq_true rfl)) dX1_wholeMark_11 ⟨Nat.zero_le _, Nat.zero_le _⟩) ?_
    refine lv_goto (tgt := 23) hx hb dX1_wholeMark_14 (by decide) ?_
    cases hf
    exact W.iret hx hb hr (fun t ht hW => ⟨rfl, ht⟩) (fun _ h => nomatch h) dX1_wholeMark_23
def f_X1_lostOnes_L4 (v_this_size : Int32) (f_this_isLost : Nat → Int32)  : Nat → Int32 → Int32 → Option (Int32)
  | 0, _, _ => none
  | n4 + 1, x_1, x_2 => if v_this_size ≤ x_2 then (some x_1) else (gd x_2 300 (if (f_this_isLost x_2.toNatClampNeg) = 0 then (f_X1_lostOnes_L4 v_this_size f_this_isLost n4 x_1 (x_2 + (1 : Int32))) else (f_X1_lostOnes_L4 v_this_size f_this_isLost n4 (x_1 + (1 : Int32)) (x_2 + (1 : Int32)))))
def f_X1_lostOnes (N : Nat) (v_this_size : Int32) (f_this_isLost : Nat → Int32) : Option (Int32) := f_X1_lostOnes_L4 v_this_size f_this_isLost  N (0 : Int32) (0 : Int32)
set_option maxHeartbeats 4000000 in
set_option maxRecDepth 100000 in
theorem c_X1_lostOnes (l : Launch) (dC : Nat → ClassId) (dI : Nat → Nat → Nat) (cI cZ cR cJ : ClassId) (a_this a_this_boxOf a_this_wordOf a_this_isLost a_this_wasDrawn a_this_handsOf a_this_handWords : Nat) (v_this_size : Int32) (f_this_isLost : Nat → Int32) (N : Nat) (r0 : Int32) (hf : f_X1_lostOnes N v_this_size f_this_isLost = some r0) : Met l yX1_lostOnes wsX1_lostOnes ({ frames := 0, cells := 0, slots := 0, locals := 0 } : Room) (va_Pc ([.ref a_this] : List Value) (rdB (dC, dI) [(a_this, .inr (1, [.ref a_this_boxOf, .ref a_this_wordOf, .ref a_this_isLost, .ref a_this_wasDrawn, .ref a_this_handsOf, .ref a_this_handWords, .int v_this_size])), (a_this_isLost, .inl (cZ, 300, .inl f_this_isLost))] (GG dC dI cI cZ cR cJ))) (pqI r0) 0 0 noF := by
  refine Met.ofW (cc := cX1_lostOnes) (maxL := 3) (ret := (some .int)) (by decide) rfl ?_
  intro p e s m args below meth c s₁ B hml hv
  obtain ⟨rfl, hP, hG⟩ := hv
  have hx := B.exec
  have hb := B.bytes
  have hr := B.returns
  have hts := atoms_spec (ws := wsX1_lostOnes) B.pre
  have hown : s.vm.findClass RX1 = some m.cls := findClass_of_methodNamed B.named
  have hlocks := B.notSynchronized
  have hK := hG.1
  have hiX1 : ∀ w ∈ u_ws RX1 TX1 7, w ∈ wsX1_lostOnes := by decide +kernel
  have loop4 : ∀ (n : Nat) (x_1 : Int32) (x_2 : Int32) (ls : Array Slot), lv_has ls 3 [(0, .ref a_this), (1, .int x_1), (2, .int x_2)] → f_X1_lostOnes_L4 v_this_size f_this_isLost  n x_1 x_2 = some r0 → W p l e (headSpec wsX1_lostOnes ({ frames := 0, cells := 0, slots := 0, locals := 0 } : Room)).room s m ([.ref a_this] : List Value).toArray below meth c s.heap [] 0 0 (MQ below (pqI r0) ([.ref a_this] : List Value).toArray s 0 0 noF) (F0 m 4 ls []) := by
    intro n
    induction n with
    | zero => intro x_1 x_2 ls hl hf; rw [f_X1_lostOnes_L4] at hf; cases hf
    | succ n4 ih4 =>
      intro x_1 x_2 ls hl hf
      rw [f_X1_lostOnes_L4] at hf
      refine lv_iload_n hx hb dX1_lostOnes_4 rfl (lv_at hl 2 rfl) ?_
      refine lv_aload_n hx hb dX1_lostOnes_5 rfl (lv_at hl 0 rfl) ?_
      refine va_get (D := (dC, dI)) (ci := 1) (v := .int v_this_size) (C := RX1) (T := TX1) (N := 7) hx hb hts hiX1 hown hK hP 0 rfl rfl 6 (by decide) (hts (.fieldLink RX1 31 "SureCount$Papers" "size" "I") (by decide +kernel)) (fun _ h9 => h9) rfl dX1_lostOnes_6 ?_
      refine lv_icmp_ge (tgt := 30) hx hb dX1_lostOnes_9 (by decide) (fun hc => ?_) (fun hc => ?_)
      · replace hf := (if_pos hc).symm.trans hf
        refine lv_iload_n hx hb dX1_lostOnes_30 rfl (lv_at hl 1 rfl) ?_
        cases hf
        exact W.iret hx hb hr (fun t ht hW => ⟨rfl, ht⟩) (fun _ h => nomatch h) dX1_lostOnes_31
      · replace hf := (if_neg hc).symm.trans hf
        refine lv_aload_n hx hb dX1_lostOnes_12 rfl (lv_at hl 0 rfl) ?_
        refine va_get (D := (dC, dI)) (ci := 1) (v := .ref a_this_isLost) (C := RX1) (T := TX1) (N := 7) hx hb hts hiX1 hown hK hP 0 rfl rfl 2 (by decide) (hts (.fieldLink RX1 18 "SureCount$Papers" "isLost" "[Z") (by decide +kernel)) (fun _ h9 => h9) rfl dX1_lostOnes_13 ?_
        refine lv_iload_n hx hb dX1_lostOnes_16 rfl (lv_at hl 2 rfl) ?_
        have hi1 := (gd_some hf).1
        replace hf := (gd_some hf).2
        refine va_zald hx hb hK hP 1 1 rfl rfl hi1 dX1_lostOnes_17 ?_
        refine lv_if_eq (tgt := 24) hx hb dX1_lostOnes_18 (by decide) (fun hc => ?_) (fun hc => ?_)
        · replace hf := (if_pos hc).symm.trans hf
          refine lv_iinc (v := x_2 + (1 : Int32)) (lv' := [(2, .int (x_2 + (1 : Int32))), (0, .ref a_this), (1, .int x_1)]) hx hb dX1_lostOnes_24 hl (k := 2) rfl (by first | rfl | decide) (by decide) rfl (fun ls hl => ?_)
          refine lv_goto (tgt := 4) hx hb dX1_lostOnes_27 (by decide) ?_
          exact ih4 x_1 (x_2 + (1 : Int32)) ls (lv_sub hl [1, 2, 0] rfl) hf
        · replace hf := (if_neg hc).symm.trans hf
          refine lv_iinc (v := x_1 + (1 : Int32)) (lv' := [(1, .int (x_1 + (1 : Int32))), (0, .ref a_this), (2, .int x_2)]) hx hb dX1_lostOnes_21 hl (k := 1) rfl (by first | rfl | decide) (by decide) rfl (fun ls hl => ?_)
          refine lv_iinc (v := x_2 + (1 : Int32)) (lv' := [(2, .int (x_2 + (1 : Int32))), (1, .int (x_1 + (1 : Int32))), (0, .ref a_this)]) hx hb dX1_lostOnes_24 hl (k := 2) rfl (by first | rfl | decide) (by decide) rfl (fun ls hl => ?_)
          refine lv_goto (tgt := 4) hx hb dX1_lostOnes_27 (by decide) ?_
          exact ih4 (x_1 + (1 : Int32)) (x_2 + (1 : Int32)) ls (lv_sub hl [2, 1, 0] rfl) hf
  refine w_entry [(0, .ref a_this)] (Nat.le_of_ble_eq_true rfl) rfl (fun ls hl => ?_)
  rw [f_X1_lostOnes] at hf
  refine lv_iconst (v := (0 : Int32)) hx hb dX1_lostOnes_0 (by decide) ?_
  refine lv_istore_n (lv' := [(1, .int (0 : Int32)), (0, .ref a_this)]) hx hb dX1_lostOnes_1 rfl hl (by decide) rfl (fun ls hl => ?_)
  refine lv_iconst (v := (0 : Int32)) hx hb dX1_lostOnes_2 (by decide) ?_
  refine lv_istore_n (lv' := [(2, .int (0 : Int32)), (1, .int (0 : Int32)), (0, .ref a_this)]) hx hb dX1_lostOnes_3 rfl hl (by decide) rfl (fun ls hl => ?_)
  exact loop4 N (0 : Int32) (0 : Int32) ls (lv_sub hl [2, 1, 0] rfl) hf
def f_X1_readOnes_L4 (v_this_size : Int32) (f_this_handsOf : Nat → Int32)  : Nat → Int32 → Int32 → Option (Int32)
  | 0, _, _ => none
  | n4 + 1, x_1, x_2 => if v_this_size ≤ x_2 then (some x_1) else (Option.bind (f_X1_isReadByHand x_2 f_this_handsOf) (fun o1 => if o1 = 0 then (f_X1_readOnes_L4 v_this_size f_this_handsOf n4 x_1 (x_2 + (1 : Int32))) else (f_X1_readOnes_L4 v_this_size f_this_handsOf n4 (x_1 + (1 : Int32)) (x_2 + (1 : Int32)))))
def f_X1_readOnes (N : Nat) (v_this_size : Int32) (f_this_handsOf : Nat → Int32) : Option (Int32) := f_X1_readOnes_L4 v_this_size f_this_handsOf  N (0 : Int32) (0 : Int32)
set_option maxHeartbeats 4000000 in
set_option maxRecDepth 100000 in
theorem c_X1_readOnes (l : Launch) (dC : Nat → ClassId) (dI : Nat → Nat → Nat) (cI cZ cR cJ : ClassId) (a_this a_this_boxOf a_this_wordOf a_this_isLost a_this_wasDrawn a_this_handsOf a_this_handWords : Nat) (v_this_size : Int32) (f_this_handsOf : Nat → Int32) (N : Nat) (r0 : Int32) (hf : f_X1_readOnes N v_this_size f_this_handsOf = some r0) : Met l yX1_readOnes wsX1_readOnes ({ frames := 1, cells := 0, slots := 0, locals := 21 } : Room) (va_Pc ([.ref a_this] : List Value) (rdB (dC, dI) [(a_this, .inr (1, [.ref a_this_boxOf, .ref a_this_wordOf, .ref a_this_isLost, .ref a_this_wasDrawn, .ref a_this_handsOf, .ref a_this_handWords, .int v_this_size])), (a_this_handsOf, .inl (cI, 300, .inl f_this_handsOf))] (GG dC dI cI cZ cR cJ))) (pqI r0) 0 0 noF := by
  refine Met.ofW (cc := cX1_readOnes) (maxL := 3) (ret := (some .int)) (by decide) rfl ?_
  intro p e s m args below meth c s₁ B hml hv
  obtain ⟨rfl, hP, hG⟩ := hv
  have hx := B.exec
  have hb := B.bytes
  have hr := B.returns
  have hts := atoms_spec (ws := wsX1_readOnes) B.pre
  have hown : s.vm.findClass RX1 = some m.cls := findClass_of_methodNamed B.named
  have hlocks := B.notSynchronized
  have hK := hG.1
  have hiX1 : ∀ w ∈ u_ws RX1 TX1 7, w ∈ wsX1_readOnes := by decide +kernel
  have loop4 : ∀ (n : Nat) (x_1 : Int32) (x_2 : Int32) (ls : Array Slot), lv_has ls 3 [(0, .ref a_this), (1, .int x_1), (2, .int x_2)] → f_X1_readOnes_L4 v_this_size f_this_handsOf  n x_1 x_2 = some r0 → W p l e (headSpec wsX1_readOnes ({ frames := 1, cells := 0, slots := 0, locals := 21 } : Room)).room s m ([.ref a_this] : List Value).toArray below meth c s.heap [] 0 0 (MQ below (pqI r0) ([.ref a_this] : List Value).toArray s 0 0 noF) (F0 m 4 ls []) := by
    intro n
    induction n with
    | zero => intro x_1 x_2 ls hl hf; rw [f_X1_readOnes_L4] at hf; cases hf
    | succ n4 ih4 =>
      intro x_1 x_2 ls hl hf
      rw [f_X1_readOnes_L4] at hf
      refine lv_iload_n hx hb dX1_readOnes_4 rfl (lv_at hl 2 rfl) ?_
      refine lv_aload_n hx hb dX1_readOnes_5 rfl (lv_at hl 0 rfl) ?_
      refine va_get (D := (dC, dI)) (ci := 1) (v := .int v_this_size) (C := RX1) (T := TX1) (N := 7) hx hb hts hiX1 hown hK hP 0 rfl rfl 6 (by decide) (hts (.fieldLink RX1 31 "SureCount$Papers" "size" "I") (by decide +kernel)) (fun _ h9 => h9) rfl dX1_readOnes_6 ?_
      refine lv_icmp_ge (tgt := 29) hx hb dX1_readOnes_9 (by decide) (fun hc => ?_) (fun hc => ?_)
      · replace hf := (if_pos hc).symm.trans hf
        refine lv_iload_n hx hb dX1_readOnes_29 rfl (lv_at hl 1 rfl) ?_
        cases hf
        exact W.iret hx hb hr (fun t ht hW => ⟨rfl, ht⟩) (fun _ h => nomatch h) dX1_readOnes_30
      · replace hf := (if_neg hc).symm.trans hf
        refine lv_aload_n hx hb dX1_readOnes_12 rfl (lv_at hl 0 rfl) ?_
        refine lv_iload_n hx hb dX1_readOnes_13 rfl (lv_at hl 2 rfl) ?_
        obtain ⟨o1, ho1, hf⟩ := Option.bind_eq_some_iff.mp hf
        refine pcI (va_runV (As := [.int x_2]) (rest := []) ⟨hx, hb, hml, hown, hts⟩ (c_X1_isReadByHand l dC dI cI cZ cR cJ (a_this := a_this) (a_this_boxOf := a_this_boxOf) (a_this_wordOf := a_this_wordOf) (a_this_isLost := a_this_isLost) (a_this_wasDrawn := a_this_wasDrawn) (a_this_handsOf := a_this_handsOf) (a_this_handWords := a_this_handWords) (v_this_size := v_this_size) (f_this_handsOf := f_this_handsOf) (p_1 := x_2) (r0 := o1) (N := N)  ho1) (cwV 1 hts gX1_readOnes_X1_isReadByHand rfl rfl rfl (by decide +kernel) ⟨Nat.le_of_ble_eq_true rfl, Nat.le_of_ble_eq_true rfl⟩) ⟨rd_blind, va_recv hK hP (ci := 1) (q0 := 0) rfl rfl, rd_pre (hP.sub [0, 1] rfl) hG⟩ rfl rfl hl.1 rfl (lv_room (Nat.le_of_ble_eq_true rfl)) dX1_readOnes_14 ⟨Nat.zero_le _, Nat.zero_le _⟩) ?_
        refine lv_if_eq (tgt := 23) hx hb dX1_readOnes_17 (by decide) (fun hc => ?_) (fun hc => ?_)
        · replace hf := (if_pos hc).symm.trans hf
          refine lv_iinc (v := x_2 + (1 : Int32)) (lv' := [(2, .int (x_2 + (1 : Int32))), (0, .ref a_this), (1, .int x_1)]) hx hb dX1_readOnes_23 hl (k := 2) rfl (by first | rfl | decide) (by decide) rfl (fun ls hl => ?_)
          refine lv_goto (tgt := 4) hx hb dX1_readOnes_26 (by decide) ?_
          exact ih4 x_1 (x_2 + (1 : Int32)) ls (lv_sub hl [1, 2, 0] rfl) hf
        · replace hf := (if_neg hc).symm.trans hf
          refine lv_iinc (v := x_1 + (1 : Int32)) (lv' := [(1, .int (x_1 + (1 : Int32))), (0, .ref a_this), (2, .int x_2)]) hx hb dX1_readOnes_20 hl (k := 1) rfl (by first | rfl | decide) (by decide) rfl (fun ls hl => ?_)
          refine lv_iinc (v := x_2 + (1 : Int32)) (lv' := [(2, .int (x_2 + (1 : Int32))), (1, .int (x_1 + (1 : Int32))), (0, .ref a_this)]) hx hb dX1_readOnes_23 hl (k := 2) rfl (by first | rfl | decide) (by decide) rfl (fun ls hl => ?_)
          refine lv_goto (tgt := 4) hx hb dX1_readOnes_26 (by decide) ?_
          exact ih4 (x_1 + (1 : Int32)) (x_2 + (1 : Int32)) ls (lv_sub hl [2, 1, 0] rfl) hf
  refine w_entry [(0, .ref a_this)] (Nat.le_of_ble_eq_true rfl) rfl (fun ls hl => ?_)
  rw [f_X1_readOnes] at hf
  refine lv_iconst (v := (0 : Int32)) hx hb dX1_readOnes_0 (by decide) ?_
  refine lv_istore_n (lv' := [(1, .int (0 : Int32)), (0, .ref a_this)]) hx hb dX1_readOnes_1 rfl hl (by decide) rfl (fun ls hl => ?_)
  refine lv_iconst (v := (0 : Int32)) hx hb dX1_readOnes_2 (by decide) ?_
  refine lv_istore_n (lv' := [(2, .int (0 : Int32)), (1, .int (0 : Int32)), (0, .ref a_this)]) hx hb dX1_readOnes_3 rfl hl (by decide) rfl (fun ls hl => ?_)
  exact loop4 N (0 : Int32) (0 : Int32) ls (lv_sub hl [2, 1, 0] rfl) hf
def f_X0_has (p_1 : Int32) (v_this_size : Int32) : Option (Int32) := if p_1 < 0 then (some (0 : Int32)) else (if v_this_size ≤ p_1 then (some (0 : Int32)) else (some (1 : Int32)))
set_option maxHeartbeats 4000000 in
set_option maxRecDepth 100000 in
theorem c_X0_has (l : Launch) (dC : Nat → ClassId) (dI : Nat → Nat → Nat) (cI cZ cR cJ : ClassId) (a_this a_this_paperOf : Nat) (v_this_size : Int32) (v_this_dice : Int64) (p_1 : Int32) (N : Nat) (r0 : Int32) (hf : f_X0_has p_1 v_this_size = some r0) : Met l yX0_has wsX0_has ({ frames := 0, cells := 0, slots := 0, locals := 0 } : Room) (va_Pc ([.ref a_this, .int p_1] : List Value) (rdB (dC, dI) [(a_this, .inr (0, [.ref a_this_paperOf, .int v_this_size, .long v_this_dice]))] (GG dC dI cI cZ cR cJ))) (pqI r0) 0 0 noF := by
  refine Met.ofW (cc := cX0_has) (maxL := 2) (ret := (some .boolean)) (by decide) rfl ?_
  intro p e s m args below meth c s₁ B hml hv
  obtain ⟨rfl, hP, hG⟩ := hv
  have hx := B.exec
  have hb := B.bytes
  have hr := B.returns
  have hts := atoms_spec (ws := wsX0_has) B.pre
  have hown : s.vm.findClass RX0 = some m.cls := findClass_of_methodNamed B.named
  have hlocks := B.notSynchronized
  have hK := hG.1
  have hiX0 : ∀ w ∈ u_ws RX0 TX0 3, w ∈ wsX0_has := by decide +kernel
  refine w_entry [(0, .ref a_this), (1, .int p_1)] (Nat.le_of_ble_eq_true rfl) rfl (fun ls hl => ?_)
  rw [f_X0_has] at hf
  refine lv_iload_n hx hb dX0_has_0 rfl (lv_at hl 1 rfl) ?_
  refine lv_if_lt (tgt := 16) hx hb dX0_has_1 (by decide) (fun hc => ?_) (fun hc => ?_)
  · replace hf := (if_pos hc).symm.trans hf
    refine lv_iconst (v := (0 : Int32)) hx hb dX0_has_16 (by decide) ?_
    cases hf
    exact W.zret hx hb hr rfl (fun t ht hW => ⟨rfl, ht⟩) (fun _ h => nomatch h) dX0_has_17
  · replace hf := (if_neg hc).symm.trans hf
    refine lv_iload_n hx hb dX0_has_4 rfl (lv_at hl 1 rfl) ?_
    refine lv_aload_n hx hb dX0_has_5 rfl (lv_at hl 0 rfl) ?_
    refine va_get (D := (dC, dI)) (ci := 0) (v := .int v_this_size) (C := RX0) (T := TX0) (N := 3) hx hb hts hiX0 hown hK hP 0 rfl rfl 1 (by decide) (hts (.fieldLink RX0 15 "SureCount$Draws" "size" "I") (by decide +kernel)) (fun _ h9 => h9) rfl dX0_has_6 ?_
    refine lv_icmp_ge (tgt := 16) hx hb dX0_has_9 (by decide) (fun hc => ?_) (fun hc => ?_)
    · replace hf := (if_pos hc).symm.trans hf
      refine lv_iconst (v := (0 : Int32)) hx hb dX0_has_16 (by decide) ?_
      cases hf
      exact W.zret hx hb hr rfl (fun t ht hW => ⟨rfl, ht⟩) (fun _ h => nomatch h) dX0_has_17
    · replace hf := (if_neg hc).symm.trans hf
      refine lv_iconst (v := (1 : Int32)) hx hb dX0_has_12 (by decide) ?_
      refine lv_goto (tgt := 17) hx hb dX0_has_13 (by decide) ?_
      cases hf
      exact W.zret hx hb hr rfl (fun t ht hW => ⟨rfl, ht⟩) (fun _ h => nomatch h) dX0_has_17
def f_X0_settled_L2 (v_this_size : Int32) (f_this_paperOf : Nat → Int32) (f_q1_isLost : Nat → Int32) (f_q1_handsOf : Nat → Int32)  : Nat → Int32 → Option (Int32)
  | 0, _ => none
  | n2 + 1, x_2 => if v_this_size ≤ x_2 then (some v_this_size) else (gd x_2 2000 (Option.bind (f_X1_isSettled (f_this_paperOf x_2.toNatClampNeg) f_q1_isLost f_q1_handsOf) (fun o2 => if o2 = 0 then (some x_2) else (f_X0_settled_L2 v_this_size f_this_paperOf f_q1_isLost f_q1_handsOf n2 (x_2 + (1 : Int32))))))
def f_X0_settled (N : Nat) (v_this_size : Int32) (f_this_paperOf : Nat → Int32) (f_q1_isLost : Nat → Int32) (f_q1_handsOf : Nat → Int32) : Option (Int32) := f_X0_settled_L2 v_this_size f_this_paperOf f_q1_isLost f_q1_handsOf  N (0 : Int32)
set_option maxHeartbeats 4000000 in
set_option maxRecDepth 100000 in
theorem c_X0_settled (l : Launch) (dC : Nat → ClassId) (dI : Nat → Nat → Nat) (cI cZ cR cJ : ClassId) (a_this a_q1 a_this_paperOf a_q1_boxOf a_q1_wordOf a_q1_isLost a_q1_wasDrawn a_q1_handsOf a_q1_handWords : Nat) (v_this_size : Int32) (v_this_dice : Int64) (f_this_paperOf : Nat → Int32) (v_q1_size : Int32) (f_q1_isLost : Nat → Int32) (f_q1_handsOf : Nat → Int32) (N : Nat) (r0 : Int32) (hf : f_X0_settled N v_this_size f_this_paperOf f_q1_isLost f_q1_handsOf = some r0) : Met l yX0_settled wsX0_settled ({ frames := 2, cells := 0, slots := 0, locals := 42 } : Room) (va_Pc ([.ref a_this, .ref a_q1] : List Value) (rdB (dC, dI) [(a_this, .inr (0, [.ref a_this_paperOf, .int v_this_size, .long v_this_dice])), (a_this_paperOf, .inl (cI, 2000, .inl f_this_paperOf)), (a_q1, .inr (1, [.ref a_q1_boxOf, .ref a_q1_wordOf, .ref a_q1_isLost, .ref a_q1_wasDrawn, .ref a_q1_handsOf, .ref a_q1_handWords, .int v_q1_size])), (a_q1_isLost, .inl (cZ, 300, .inl f_q1_isLost)), (a_q1_handsOf, .inl (cI, 300, .inl f_q1_handsOf))] (GG dC dI cI cZ cR cJ))) (pqI r0) 0 0 noF := by
  refine Met.ofW (cc := cX0_settled) (maxL := 3) (ret := (some .int)) (by decide) rfl ?_
  intro p e s m args below meth c s₁ B hml hv
  obtain ⟨rfl, hP, hG⟩ := hv
  have hx := B.exec
  have hb := B.bytes
  have hr := B.returns
  have hts := atoms_spec (ws := wsX0_settled) B.pre
  have hown : s.vm.findClass RX0 = some m.cls := findClass_of_methodNamed B.named
  have hlocks := B.notSynchronized
  have hK := hG.1
  have hiX0 : ∀ w ∈ u_ws RX0 TX0 3, w ∈ wsX0_settled := by decide +kernel
  have loop2 : ∀ (n : Nat) (x_2 : Int32) (ls : Array Slot), lv_has ls 3 [(0, .ref a_this), (1, .ref a_q1), (2, .int x_2)] → f_X0_settled_L2 v_this_size f_this_paperOf f_q1_isLost f_q1_handsOf  n x_2 = some r0 → W p l e (headSpec wsX0_settled ({ frames := 2, cells := 0, slots := 0, locals := 42 } : Room)).room s m ([.ref a_this, .ref a_q1] : List Value).toArray below meth c s.heap [] 0 0 (MQ below (pqI r0) ([.ref a_this, .ref a_q1] : List Value).toArray s 0 0 noF) (F0 m 2 ls []) := by
    intro n
    induction n with
    | zero => intro x_2 ls hl hf; rw [f_X0_settled_L2] at hf; cases hf
    | succ n2 ih2 =>
      intro x_2 ls hl hf
      rw [f_X0_settled_L2] at hf
      refine lv_iload_n hx hb dX0_settled_2 rfl (lv_at hl 2 rfl) ?_
      refine lv_aload_n hx hb dX0_settled_3 rfl (lv_at hl 0 rfl) ?_
      refine va_get (D := (dC, dI)) (ci := 0) (v := .int v_this_size) (C := RX0) (T := TX0) (N := 3) hx hb hts hiX0 hown hK hP 0 rfl rfl 1 (by decide) (hts (.fieldLink RX0 15 "SureCount$Draws" "size" "I") (by decide +kernel)) (fun _ h9 => h9) rfl dX0_settled_4 ?_
      refine lv_icmp_ge (tgt := 31) hx hb dX0_settled_7 (by decide) (fun hc => ?_) (fun hc => ?_)
      · replace hf := (if_pos hc).symm.trans hf
        refine lv_aload_n hx hb dX0_settled_31 rfl (lv_at hl 0 rfl) ?_
        refine va_get (D := (dC, dI)) (ci := 0) (v := .int v_this_size) (C := RX0) (T := TX0) (N := 3) hx hb hts hiX0 hown hK hP 0 rfl rfl 1 (by decide) (hts (.fieldLink RX0 15 "SureCount$Draws" "size" "I") (by decide +kernel)) (fun _ h9 => h9) rfl dX0_settled_32 ?_
        cases hf
        exact W.iret hx hb hr (fun t ht hW => ⟨rfl, ht⟩) (fun _ h => nomatch h) dX0_settled_35
      · replace hf := (if_neg hc).symm.trans hf
        refine lv_aload_n hx hb dX0_settled_10 rfl (lv_at hl 1 rfl) ?_
        refine lv_aload_n hx hb dX0_settled_11 rfl (lv_at hl 0 rfl) ?_
        refine va_get (D := (dC, dI)) (ci := 0) (v := .ref a_this_paperOf) (C := RX0) (T := TX0) (N := 3) hx hb hts hiX0 hown hK hP 0 rfl rfl 0 (by decide) (hts (.fieldLink RX0 9 "SureCount$Draws" "paperOf" "[I") (by decide +kernel)) (fun _ h9 => h9) rfl dX0_settled_12 ?_
        refine lv_iload_n hx hb dX0_settled_15 rfl (lv_at hl 2 rfl) ?_
        have hi1 := (gd_some hf).1
        replace hf := (gd_some hf).2
        refine va_iald hx hb hK hP 1 0 rfl rfl hi1 dX0_settled_16 ?_
        obtain ⟨o2, ho2, hf⟩ := Option.bind_eq_some_iff.mp hf
        refine pcI (va_runV (As := [.int (f_this_paperOf x_2.toNatClampNeg)]) (rest := []) ⟨hx, hb, hml, hown, hts⟩ (c_X1_isSettled l dC dI cI cZ cR cJ (a_this := a_q1) (a_this_boxOf := a_q1_boxOf) (a_this_wordOf := a_q1_wordOf) (a_this_isLost := a_q1_isLost) (a_this_wasDrawn := a_q1_wasDrawn) (a_this_handsOf := a_q1_handsOf) (a_this_handWords := a_q1_handWords) (v_this_size := v_q1_size) (f_this_isLost := f_q1_isLost) (f_this_handsOf := f_q1_handsOf) (p_1 := f_this_paperOf x_2.toNatClampNeg) (r0 := o2) (N := N)  ho2) (cwV 1 hts gX0_settled_X1_isSettled rfl rfl rfl (by decide +kernel) ⟨Nat.le_of_ble_eq_true rfl, Nat.le_of_ble_eq_true rfl⟩) ⟨rd_blind, va_recv hK hP (ci := 1) (q0 := 2) rfl rfl, rd_pre (hP.sub [2, 3, 4] rfl) hG⟩ rfl rfl hl.1 rfl (lv_room (Nat.le_of_ble_eq_true rfl)) dX0_settled_17 ⟨Nat.zero_le _, Nat.zero_le _⟩) ?_
        refine lv_if_ne (tgt := 25) hx hb dX0_settled_20 (by decide) (fun hc => ?_) (fun hc => ?_)
        · replace hf := (if_neg hc).symm.trans hf
          refine lv_iinc (v := x_2 + (1 : Int32)) (lv' := [(2, .int (x_2 + (1 : Int32))), (0, .ref a_this), (1, .ref a_q1)]) hx hb dX0_settled_25 hl (k := 2) rfl (by first | rfl | decide) (by decide) rfl (fun ls hl => ?_)
          refine lv_goto (tgt := 2) hx hb dX0_settled_28 (by decide) ?_
          exact ih2 (x_2 + (1 : Int32)) ls (lv_sub hl [1, 2, 0] rfl) hf
        · replace hf := (if_pos hc).symm.trans hf
          refine lv_iload_n hx hb dX0_settled_23 rfl (lv_at hl 2 rfl) ?_
          cases hf
          exact W.iret hx hb hr (fun t ht hW => ⟨rfl, ht⟩) (fun _ h => nomatch h) dX0_settled_24
  refine w_entry [(0, .ref a_this), (1, .ref a_q1)] (Nat.le_of_ble_eq_true rfl) rfl (fun ls hl => ?_)
  rw [f_X0_settled] at hf
  refine lv_iconst (v := (0 : Int32)) hx hb dX0_settled_0 (by decide) ?_
  refine lv_istore_n (lv' := [(2, .int (0 : Int32)), (0, .ref a_this), (1, .ref a_q1)]) hx hb dX0_settled_1 rfl hl (by decide) rfl (fun ls hl => ?_)
  exact loop2 N (0 : Int32) ls (lv_sub hl [1, 2, 0] rfl) hf
