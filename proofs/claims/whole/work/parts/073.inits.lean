set_option maxHeartbeats 4000000 in
set_option maxRecDepth 100000 in
theorem c_X0_init (l : Launch) (dC : Nat → ClassId) (dI : Nat → Nat → Nat) (cI cZ cR cJ : ClassId) (a_this sz : Nat) (A : Addr → Prop) (hA : A = va_A [(a_this, .inr (0, [.null, .int 0, .long 0]))] sz) : Met l yX0_init wsX0_init ({ frames := 1, cells := 1, slots := 2000, locals := 12 } : Room) (va_Pc ([.ref a_this] : List Value) (wrB (dC, dI) sz [(a_this, .inr (0, [.null, .int 0, .long 0]))] (GG dC dI cI cZ cR cJ))) (va_Qv (fun (_ : Unit) => True) (fun _ t => ∃ ad : Nat → Nat, va_P (dC, dI) vwCl [(a_this, .inr (0, [.ref (ad 1), .int (0 : Int32), .long (0 : Int64)])), ((ad 1), .inl (cI, 2000, .inl (fun _ => 0)))] t.heap ∧ va_D A [(a_this, .inr (0, [.ref (ad 1), .int (0 : Int32), .long (0 : Int64)])), ((ad 1), .inl (cI, 2000, .inl (fun _ => 0)))]) A) 1 2000 A := by
  refine Met.ofW (cc := cX0_init) (maxL := 1) (ret := none) (by decide) rfl ?_
  intro p e s m args below meth c s₁ B hml hv
  obtain ⟨rfl, rfl, hP, hG, hD0⟩ := hv
  have hD := hD0.self (sz := s.heap.size)
  rw [← hA] at hD
  have hAz : ∀ q : Nat, s.heap.size ≤ q → A q := fun q h => by rw [hA]; exact Or.inr h
  have hx := B.exec
  have hb := B.bytes
  have hr := B.returns
  have hts := atoms_spec (ws := wsX0_init) B.pre
  have hown : s.vm.findClass RX0 = some m.cls := findClass_of_methodNamed B.named
  have hlocks := B.notSynchronized
  have hin : meth.name = "<init>" := (name_of_methodNamed B.named B.method).1
  have hK := hG.1
  have hiX0 : ∀ w ∈ u_ws RX0 TX0 3, w ∈ wsX0_init := by decide +kernel
  refine w_entry [(0, .ref a_this)] (Nat.le_of_ble_eq_true rfl) rfl (fun ls hl => ?_)
  refine w_start (A := A) hP (fun H locs hP hS => ?_)
  refine lv_aload_n hx hb dX0_init_0 rfl (lv_at hl 0 rfl) ?_
  refine W.objInit hx hb hown (hts (.methodLink RX0 3 objectInit) (by decide +kernel)) (hts (.instanceMethod objectInit) (by decide +kernel)) (hts (.code objectInit ⟨#[0xb1]⟩ 1 none) (by decide +kernel)) rfl (hl.1.trans hml.symm) rfl dX0_init_1 (Nat.le_of_ble_eq_true rfl) (Nat.le_of_ble_eq_true rfl) ?_
  refine W.eq (g2 := F0 m 4 ls []) rfl ?_
  refine lv_aload_n hx hb dX0_init_4 rfl (lv_at hl 0 rfl) ?_
  refine lv_sipush (v := (2000 : Int32)) hx hb dX0_init_5 (by decide) ?_
  refine va_newa (atype := .int) (ty := .int) (N' := 2000) (a0 := (2000, .inl (fun _ => 0))) hx hb (hts (.arrayClass .int) (by decide +kernel)) rfl hK hP hD hS hAz (nc_I 2000) (by decide) (by decide) (by decide) (Nat.le_of_ble_eq_true rfl) (Nat.le_of_ble_eq_true rfl) dX0_init_8 (fun b1 cA H hK2 hP hD hS => ?_)
  rw [kI_eq hK2] at hP hD
  have hP : va_P (dC, dI) vwCl [(a_this, .inr (0, [.null, .int 0, .long 0])), (b1, .inl (cI, 2000, .inl (fun _ => 0)))] H := hP
  have hD : va_D A [(a_this, .inr (0, [.null, .int 0, .long 0])), (b1, .inl (cI, 2000, .inl (fun _ => 0)))] := hD
  refine W.widen (k := 1) (n := 2000) (Nat.le_of_ble_eq_true rfl) (Nat.le_of_ble_eq_true rfl) ?_
  refine va_putF (D := (dC, dI)) (ci := 0) (v := .ref b1) (ty := (.array .int)) (C := RX0) (T := TX0) (N := 3) hx hb hts hiX0 tyX0 tyX0_ok nmX0 hown hK hP hD hS 0 rfl rfl 0 (by decide) (hts (.fieldLink RX0 9 "SureCount$Draws" "paperOf" "[I") (by decide +kernel)) (fun _ h9 => h9) rfl hin rfl (by decide +kernel) rfl rfl (Nat.le_of_ble_eq_true rfl) dX0_init_10 (fun H locs hP hD hS => ?_)
  have hP : va_P (dC, dI) vwCl [(a_this, .inr (0, [.ref b1, .int 0, .long 0])), (b1, .inl (cI, 2000, .inl (fun _ => 0)))] H := hP
  have hD : va_D A [(a_this, .inr (0, [.ref b1, .int 0, .long 0])), (b1, .inl (cI, 2000, .inl (fun _ => 0)))] := hD
  refine lv_aload_n hx hb dX0_init_13 rfl (lv_at hl 0 rfl) ?_
  refine lv_iconst (v := (0 : Int32)) hx hb dX0_init_14 (by decide) ?_
  refine va_put (D := (dC, dI)) (ci := 0) (v := .int (0 : Int32)) (ty := .int) (C := RX0) (T := TX0) (N := 3) hx hb hts hiX0 tyX0 tyX0_ok nmX0 hown hK hP hD hS 0 rfl rfl 1 (by decide) (hts (.fieldLink RX0 15 "SureCount$Draws" "size" "I") (by decide +kernel)) (fun _ h9 => h9) rfl (by decide +kernel) rfl rfl (Nat.le_of_ble_eq_true rfl) dX0_init_15 (fun H locs hP hD hS => ?_)
  have hP : va_P (dC, dI) vwCl [(a_this, .inr (0, [.ref b1, .int (0 : Int32), .long 0])), (b1, .inl (cI, 2000, .inl (fun _ => 0)))] H := hP
  have hD : va_D A [(a_this, .inr (0, [.ref b1, .int (0 : Int32), .long 0])), (b1, .inl (cI, 2000, .inl (fun _ => 0)))] := hD
  refine lv_aload_n hx hb dX0_init_18 rfl (lv_at hl 0 rfl) ?_
  refine lv_lconst (v := (0 : Int64)) hx hb dX0_init_19 (by decide) ?_
  refine va_put (D := (dC, dI)) (ci := 0) (v := .long (0 : Int64)) (ty := .long) (C := RX0) (T := TX0) (N := 3) hx hb hts hiX0 tyX0 tyX0_ok nmX0 hown hK hP hD hS 0 rfl rfl 2 (by decide) (hts (.fieldLink RX0 19 "SureCount$Draws" "dice" "J") (by decide +kernel)) (fun _ h9 => h9) rfl (by decide +kernel) rfl rfl (Nat.le_of_ble_eq_true rfl) dX0_init_20 (fun H locs hP hD hS => ?_)
  have hP : va_P (dC, dI) vwCl [(a_this, .inr (0, [.ref b1, .int (0 : Int32), .long (0 : Int64)])), (b1, .inl (cI, 2000, .inl (fun _ => 0)))] H := hP
  have hD : va_D A [(a_this, .inr (0, [.ref b1, .int (0 : Int32), .long (0 : Int64)])), (b1, .inl (cI, 2000, .inl (fun _ => 0)))] := hD
  exact W.vret hx hb hr (fun t ht hW => ⟨⟨(), rfl, trivial, (fun k => ([a_this, b1] : List Nat).getD k 0), va_Pt ht hP, hD⟩, hS.F ht⟩) hS.2.2 dX0_init_23
set_option maxHeartbeats 4000000 in
set_option maxRecDepth 100000 in
theorem c_X1_init (l : Launch) (dC : Nat → ClassId) (dI : Nat → Nat → Nat) (cI cZ cR cJ : ClassId) (a_this sz : Nat) (A : Addr → Prop) (hA : A = va_A [(a_this, .inr (1, [.null, .null, .null, .null, .null, .null, .int 0]))] sz) : Met l yX1_init wsX1_init ({ frames := 1, cells := 6, slots := 2400, locals := 12 } : Room) (va_Pc ([.ref a_this] : List Value) (wrB (dC, dI) sz [(a_this, .inr (1, [.null, .null, .null, .null, .null, .null, .int 0]))] (GG dC dI cI cZ cR cJ))) (va_Qv (fun (_ : Unit) => True) (fun _ t => ∃ ad : Nat → Nat, va_P (dC, dI) vwCl [(a_this, .inr (1, [.ref (ad 1), .ref (ad 2), .ref (ad 3), .ref (ad 4), .ref (ad 5), .ref (ad 6), .int (0 : Int32)])), ((ad 1), .inl (cI, 300, .inl (fun _ => 0))), ((ad 2), .inl (cI, 300, .inl (fun _ => 0))), ((ad 3), .inl (cZ, 300, .inl (fun _ => 0))), ((ad 4), .inl (cZ, 300, .inl (fun _ => 0))), ((ad 5), .inl (cI, 300, .inl (fun _ => 0))), ((ad 6), .inl (cI, 900, .inl (fun _ => 0)))] t.heap ∧ va_D A [(a_this, .inr (1, [.ref (ad 1), .ref (ad 2), .ref (ad 3), .ref (ad 4), .ref (ad 5), .ref (ad 6), .int (0 : Int32)])), ((ad 1), .inl (cI, 300, .inl (fun _ => 0))), ((ad 2), .inl (cI, 300, .inl (fun _ => 0))), ((ad 3), .inl (cZ, 300, .inl (fun _ => 0))), ((ad 4), .inl (cZ, 300, .inl (fun _ => 0))), ((ad 5), .inl (cI, 300, .inl (fun _ => 0))), ((ad 6), .inl (cI, 900, .inl (fun _ => 0)))]) A) 6 2400 A := by
  refine Met.ofW (cc := cX1_init) (maxL := 1) (ret := none) (by decide) rfl ?_
  intro p e s m args below meth c s₁ B hml hv
  obtain ⟨rfl, rfl, hP, hG, hD0⟩ := hv
  have hD := hD0.self (sz := s.heap.size)
  rw [← hA] at hD
  have hAz : ∀ q : Nat, s.heap.size ≤ q → A q := fun q h => by rw [hA]; exact Or.inr h
  have hx := B.exec
  have hb := B.bytes
  have hr := B.returns
  have hts := atoms_spec (ws := wsX1_init) B.pre
  have hown : s.vm.findClass RX1 = some m.cls := findClass_of_methodNamed B.named
  have hlocks := B.notSynchronized
  have hin : meth.name = "<init>" := (name_of_methodNamed B.named B.method).1
  have hK := hG.1
  have hiX1 : ∀ w ∈ u_ws RX1 TX1 7, w ∈ wsX1_init := by decide +kernel
  refine w_entry [(0, .ref a_this)] (Nat.le_of_ble_eq_true rfl) rfl (fun ls hl => ?_)
  refine w_start (A := A) hP (fun H locs hP hS => ?_)
  refine lv_aload_n hx hb dX1_init_0 rfl (lv_at hl 0 rfl) ?_
  refine W.objInit hx hb hown (hts (.methodLink RX1 3 objectInit) (by decide +kernel)) (hts (.instanceMethod objectInit) (by decide +kernel)) (hts (.code objectInit ⟨#[0xb1]⟩ 1 none) (by decide +kernel)) rfl (hl.1.trans hml.symm) rfl dX1_init_1 (Nat.le_of_ble_eq_true rfl) (Nat.le_of_ble_eq_true rfl) ?_
  refine W.eq (g2 := F0 m 4 ls []) rfl ?_
  refine lv_aload_n hx hb dX1_init_4 rfl (lv_at hl 0 rfl) ?_
  refine lv_sipush (v := (300 : Int32)) hx hb dX1_init_5 (by decide) ?_
  refine va_newa (atype := .int) (ty := .int) (N' := 300) (a0 := (300, .inl (fun _ => 0))) hx hb (hts (.arrayClass .int) (by decide +kernel)) rfl hK hP hD hS hAz (nc_I 300) (by decide) (by decide) (by decide) (Nat.le_of_ble_eq_true rfl) (Nat.le_of_ble_eq_true rfl) dX1_init_8 (fun b1 cA H hK2 hP hD hS => ?_)
  rw [kI_eq hK2] at hP hD
  have hP : va_P (dC, dI) vwCl [(a_this, .inr (1, [.null, .null, .null, .null, .null, .null, .int 0])), (b1, .inl (cI, 300, .inl (fun _ => 0)))] H := hP
  have hD : va_D A [(a_this, .inr (1, [.null, .null, .null, .null, .null, .null, .int 0])), (b1, .inl (cI, 300, .inl (fun _ => 0)))] := hD
  refine W.widen (k := 1) (n := 300) (Nat.le_of_ble_eq_true rfl) (Nat.le_of_ble_eq_true rfl) ?_
  refine va_putF (D := (dC, dI)) (ci := 1) (v := .ref b1) (ty := (.array .int)) (C := RX1) (T := TX1) (N := 7) hx hb hts hiX1 tyX1 tyX1_ok nmX1 hown hK hP hD hS 0 rfl rfl 0 (by decide) (hts (.fieldLink RX1 9 "SureCount$Papers" "boxOf" "[I") (by decide +kernel)) (fun _ h9 => h9) rfl hin rfl (by decide +kernel) rfl rfl (Nat.le_of_ble_eq_true rfl) dX1_init_10 (fun H locs hP hD hS => ?_)
  have hP : va_P (dC, dI) vwCl [(a_this, .inr (1, [.ref b1, .null, .null, .null, .null, .null, .int 0])), (b1, .inl (cI, 300, .inl (fun _ => 0)))] H := hP
  have hD : va_D A [(a_this, .inr (1, [.ref b1, .null, .null, .null, .null, .null, .int 0])), (b1, .inl (cI, 300, .inl (fun _ => 0)))] := hD
  refine lv_aload_n hx hb dX1_init_13 rfl (lv_at hl 0 rfl) ?_
  refine lv_sipush (v := (300 : Int32)) hx hb dX1_init_14 (by decide) ?_
  refine va_newa (atype := .int) (ty := .int) (N' := 300) (a0 := (300, .inl (fun _ => 0))) hx hb (hts (.arrayClass .int) (by decide +kernel)) rfl hK hP hD hS hAz (nc_I 300) (by decide) (by decide) (by decide) (Nat.le_of_ble_eq_true rfl) (Nat.le_of_ble_eq_true rfl) dX1_init_17 (fun b2 cA H hK2 hP hD hS => ?_)
  rw [kI_eq hK2] at hP hD
  have hP : va_P (dC, dI) vwCl [(a_this, .inr (1, [.ref b1, .null, .null, .null, .null, .null, .int 0])), (b1, .inl (cI, 300, .inl (fun _ => 0))), (b2, .inl (cI, 300, .inl (fun _ => 0)))] H := hP
  have hD : va_D A [(a_this, .inr (1, [.ref b1, .null, .null, .null, .null, .null, .int 0])), (b1, .inl (cI, 300, .inl (fun _ => 0))), (b2, .inl (cI, 300, .inl (fun _ => 0)))] := hD
  refine W.widen (k := 2) (n := 600) (Nat.le_of_ble_eq_true rfl) (Nat.le_of_ble_eq_true rfl) ?_
  refine va_putF (D := (dC, dI)) (ci := 1) (v := .ref b2) (ty := (.array .int)) (C := RX1) (T := TX1) (N := 7) hx hb hts hiX1 tyX1 tyX1_ok nmX1 hown hK hP hD hS 0 rfl rfl 1 (by decide) (hts (.fieldLink RX1 15 "SureCount$Papers" "wordOf" "[I") (by decide +kernel)) (fun _ h9 => h9) rfl hin rfl (by decide +kernel) rfl rfl (Nat.le_of_ble_eq_true rfl) dX1_init_19 (fun H locs hP hD hS => ?_)
  have hP : va_P (dC, dI) vwCl [(a_this, .inr (1, [.ref b1, .ref b2, .null, .null, .null, .null, .int 0])), (b1, .inl (cI, 300, .inl (fun _ => 0))), (b2, .inl (cI, 300, .inl (fun _ => 0)))] H := hP
  have hD : va_D A [(a_this, .inr (1, [.ref b1, .ref b2, .null, .null, .null, .null, .int 0])), (b1, .inl (cI, 300, .inl (fun _ => 0))), (b2, .inl (cI, 300, .inl (fun _ => 0)))] := hD
  refine lv_aload_n hx hb dX1_init_22 rfl (lv_at hl 0 rfl) ?_
  refine lv_sipush (v := (300 : Int32)) hx hb dX1_init_23 (by decide) ?_
  refine va_newa (atype := .boolean) (ty := .boolean) (N' := 300) (a0 := (300, .inl (fun _ => 0))) hx hb (hts (.arrayClass .boolean) (by decide +kernel)) rfl hK hP hD hS hAz (nc_Z 300) (by decide) (by decide) (by decide) (Nat.le_of_ble_eq_true rfl) (Nat.le_of_ble_eq_true rfl) dX1_init_26 (fun b3 cA H hK2 hP hD hS => ?_)
  rw [kZ_eq hK2] at hP hD
  have hP : va_P (dC, dI) vwCl [(a_this, .inr (1, [.ref b1, .ref b2, .null, .null, .null, .null, .int 0])), (b1, .inl (cI, 300, .inl (fun _ => 0))), (b2, .inl (cI, 300, .inl (fun _ => 0))), (b3, .inl (cZ, 300, .inl (fun _ => 0)))] H := hP
  have hD : va_D A [(a_this, .inr (1, [.ref b1, .ref b2, .null, .null, .null, .null, .int 0])), (b1, .inl (cI, 300, .inl (fun _ => 0))), (b2, .inl (cI, 300, .inl (fun _ => 0))), (b3, .inl (cZ, 300, .inl (fun _ => 0)))] := hD
  refine W.widen (k := 3) (n := 900) (Nat.le_of_ble_eq_true rfl) (Nat.le_of_ble_eq_true rfl) ?_
  refine va_putF (D := (dC, dI)) (ci := 1) (v := .ref b3) (ty := (.array .boolean)) (C := RX1) (T := TX1) (N := 7) hx hb hts hiX1 tyX1 tyX1_ok nmX1 hown hK hP hD hS 0 rfl rfl 2 (by decide) (hts (.fieldLink RX1 18 "SureCount$Papers" "isLost" "[Z") (by decide +kernel)) (fun _ h9 => h9) rfl hin rfl (by decide +kernel) rfl rfl (Nat.le_of_ble_eq_true rfl) dX1_init_28 (fun H locs hP hD hS => ?_)
  have hP : va_P (dC, dI) vwCl [(a_this, .inr (1, [.ref b1, .ref b2, .ref b3, .null, .null, .null, .int 0])), (b1, .inl (cI, 300, .inl (fun _ => 0))), (b2, .inl (cI, 300, .inl (fun _ => 0))), (b3, .inl (cZ, 300, .inl (fun _ => 0)))] H := hP
  have hD : va_D A [(a_this, .inr (1, [.ref b1, .ref b2, .ref b3, .null, .null, .null, .int 0])), (b1, .inl (cI, 300, .inl (fun _ => 0))), (b2, .inl (cI, 300, .inl (fun _ => 0))), (b3, .inl (cZ, 300, .inl (fun _ => 0)))] := hD
  refine lv_aload_n hx hb dX1_init_31 rfl (lv_at hl 0 rfl) ?_
  refine lv_sipush (v := (300 : Int32)) hx hb dX1_init_32 (by decide) ?_
  refine va_newa (atype := .boolean) (ty := .boolean) (N' := 300) (a0 := (300, .inl (fun _ => 0))) hx hb (hts (.arrayClass .boolean) (by decide +kernel)) rfl hK hP hD hS hAz (nc_Z 300) (by decide) (by decide) (by decide) (Nat.le_of_ble_eq_true rfl) (Nat.le_of_ble_eq_true rfl) dX1_init_35 (fun b4 cA H hK2 hP hD hS => ?_)
  rw [kZ_eq hK2] at hP hD
  have hP : va_P (dC, dI) vwCl [(a_this, .inr (1, [.ref b1, .ref b2, .ref b3, .null, .null, .null, .int 0])), (b1, .inl (cI, 300, .inl (fun _ => 0))), (b2, .inl (cI, 300, .inl (fun _ => 0))), (b3, .inl (cZ, 300, .inl (fun _ => 0))), (b4, .inl (cZ, 300, .inl (fun _ => 0)))] H := hP
  have hD : va_D A [(a_this, .inr (1, [.ref b1, .ref b2, .ref b3, .null, .null, .null, .int 0])), (b1, .inl (cI, 300, .inl (fun _ => 0))), (b2, .inl (cI, 300, .inl (fun _ => 0))), (b3, .inl (cZ, 300, .inl (fun _ => 0))), (b4, .inl (cZ, 300, .inl (fun _ => 0)))] := hD
  refine W.widen (k := 4) (n := 1200) (Nat.le_of_ble_eq_true rfl) (Nat.le_of_ble_eq_true rfl) ?_
  refine va_putF (D := (dC, dI)) (ci := 1) (v := .ref b4) (ty := (.array .boolean)) (C := RX1) (T := TX1) (N := 7) hx hb hts hiX1 tyX1 tyX1_ok nmX1 hown hK hP hD hS 0 rfl rfl 3 (by decide) (hts (.fieldLink RX1 22 "SureCount$Papers" "wasDrawn" "[Z") (by decide +kernel)) (fun _ h9 => h9) rfl hin rfl (by decide +kernel) rfl rfl (Nat.le_of_ble_eq_true rfl) dX1_init_37 (fun H locs hP hD hS => ?_)
  have hP : va_P (dC, dI) vwCl [(a_this, .inr (1, [.ref b1, .ref b2, .ref b3, .ref b4, .null, .null, .int 0])), (b1, .inl (cI, 300, .inl (fun _ => 0))), (b2, .inl (cI, 300, .inl (fun _ => 0))), (b3, .inl (cZ, 300, .inl (fun _ => 0))), (b4, .inl (cZ, 300, .inl (fun _ => 0)))] H := hP
  have hD : va_D A [(a_this, .inr (1, [.ref b1, .ref b2, .ref b3, .ref b4, .null, .null, .int 0])), (b1, .inl (cI, 300, .inl (fun _ => 0))), (b2, .inl (cI, 300, .inl (fun _ => 0))), (b3, .inl (cZ, 300, .inl (fun _ => 0))), (b4, .inl (cZ, 300, .inl (fun _ => 0)))] := hD
  refine lv_aload_n hx hb dX1_init_40 rfl (lv_at hl 0 rfl) ?_
  refine lv_sipush (v := (300 : Int32)) hx hb dX1_init_41 (by decide) ?_
  refine va_newa (atype := .int) (ty := .int) (N' := 300) (a0 := (300, .inl (fun _ => 0))) hx hb (hts (.arrayClass .int) (by decide +kernel)) rfl hK hP hD hS hAz (nc_I 300) (by decide) (by decide) (by decide) (Nat.le_of_ble_eq_true rfl) (Nat.le_of_ble_eq_true rfl) dX1_init_44 (fun b5 cA H hK2 hP hD hS => ?_)
  rw [kI_eq hK2] at hP hD
  have hP : va_P (dC, dI) vwCl [(a_this, .inr (1, [.ref b1, .ref b2, .ref b3, .ref b4, .null, .null, .int 0])), (b1, .inl (cI, 300, .inl (fun _ => 0))), (b2, .inl (cI, 300, .inl (fun _ => 0))), (b3, .inl (cZ, 300, .inl (fun _ => 0))), (b4, .inl (cZ, 300, .inl (fun _ => 0))), (b5, .inl (cI, 300, .inl (fun _ => 0)))] H := hP
  have hD : va_D A [(a_this, .inr (1, [.ref b1, .ref b2, .ref b3, .ref b4, .null, .null, .int 0])), (b1, .inl (cI, 300, .inl (fun _ => 0))), (b2, .inl (cI, 300, .inl (fun _ => 0))), (b3, .inl (cZ, 300, .inl (fun _ => 0))), (b4, .inl (cZ, 300, .inl (fun _ => 0))), (b5, .inl (cI, 300, .inl (fun _ => 0)))] := hD
  refine W.widen (k := 5) (n := 1500) (Nat.le_of_ble_eq_true rfl) (Nat.le_of_ble_eq_true rfl) ?_
  refine va_putF (D := (dC, dI)) (ci := 1) (v := .ref b5) (ty := (.array .int)) (C := RX1) (T := TX1) (N := 7) hx hb hts hiX1 tyX1 tyX1_ok nmX1 hown hK hP hD hS 0 rfl rfl 4 (by decide) (hts (.fieldLink RX1 25 "SureCount$Papers" "handsOf" "[I") (by decide +kernel)) (fun _ h9 => h9) rfl hin rfl (by decide +kernel) rfl rfl (Nat.le_of_ble_eq_true rfl) dX1_init_46 (fun H locs hP hD hS => ?_)
  have hP : va_P (dC, dI) vwCl [(a_this, .inr (1, [.ref b1, .ref b2, .ref b3, .ref b4, .ref b5, .null, .int 0])), (b1, .inl (cI, 300, .inl (fun _ => 0))), (b2, .inl (cI, 300, .inl (fun _ => 0))), (b3, .inl (cZ, 300, .inl (fun _ => 0))), (b4, .inl (cZ, 300, .inl (fun _ => 0))), (b5, .inl (cI, 300, .inl (fun _ => 0)))] H := hP
  have hD : va_D A [(a_this, .inr (1, [.ref b1, .ref b2, .ref b3, .ref b4, .ref b5, .null, .int 0])), (b1, .inl (cI, 300, .inl (fun _ => 0))), (b2, .inl (cI, 300, .inl (fun _ => 0))), (b3, .inl (cZ, 300, .inl (fun _ => 0))), (b4, .inl (cZ, 300, .inl (fun _ => 0))), (b5, .inl (cI, 300, .inl (fun _ => 0)))] := hD
  refine lv_aload_n hx hb dX1_init_49 rfl (lv_at hl 0 rfl) ?_
  refine lv_sipush (v := (900 : Int32)) hx hb dX1_init_50 (by decide) ?_
  refine va_newa (atype := .int) (ty := .int) (N' := 900) (a0 := (900, .inl (fun _ => 0))) hx hb (hts (.arrayClass .int) (by decide +kernel)) rfl hK hP hD hS hAz (nc_I 900) (by decide) (by decide) (by decide) (Nat.le_of_ble_eq_true rfl) (Nat.le_of_ble_eq_true rfl) dX1_init_53 (fun b6 cA H hK2 hP hD hS => ?_)
  rw [kI_eq hK2] at hP hD
  have hP : va_P (dC, dI) vwCl [(a_this, .inr (1, [.ref b1, .ref b2, .ref b3, .ref b4, .ref b5, .null, .int 0])), (b1, .inl (cI, 300, .inl (fun _ => 0))), (b2, .inl (cI, 300, .inl (fun _ => 0))), (b3, .inl (cZ, 300, .inl (fun _ => 0))), (b4, .inl (cZ, 300, .inl (fun _ => 0))), (b5, .inl (cI, 300, .inl (fun _ => 0))), (b6, .inl (cI, 900, .inl (fun _ => 0)))] H := hP
  have hD : va_D A [(a_this, .inr (1, [.ref b1, .ref b2, .ref b3, .ref b4, .ref b5, .null, .int 0])), (b1, .inl (cI, 300, .inl (fun _ => 0))), (b2, .inl (cI, 300, .inl (fun _ => 0))), (b3, .inl (cZ, 300, .inl (fun _ => 0))), (b4, .inl (cZ, 300, .inl (fun _ => 0))), (b5, .inl (cI, 300, .inl (fun _ => 0))), (b6, .inl (cI, 900, .inl (fun _ => 0)))] := hD
  refine W.widen (k := 6) (n := 2400) (Nat.le_of_ble_eq_true rfl) (Nat.le_of_ble_eq_true rfl) ?_
  refine va_putF (D := (dC, dI)) (ci := 1) (v := .ref b6) (ty := (.array .int)) (C := RX1) (T := TX1) (N := 7) hx hb hts hiX1 tyX1 tyX1_ok nmX1 hown hK hP hD hS 0 rfl rfl 5 (by decide) (hts (.fieldLink RX1 28 "SureCount$Papers" "handWords" "[I") (by decide +kernel)) (fun _ h9 => h9) rfl hin rfl (by decide +kernel) rfl rfl (Nat.le_of_ble_eq_true rfl) dX1_init_55 (fun H locs hP hD hS => ?_)
  have hP : va_P (dC, dI) vwCl [(a_this, .inr (1, [.ref b1, .ref b2, .ref b3, .ref b4, .ref b5, .ref b6, .int 0])), (b1, .inl (cI, 300, .inl (fun _ => 0))), (b2, .inl (cI, 300, .inl (fun _ => 0))), (b3, .inl (cZ, 300, .inl (fun _ => 0))), (b4, .inl (cZ, 300, .inl (fun _ => 0))), (b5, .inl (cI, 300, .inl (fun _ => 0))), (b6, .inl (cI, 900, .inl (fun _ => 0)))] H := hP
  have hD : va_D A [(a_this, .inr (1, [.ref b1, .ref b2, .ref b3, .ref b4, .ref b5, .ref b6, .int 0])), (b1, .inl (cI, 300, .inl (fun _ => 0))), (b2, .inl (cI, 300, .inl (fun _ => 0))), (b3, .inl (cZ, 300, .inl (fun _ => 0))), (b4, .inl (cZ, 300, .inl (fun _ => 0))), (b5, .inl (cI, 300, .inl (fun _ => 0))), (b6, .inl (cI, 900, .inl (fun _ => 0)))] := hD
  refine lv_aload_n hx hb dX1_init_58 rfl (lv_at hl 0 rfl) ?_
  refine lv_iconst (v := (0 : Int32)) hx hb dX1_init_59 (by decide) ?_
  refine va_put (D := (dC, dI)) (ci := 1) (v := .int (0 : Int32)) (ty := .int) (C := RX1) (T := TX1) (N := 7) hx hb hts hiX1 tyX1 tyX1_ok nmX1 hown hK hP hD hS 0 rfl rfl 6 (by decide) (hts (.fieldLink RX1 31 "SureCount$Papers" "size" "I") (by decide +kernel)) (fun _ h9 => h9) rfl (by decide +kernel) rfl rfl (Nat.le_of_ble_eq_true rfl) dX1_init_60 (fun H locs hP hD hS => ?_)
  have hP : va_P (dC, dI) vwCl [(a_this, .inr (1, [.ref b1, .ref b2, .ref b3, .ref b4, .ref b5, .ref b6, .int (0 : Int32)])), (b1, .inl (cI, 300, .inl (fun _ => 0))), (b2, .inl (cI, 300, .inl (fun _ => 0))), (b3, .inl (cZ, 300, .inl (fun _ => 0))), (b4, .inl (cZ, 300, .inl (fun _ => 0))), (b5, .inl (cI, 300, .inl (fun _ => 0))), (b6, .inl (cI, 900, .inl (fun _ => 0)))] H := hP
  have hD : va_D A [(a_this, .inr (1, [.ref b1, .ref b2, .ref b3, .ref b4, .ref b5, .ref b6, .int (0 : Int32)])), (b1, .inl (cI, 300, .inl (fun _ => 0))), (b2, .inl (cI, 300, .inl (fun _ => 0))), (b3, .inl (cZ, 300, .inl (fun _ => 0))), (b4, .inl (cZ, 300, .inl (fun _ => 0))), (b5, .inl (cI, 300, .inl (fun _ => 0))), (b6, .inl (cI, 900, .inl (fun _ => 0)))] := hD
  exact W.vret hx hb hr (fun t ht hW => ⟨⟨(), rfl, trivial, (fun k => ([a_this, b1, b2, b3, b4, b5, b6] : List Nat).getD k 0), va_Pt ht hP, hD⟩, hS.F ht⟩) hS.2.2 dX1_init_63
set_option maxHeartbeats 4000000 in
set_option maxRecDepth 100000 in
theorem c_X3_init (l : Launch) (dC : Nat → ClassId) (dI : Nat → Nat → Nat) (cI cZ cR cJ : ClassId) (a_this sz : Nat) (A : Addr → Prop) (hA : A = va_A [(a_this, .inr (3, [.null]))] sz) : Met l yX3_init wsX3_init ({ frames := 1, cells := 1, slots := 8, locals := 12 } : Room) (va_Pc ([.ref a_this] : List Value) (wrB (dC, dI) sz [(a_this, .inr (3, [.null]))] (GG dC dI cI cZ cR cJ))) (va_Qv (fun (_ : Unit) => True) (fun _ t => ∃ ad : Nat → Nat, va_P (dC, dI) vwCl [(a_this, .inr (3, [.ref (ad 1)])), ((ad 1), .inl (cI, 8, .inl (fun _ => 0)))] t.heap ∧ va_D A [(a_this, .inr (3, [.ref (ad 1)])), ((ad 1), .inl (cI, 8, .inl (fun _ => 0)))]) A) 1 8 A := by
  refine Met.ofW (cc := cX3_init) (maxL := 1) (ret := none) (by decide) rfl ?_
  intro p e s m args below meth c s₁ B hml hv
  obtain ⟨rfl, rfl, hP, hG, hD0⟩ := hv
  have hD := hD0.self (sz := s.heap.size)
  rw [← hA] at hD
  have hAz : ∀ q : Nat, s.heap.size ≤ q → A q := fun q h => by rw [hA]; exact Or.inr h
  have hx := B.exec
  have hb := B.bytes
  have hr := B.returns
  have hts := atoms_spec (ws := wsX3_init) B.pre
  have hown : s.vm.findClass RX3 = some m.cls := findClass_of_methodNamed B.named
  have hlocks := B.notSynchronized
  have hin : meth.name = "<init>" := (name_of_methodNamed B.named B.method).1
  have hK := hG.1
  have hiX3 : ∀ w ∈ u_ws RX3 TX3 1, w ∈ wsX3_init := by decide +kernel
  refine w_entry [(0, .ref a_this)] (Nat.le_of_ble_eq_true rfl) rfl (fun ls hl => ?_)
  refine w_start (A := A) hP (fun H locs hP hS => ?_)
  refine lv_aload_n hx hb dX3_init_0 rfl (lv_at hl 0 rfl) ?_
  refine W.objInit hx hb hown (hts (.methodLink RX3 3 objectInit) (by decide +kernel)) (hts (.instanceMethod objectInit) (by decide +kernel)) (hts (.code objectInit ⟨#[0xb1]⟩ 1 none) (by decide +kernel)) rfl (hl.1.trans hml.symm) rfl dX3_init_1 (Nat.le_of_ble_eq_true rfl) (Nat.le_of_ble_eq_true rfl) ?_
  refine W.eq (g2 := F0 m 4 ls []) rfl ?_
  refine lv_aload_n hx hb dX3_init_4 rfl (lv_at hl 0 rfl) ?_
  refine lv_bipush (v := (8 : Int32)) hx hb dX3_init_5 (by decide) ?_
  refine va_newa (atype := .int) (ty := .int) (N' := 8) (a0 := (8, .inl (fun _ => 0))) hx hb (hts (.arrayClass .int) (by decide +kernel)) rfl hK hP hD hS hAz (nc_I 8) (by decide) (by decide) (by decide) (Nat.le_of_ble_eq_true rfl) (Nat.le_of_ble_eq_true rfl) dX3_init_7 (fun b1 cA H hK2 hP hD hS => ?_)
  rw [kI_eq hK2] at hP hD
  have hP : va_P (dC, dI) vwCl [(a_this, .inr (3, [.null])), (b1, .inl (cI, 8, .inl (fun _ => 0)))] H := hP
  have hD : va_D A [(a_this, .inr (3, [.null])), (b1, .inl (cI, 8, .inl (fun _ => 0)))] := hD
  refine W.widen (k := 1) (n := 8) (Nat.le_of_ble_eq_true rfl) (Nat.le_of_ble_eq_true rfl) ?_
  refine va_putF (D := (dC, dI)) (ci := 3) (v := .ref b1) (ty := (.array .int)) (C := RX3) (T := TX3) (N := 1) hx hb hts hiX3 tyX3 tyX3_ok nmX3 hown hK hP hD hS 0 rfl rfl 0 (by decide) (hts (.fieldLink RX3 9 "SureCount$Tally" "papersOf" "[I") (by decide +kernel)) (fun _ h9 => h9) rfl hin rfl (by decide +kernel) rfl rfl (Nat.le_of_ble_eq_true rfl) dX3_init_9 (fun H locs hP hD hS => ?_)
  have hP : va_P (dC, dI) vwCl [(a_this, .inr (3, [.ref b1])), (b1, .inl (cI, 8, .inl (fun _ => 0)))] H := hP
  have hD : va_D A [(a_this, .inr (3, [.ref b1])), (b1, .inl (cI, 8, .inl (fun _ => 0)))] := hD
  exact W.vret hx hb hr (fun t ht hW => ⟨⟨(), rfl, trivial, (fun k => ([a_this, b1] : List Nat).getD k 0), va_Pt ht hP, hD⟩, hS.F ht⟩) hS.2.2 dX3_init_12
set_option maxHeartbeats 4000000 in
set_option maxRecDepth 100000 in
theorem c_X2_init (l : Launch) (dC : Nat → ClassId) (dI : Nat → Nat → Nat) (cI cZ cR cJ : ClassId) (a_this sz : Nat) (A : Addr → Prop) (hA : A = va_A [(a_this, .inr (2, [.null, .null, .null, .null, .null, .int 0, .int 0, .int 0, .int 0, .int 0]))] sz) : Met l yX2_init wsX2_init ({ frames := 2, cells := 6, slots := 44, locals := 32 } : Room) (va_Pc ([.ref a_this] : List Value) (wrB (dC, dI) sz [(a_this, .inr (2, [.null, .null, .null, .null, .null, .int 0, .int 0, .int 0, .int 0, .int 0]))] (GG dC dI cI cZ cR cJ))) (va_Qv (fun (_ : Unit) => True) (fun _ t => ∃ ad : Nat → Nat, va_P (dC, dI) vwCl [(a_this, .inr (2, [.ref (ad 1), .ref (ad 3), .ref (ad 4), .ref (ad 5), .ref (ad 6), .int (0 : Int32), .int (0 : Int32), .int (0 : Int32), .int (0 : Int32), .int (0 : Int32)])), ((ad 1), .inr (3, [.ref (ad 2)])), ((ad 2), .inl (cI, 8, .inl (fun _ => 0))), ((ad 3), .inl (cZ, 8, .inl (fun _ => 0))), ((ad 4), .inl (cI, 9, .inl (fun _ => 0))), ((ad 5), .inl (cI, 9, .inl (fun _ => 0))), ((ad 6), .inl (cI, 9, .inl (fun _ => 0)))] t.heap ∧ va_D A [(a_this, .inr (2, [.ref (ad 1), .ref (ad 3), .ref (ad 4), .ref (ad 5), .ref (ad 6), .int (0 : Int32), .int (0 : Int32), .int (0 : Int32), .int (0 : Int32), .int (0 : Int32)])), ((ad 1), .inr (3, [.ref (ad 2)])), ((ad 2), .inl (cI, 8, .inl (fun _ => 0))), ((ad 3), .inl (cZ, 8, .inl (fun _ => 0))), ((ad 4), .inl (cI, 9, .inl (fun _ => 0))), ((ad 5), .inl (cI, 9, .inl (fun _ => 0))), ((ad 6), .inl (cI, 9, .inl (fun _ => 0)))]) A) 6 44 A := by
  refine Met.ofW (cc := cX2_init) (maxL := 1) (ret := none) (by decide) rfl ?_
  intro p e s m args below meth c s₁ B hml hv
  obtain ⟨rfl, rfl, hP, hG, hD0⟩ := hv
  have hD := hD0.self (sz := s.heap.size)
  rw [← hA] at hD
  have hAz : ∀ q : Nat, s.heap.size ≤ q → A q := fun q h => by rw [hA]; exact Or.inr h
  have hx := B.exec
  have hb := B.bytes
  have hr := B.returns
  have hts := atoms_spec (ws := wsX2_init) B.pre
  have hown : s.vm.findClass RX2 = some m.cls := findClass_of_methodNamed B.named
  have hlocks := B.notSynchronized
  have hin : meth.name = "<init>" := (name_of_methodNamed B.named B.method).1
  have hK := hG.1
  have hiX2 : ∀ w ∈ u_ws RX2 TX2 10, w ∈ wsX2_init := by decide +kernel
  have hiX3 : ∀ w ∈ u_ws RX3 TX3 1, w ∈ wsX2_init := by decide +kernel
  refine w_entry [(0, .ref a_this)] (Nat.le_of_ble_eq_true rfl) rfl (fun ls hl => ?_)
  refine w_start (A := A) hP (fun H locs hP hS => ?_)
  refine lv_aload_n hx hb dX2_init_0 rfl (lv_at hl 0 rfl) ?_
  refine W.objInit hx hb hown (hts (.methodLink RX2 3 objectInit) (by decide +kernel)) (hts (.instanceMethod objectInit) (by decide +kernel)) (hts (.code objectInit ⟨#[0xb1]⟩ 1 none) (by decide +kernel)) rfl (hl.1.trans hml.symm) rfl dX2_init_1 (Nat.le_of_ble_eq_true rfl) (Nat.le_of_ble_eq_true rfl) ?_
  refine W.eq (g2 := F0 m 4 ls []) rfl ?_
  refine lv_aload_n hx hb dX2_init_4 rfl (lv_at hl 0 rfl) ?_
  refine va_new (ci := 3) (fs := [.null]) (C := RX3) (T := TX3) (N := 1) hx hb hts hiX3 tyX3 tyX3_ok hown (hts (.classLink RX2 9 RX3) (by decide +kernel)) (hts (.instantiable RX3 1) (by decide +kernel)) (hts (.initialized RX3) (by decide +kernel)) hK hP hD hS hAz rfl (fun j hj => by rcases (show j = 0 by omega) with rfl <;> rfl) (Nat.le_of_ble_eq_true rfl) (Nat.le_of_ble_eq_true rfl) dX2_init_5 (fun b1 H hP hD hS => ?_)
  have hP : va_P (dC, dI) vwCl [(a_this, .inr (2, [.null, .null, .null, .null, .null, .int 0, .int 0, .int 0, .int 0, .int 0])), (b1, .inr (3, [.null]))] H := hP
  have hD : va_D A [(a_this, .inr (2, [.null, .null, .null, .null, .null, .int 0, .int 0, .int 0, .int 0, .int 0])), (b1, .inr (3, [.null]))] := hD
  refine W.widen (k := 1) (n := 1) (Nat.le_of_ble_eq_true rfl) (Nat.le_of_ble_eq_true rfl) ?_
  refine lv_dup hx hb dX2_init_8 rfl ?_
  have hFc := va_free (wc := [(b1, .inr (3, [.null]))]) hD hS hAz [1] rfl
  refine va_callv (va_runIN (As := []) (rest := [.ref b1, .ref a_this]) ⟨hx, hb, hml, hown, hts⟩ (c_X3_init l dC dI cI cZ cR cJ b1 H.size (va_A [(b1, .inr (3, [.null]))] H.size) rfl) ⟨va_cnB 0 hts gX2_init_X3_init_n11 rfl rfl rfl (hG.2.2.1 (RX2, 11, yX3_init, "SureCount") (List.mem_of_getElem? (i := 1) rfl)) (hts (.initialized RX3) (by decide +kernel)) (by decide +kernel) ⟨Nat.le_of_ble_eq_true rfl, Nat.le_of_ble_eq_true rfl⟩, rfl, hts (.instanceMethod yX3_init) (by decide +kernel)⟩ ⟨wr_blind, wr_pre (hP.sub [1] rfl) hG (hD.sub [1] (by decide) rfl)⟩ rfl rfl hl.1 rfl (lv_room (Nat.le_of_ble_eq_true rfl)) dX2_init_9 ⟨Nat.le_of_ble_eq_true rfl, Nat.le_of_ble_eq_true rfl⟩) hS (fun q _ h => hFc q h) hFc (fun u9 t9 H1 locs ht9 hv9 hw9 hB9 hz9 hk9 hS => ?_)
  obtain ⟨ad2, hP1, hD1⟩ := hB9
  rw [ht9] at hP1
  obtain ⟨hP, hD⟩ := va_join (wr := [(a_this, .inr (2, [.null, .null, .null, .null, .null, .int 0, .int 0, .int 0, .int 0, .int 0]))]) (w1 := [(b1, .inr (3, [.ref (ad2 1)])), ((ad2 1), .inl (cI, 8, .inl (fun _ => 0)))]) hP hD [1] [0] rfl rfl (by decide) (by decide) hk9 hFc hP1 hD1
  generalize H1 = H at hP hS ⊢
  have hP : va_P (dC, dI) vwCl [(a_this, .inr (2, [.null, .null, .null, .null, .null, .int 0, .int 0, .int 0, .int 0, .int 0])), (b1, .inr (3, [.ref (ad2 1)])), ((ad2 1), .inl (cI, 8, .inl (fun _ => 0)))] H := hP
  have hD : va_D A [(a_this, .inr (2, [.null, .null, .null, .null, .null, .int 0, .int 0, .int 0, .int 0, .int 0])), (b1, .inr (3, [.ref (ad2 1)])), ((ad2 1), .inl (cI, 8, .inl (fun _ => 0)))] := hD
  refine W.widen (k := 2) (n := 9) (Nat.le_of_ble_eq_true rfl) (Nat.le_of_ble_eq_true rfl) ?_
  refine va_putF (D := (dC, dI)) (ci := 2) (v := .ref b1) (ty := (.object "SureCount$Tally")) (C := RX2) (T := TX2) (N := 10) hx hb hts hiX2 tyX2 tyX2_ok nmX2 hown hK hP hD hS 0 rfl rfl 0 (by decide) (hts (.fieldLink RX2 12 "SureCount$Race" "wordTally" "LSureCount$Tally;") (by decide +kernel)) (fun _ h9 => h9) rfl hin rfl (by decide +kernel) rfl rfl (Nat.le_of_ble_eq_true rfl) dX2_init_12 (fun H locs hP hD hS => ?_)
  have hP : va_P (dC, dI) vwCl [(a_this, .inr (2, [.ref b1, .null, .null, .null, .null, .int 0, .int 0, .int 0, .int 0, .int 0])), (b1, .inr (3, [.ref (ad2 1)])), ((ad2 1), .inl (cI, 8, .inl (fun _ => 0)))] H := hP
  have hD : va_D A [(a_this, .inr (2, [.ref b1, .null, .null, .null, .null, .int 0, .int 0, .int 0, .int 0, .int 0])), (b1, .inr (3, [.ref (ad2 1)])), ((ad2 1), .inl (cI, 8, .inl (fun _ => 0)))] := hD
  refine lv_aload_n hx hb dX2_init_15 rfl (lv_at hl 0 rfl) ?_
  refine lv_bipush (v := (8 : Int32)) hx hb dX2_init_16 (by decide) ?_
  refine va_newa (atype := .boolean) (ty := .boolean) (N' := 8) (a0 := (8, .inl (fun _ => 0))) hx hb (hts (.arrayClass .boolean) (by decide +kernel)) rfl hK hP hD hS hAz (nc_Z 8) (by decide) (by decide) (by decide) (Nat.le_of_ble_eq_true rfl) (Nat.le_of_ble_eq_true rfl) dX2_init_18 (fun b3 cA H hK2 hP hD hS => ?_)
  rw [kZ_eq hK2] at hP hD
  have hP : va_P (dC, dI) vwCl [(a_this, .inr (2, [.ref b1, .null, .null, .null, .null, .int 0, .int 0, .int 0, .int 0, .int 0])), (b1, .inr (3, [.ref (ad2 1)])), ((ad2 1), .inl (cI, 8, .inl (fun _ => 0))), (b3, .inl (cZ, 8, .inl (fun _ => 0)))] H := hP
  have hD : va_D A [(a_this, .inr (2, [.ref b1, .null, .null, .null, .null, .int 0, .int 0, .int 0, .int 0, .int 0])), (b1, .inr (3, [.ref (ad2 1)])), ((ad2 1), .inl (cI, 8, .inl (fun _ => 0))), (b3, .inl (cZ, 8, .inl (fun _ => 0)))] := hD
  refine W.widen (k := 3) (n := 17) (Nat.le_of_ble_eq_true rfl) (Nat.le_of_ble_eq_true rfl) ?_
  refine va_putF (D := (dC, dI)) (ci := 2) (v := .ref b3) (ty := (.array .boolean)) (C := RX2) (T := TX2) (N := 10) hx hb hts hiX2 tyX2 tyX2_ok nmX2 hown hK hP hD hS 0 rfl rfl 1 (by decide) (hts (.fieldLink RX2 18 "SureCount$Race" "winsByWord" "[Z") (by decide +kernel)) (fun _ h9 => h9) rfl hin rfl (by decide +kernel) rfl rfl (Nat.le_of_ble_eq_true rfl) dX2_init_20 (fun H locs hP hD hS => ?_)
  have hP : va_P (dC, dI) vwCl [(a_this, .inr (2, [.ref b1, .ref b3, .null, .null, .null, .int 0, .int 0, .int 0, .int 0, .int 0])), (b1, .inr (3, [.ref (ad2 1)])), ((ad2 1), .inl (cI, 8, .inl (fun _ => 0))), (b3, .inl (cZ, 8, .inl (fun _ => 0)))] H := hP
  have hD : va_D A [(a_this, .inr (2, [.ref b1, .ref b3, .null, .null, .null, .int 0, .int 0, .int 0, .int 0, .int 0])), (b1, .inr (3, [.ref (ad2 1)])), ((ad2 1), .inl (cI, 8, .inl (fun _ => 0))), (b3, .inl (cZ, 8, .inl (fun _ => 0)))] := hD
  refine lv_aload_n hx hb dX2_init_23 rfl (lv_at hl 0 rfl) ?_
  refine lv_bipush (v := (9 : Int32)) hx hb dX2_init_24 (by decide) ?_
  refine va_newa (atype := .int) (ty := .int) (N' := 9) (a0 := (9, .inl (fun _ => 0))) hx hb (hts (.arrayClass .int) (by decide +kernel)) rfl hK hP hD hS hAz (nc_I 9) (by decide) (by decide) (by decide) (Nat.le_of_ble_eq_true rfl) (Nat.le_of_ble_eq_true rfl) dX2_init_26 (fun b4 cA H hK2 hP hD hS => ?_)
  rw [kI_eq hK2] at hP hD
  have hP : va_P (dC, dI) vwCl [(a_this, .inr (2, [.ref b1, .ref b3, .null, .null, .null, .int 0, .int 0, .int 0, .int 0, .int 0])), (b1, .inr (3, [.ref (ad2 1)])), ((ad2 1), .inl (cI, 8, .inl (fun _ => 0))), (b3, .inl (cZ, 8, .inl (fun _ => 0))), (b4, .inl (cI, 9, .inl (fun _ => 0)))] H := hP
  have hD : va_D A [(a_this, .inr (2, [.ref b1, .ref b3, .null, .null, .null, .int 0, .int 0, .int 0, .int 0, .int 0])), (b1, .inr (3, [.ref (ad2 1)])), ((ad2 1), .inl (cI, 8, .inl (fun _ => 0))), (b3, .inl (cZ, 8, .inl (fun _ => 0))), (b4, .inl (cI, 9, .inl (fun _ => 0)))] := hD
  refine W.widen (k := 4) (n := 26) (Nat.le_of_ble_eq_true rfl) (Nat.le_of_ble_eq_true rfl) ?_
  refine va_putF (D := (dC, dI)) (ci := 2) (v := .ref b4) (ty := (.array .int)) (C := RX2) (T := TX2) (N := 10) hx hb hts hiX2 tyX2 tyX2_ok nmX2 hown hK hP hD hS 0 rfl rfl 2 (by decide) (hts (.fieldLink RX2 22 "SureCount$Race" "pairWinner" "[I") (by decide +kernel)) (fun _ h9 => h9) rfl hin rfl (by decide +kernel) rfl rfl (Nat.le_of_ble_eq_true rfl) dX2_init_28 (fun H locs hP hD hS => ?_)
  have hP : va_P (dC, dI) vwCl [(a_this, .inr (2, [.ref b1, .ref b3, .ref b4, .null, .null, .int 0, .int 0, .int 0, .int 0, .int 0])), (b1, .inr (3, [.ref (ad2 1)])), ((ad2 1), .inl (cI, 8, .inl (fun _ => 0))), (b3, .inl (cZ, 8, .inl (fun _ => 0))), (b4, .inl (cI, 9, .inl (fun _ => 0)))] H := hP
  have hD : va_D A [(a_this, .inr (2, [.ref b1, .ref b3, .ref b4, .null, .null, .int 0, .int 0, .int 0, .int 0, .int 0])), (b1, .inr (3, [.ref (ad2 1)])), ((ad2 1), .inl (cI, 8, .inl (fun _ => 0))), (b3, .inl (cZ, 8, .inl (fun _ => 0))), (b4, .inl (cI, 9, .inl (fun _ => 0)))] := hD
  refine lv_aload_n hx hb dX2_init_31 rfl (lv_at hl 0 rfl) ?_
  refine lv_bipush (v := (9 : Int32)) hx hb dX2_init_32 (by decide) ?_
  refine va_newa (atype := .int) (ty := .int) (N' := 9) (a0 := (9, .inl (fun _ => 0))) hx hb (hts (.arrayClass .int) (by decide +kernel)) rfl hK hP hD hS hAz (nc_I 9) (by decide) (by decide) (by decide) (Nat.le_of_ble_eq_true rfl) (Nat.le_of_ble_eq_true rfl) dX2_init_34 (fun b5 cA H hK2 hP hD hS => ?_)
  rw [kI_eq hK2] at hP hD
  have hP : va_P (dC, dI) vwCl [(a_this, .inr (2, [.ref b1, .ref b3, .ref b4, .null, .null, .int 0, .int 0, .int 0, .int 0, .int 0])), (b1, .inr (3, [.ref (ad2 1)])), ((ad2 1), .inl (cI, 8, .inl (fun _ => 0))), (b3, .inl (cZ, 8, .inl (fun _ => 0))), (b4, .inl (cI, 9, .inl (fun _ => 0))), (b5, .inl (cI, 9, .inl (fun _ => 0)))] H := hP
  have hD : va_D A [(a_this, .inr (2, [.ref b1, .ref b3, .ref b4, .null, .null, .int 0, .int 0, .int 0, .int 0, .int 0])), (b1, .inr (3, [.ref (ad2 1)])), ((ad2 1), .inl (cI, 8, .inl (fun _ => 0))), (b3, .inl (cZ, 8, .inl (fun _ => 0))), (b4, .inl (cI, 9, .inl (fun _ => 0))), (b5, .inl (cI, 9, .inl (fun _ => 0)))] := hD
  refine W.widen (k := 5) (n := 35) (Nat.le_of_ble_eq_true rfl) (Nat.le_of_ble_eq_true rfl) ?_
  refine va_putF (D := (dC, dI)) (ci := 2) (v := .ref b5) (ty := (.array .int)) (C := RX2) (T := TX2) (N := 10) hx hb hts hiX2 tyX2 tyX2_ok nmX2 hown hK hP hD hS 0 rfl rfl 3 (by decide) (hts (.fieldLink RX2 26 "SureCount$Race" "pairLoser" "[I") (by decide +kernel)) (fun _ h9 => h9) rfl hin rfl (by decide +kernel) rfl rfl (Nat.le_of_ble_eq_true rfl) dX2_init_36 (fun H locs hP hD hS => ?_)
  have hP : va_P (dC, dI) vwCl [(a_this, .inr (2, [.ref b1, .ref b3, .ref b4, .ref b5, .null, .int 0, .int 0, .int 0, .int 0, .int 0])), (b1, .inr (3, [.ref (ad2 1)])), ((ad2 1), .inl (cI, 8, .inl (fun _ => 0))), (b3, .inl (cZ, 8, .inl (fun _ => 0))), (b4, .inl (cI, 9, .inl (fun _ => 0))), (b5, .inl (cI, 9, .inl (fun _ => 0)))] H := hP
  have hD : va_D A [(a_this, .inr (2, [.ref b1, .ref b3, .ref b4, .ref b5, .null, .int 0, .int 0, .int 0, .int 0, .int 0])), (b1, .inr (3, [.ref (ad2 1)])), ((ad2 1), .inl (cI, 8, .inl (fun _ => 0))), (b3, .inl (cZ, 8, .inl (fun _ => 0))), (b4, .inl (cI, 9, .inl (fun _ => 0))), (b5, .inl (cI, 9, .inl (fun _ => 0)))] := hD
  refine lv_aload_n hx hb dX2_init_39 rfl (lv_at hl 0 rfl) ?_
  refine lv_bipush (v := (9 : Int32)) hx hb dX2_init_40 (by decide) ?_
  refine va_newa (atype := .int) (ty := .int) (N' := 9) (a0 := (9, .inl (fun _ => 0))) hx hb (hts (.arrayClass .int) (by decide +kernel)) rfl hK hP hD hS hAz (nc_I 9) (by decide) (by decide) (by decide) (Nat.le_of_ble_eq_true rfl) (Nat.le_of_ble_eq_true rfl) dX2_init_42 (fun b6 cA H hK2 hP hD hS => ?_)
  rw [kI_eq hK2] at hP hD
  have hP : va_P (dC, dI) vwCl [(a_this, .inr (2, [.ref b1, .ref b3, .ref b4, .ref b5, .null, .int 0, .int 0, .int 0, .int 0, .int 0])), (b1, .inr (3, [.ref (ad2 1)])), ((ad2 1), .inl (cI, 8, .inl (fun _ => 0))), (b3, .inl (cZ, 8, .inl (fun _ => 0))), (b4, .inl (cI, 9, .inl (fun _ => 0))), (b5, .inl (cI, 9, .inl (fun _ => 0))), (b6, .inl (cI, 9, .inl (fun _ => 0)))] H := hP
  have hD : va_D A [(a_this, .inr (2, [.ref b1, .ref b3, .ref b4, .ref b5, .null, .int 0, .int 0, .int 0, .int 0, .int 0])), (b1, .inr (3, [.ref (ad2 1)])), ((ad2 1), .inl (cI, 8, .inl (fun _ => 0))), (b3, .inl (cZ, 8, .inl (fun _ => 0))), (b4, .inl (cI, 9, .inl (fun _ => 0))), (b5, .inl (cI, 9, .inl (fun _ => 0))), (b6, .inl (cI, 9, .inl (fun _ => 0)))] := hD
  refine W.widen (k := 6) (n := 44) (Nat.le_of_ble_eq_true rfl) (Nat.le_of_ble_eq_true rfl) ?_
  refine va_putF (D := (dC, dI)) (ci := 2) (v := .ref b6) (ty := (.array .int)) (C := RX2) (T := TX2) (N := 10) hx hb hts hiX2 tyX2 tyX2_ok nmX2 hown hK hP hD hS 0 rfl rfl 4 (by decide) (hts (.fieldLink RX2 29 "SureCount$Race" "pairMargin" "[I") (by decide +kernel)) (fun _ h9 => h9) rfl hin rfl (by decide +kernel) rfl rfl (Nat.le_of_ble_eq_true rfl) dX2_init_44 (fun H locs hP hD hS => ?_)
  have hP : va_P (dC, dI) vwCl [(a_this, .inr (2, [.ref b1, .ref b3, .ref b4, .ref b5, .ref b6, .int 0, .int 0, .int 0, .int 0, .int 0])), (b1, .inr (3, [.ref (ad2 1)])), ((ad2 1), .inl (cI, 8, .inl (fun _ => 0))), (b3, .inl (cZ, 8, .inl (fun _ => 0))), (b4, .inl (cI, 9, .inl (fun _ => 0))), (b5, .inl (cI, 9, .inl (fun _ => 0))), (b6, .inl (cI, 9, .inl (fun _ => 0)))] H := hP
  have hD : va_D A [(a_this, .inr (2, [.ref b1, .ref b3, .ref b4, .ref b5, .ref b6, .int 0, .int 0, .int 0, .int 0, .int 0])), (b1, .inr (3, [.ref (ad2 1)])), ((ad2 1), .inl (cI, 8, .inl (fun _ => 0))), (b3, .inl (cZ, 8, .inl (fun _ => 0))), (b4, .inl (cI, 9, .inl (fun _ => 0))), (b5, .inl (cI, 9, .inl (fun _ => 0))), (b6, .inl (cI, 9, .inl (fun _ => 0)))] := hD
  refine lv_aload_n hx hb dX2_init_47 rfl (lv_at hl 0 rfl) ?_
  refine lv_iconst (v := (0 : Int32)) hx hb dX2_init_48 (by decide) ?_
  refine va_put (D := (dC, dI)) (ci := 2) (v := .int (0 : Int32)) (ty := .int) (C := RX2) (T := TX2) (N := 10) hx hb hts hiX2 tyX2 tyX2_ok nmX2 hown hK hP hD hS 0 rfl rfl 5 (by decide) (hts (.fieldLink RX2 32 "SureCount$Race" "pairs" "I") (by decide +kernel)) (fun _ h9 => h9) rfl (by decide +kernel) rfl rfl (Nat.le_of_ble_eq_true rfl) dX2_init_49 (fun H locs hP hD hS => ?_)
  have hP : va_P (dC, dI) vwCl [(a_this, .inr (2, [.ref b1, .ref b3, .ref b4, .ref b5, .ref b6, .int (0 : Int32), .int 0, .int 0, .int 0, .int 0])), (b1, .inr (3, [.ref (ad2 1)])), ((ad2 1), .inl (cI, 8, .inl (fun _ => 0))), (b3, .inl (cZ, 8, .inl (fun _ => 0))), (b4, .inl (cI, 9, .inl (fun _ => 0))), (b5, .inl (cI, 9, .inl (fun _ => 0))), (b6, .inl (cI, 9, .inl (fun _ => 0)))] H := hP
  have hD : va_D A [(a_this, .inr (2, [.ref b1, .ref b3, .ref b4, .ref b5, .ref b6, .int (0 : Int32), .int 0, .int 0, .int 0, .int 0])), (b1, .inr (3, [.ref (ad2 1)])), ((ad2 1), .inl (cI, 8, .inl (fun _ => 0))), (b3, .inl (cZ, 8, .inl (fun _ => 0))), (b4, .inl (cI, 9, .inl (fun _ => 0))), (b5, .inl (cI, 9, .inl (fun _ => 0))), (b6, .inl (cI, 9, .inl (fun _ => 0)))] := hD
  refine lv_aload_n hx hb dX2_init_52 rfl (lv_at hl 0 rfl) ?_
  refine lv_iconst (v := (0 : Int32)) hx hb dX2_init_53 (by decide) ?_
  refine va_put (D := (dC, dI)) (ci := 2) (v := .int (0 : Int32)) (ty := .int) (C := RX2) (T := TX2) (N := 10) hx hb hts hiX2 tyX2 tyX2_ok nmX2 hown hK hP hD hS 0 rfl rfl 6 (by decide) (hts (.fieldLink RX2 36 "SureCount$Race" "candidates" "I") (by decide +kernel)) (fun _ h9 => h9) rfl (by decide +kernel) rfl rfl (Nat.le_of_ble_eq_true rfl) dX2_init_54 (fun H locs hP hD hS => ?_)
  have hP : va_P (dC, dI) vwCl [(a_this, .inr (2, [.ref b1, .ref b3, .ref b4, .ref b5, .ref b6, .int (0 : Int32), .int (0 : Int32), .int 0, .int 0, .int 0])), (b1, .inr (3, [.ref (ad2 1)])), ((ad2 1), .inl (cI, 8, .inl (fun _ => 0))), (b3, .inl (cZ, 8, .inl (fun _ => 0))), (b4, .inl (cI, 9, .inl (fun _ => 0))), (b5, .inl (cI, 9, .inl (fun _ => 0))), (b6, .inl (cI, 9, .inl (fun _ => 0)))] H := hP
  have hD : va_D A [(a_this, .inr (2, [.ref b1, .ref b3, .ref b4, .ref b5, .ref b6, .int (0 : Int32), .int (0 : Int32), .int 0, .int 0, .int 0])), (b1, .inr (3, [.ref (ad2 1)])), ((ad2 1), .inl (cI, 8, .inl (fun _ => 0))), (b3, .inl (cZ, 8, .inl (fun _ => 0))), (b4, .inl (cI, 9, .inl (fun _ => 0))), (b5, .inl (cI, 9, .inl (fun _ => 0))), (b6, .inl (cI, 9, .inl (fun _ => 0)))] := hD
  refine lv_aload_n hx hb dX2_init_57 rfl (lv_at hl 0 rfl) ?_
  refine lv_iconst (v := (0 : Int32)) hx hb dX2_init_58 (by decide) ?_
  refine va_put (D := (dC, dI)) (ci := 2) (v := .int (0 : Int32)) (ty := .int) (C := RX2) (T := TX2) (N := 10) hx hb hts hiX2 tyX2 tyX2_ok nmX2 hown hK hP hD hS 0 rfl rfl 7 (by decide) (hts (.fieldLink RX2 39 "SureCount$Race" "seats" "I") (by decide +kernel)) (fun _ h9 => h9) rfl (by decide +kernel) rfl rfl (Nat.le_of_ble_eq_true rfl) dX2_init_59 (fun H locs hP hD hS => ?_)
  have hP : va_P (dC, dI) vwCl [(a_this, .inr (2, [.ref b1, .ref b3, .ref b4, .ref b5, .ref b6, .int (0 : Int32), .int (0 : Int32), .int (0 : Int32), .int 0, .int 0])), (b1, .inr (3, [.ref (ad2 1)])), ((ad2 1), .inl (cI, 8, .inl (fun _ => 0))), (b3, .inl (cZ, 8, .inl (fun _ => 0))), (b4, .inl (cI, 9, .inl (fun _ => 0))), (b5, .inl (cI, 9, .inl (fun _ => 0))), (b6, .inl (cI, 9, .inl (fun _ => 0)))] H := hP
  have hD : va_D A [(a_this, .inr (2, [.ref b1, .ref b3, .ref b4, .ref b5, .ref b6, .int (0 : Int32), .int (0 : Int32), .int (0 : Int32), .int 0, .int 0])), (b1, .inr (3, [.ref (ad2 1)])), ((ad2 1), .inl (cI, 8, .inl (fun _ => 0))), (b3, .inl (cZ, 8, .inl (fun _ => 0))), (b4, .inl (cI, 9, .inl (fun _ => 0))), (b5, .inl (cI, 9, .inl (fun _ => 0))), (b6, .inl (cI, 9, .inl (fun _ => 0)))] := hD
  refine lv_aload_n hx hb dX2_init_62 rfl (lv_at hl 0 rfl) ?_
  refine lv_iconst (v := (0 : Int32)) hx hb dX2_init_63 (by decide) ?_
  refine va_put (D := (dC, dI)) (ci := 2) (v := .int (0 : Int32)) (ty := .int) (C := RX2) (T := TX2) (N := 10) hx hb hts hiX2 tyX2 tyX2_ok nmX2 hown hK hP hD hS 0 rfl rfl 8 (by decide) (hts (.fieldLink RX2 42 "SureCount$Race" "size" "I") (by decide +kernel)) (fun _ h9 => h9) rfl (by decide +kernel) rfl rfl (Nat.le_of_ble_eq_true rfl) dX2_init_64 (fun H locs hP hD hS => ?_)
  have hP : va_P (dC, dI) vwCl [(a_this, .inr (2, [.ref b1, .ref b3, .ref b4, .ref b5, .ref b6, .int (0 : Int32), .int (0 : Int32), .int (0 : Int32), .int (0 : Int32), .int 0])), (b1, .inr (3, [.ref (ad2 1)])), ((ad2 1), .inl (cI, 8, .inl (fun _ => 0))), (b3, .inl (cZ, 8, .inl (fun _ => 0))), (b4, .inl (cI, 9, .inl (fun _ => 0))), (b5, .inl (cI, 9, .inl (fun _ => 0))), (b6, .inl (cI, 9, .inl (fun _ => 0)))] H := hP
  have hD : va_D A [(a_this, .inr (2, [.ref b1, .ref b3, .ref b4, .ref b5, .ref b6, .int (0 : Int32), .int (0 : Int32), .int (0 : Int32), .int (0 : Int32), .int 0])), (b1, .inr (3, [.ref (ad2 1)])), ((ad2 1), .inl (cI, 8, .inl (fun _ => 0))), (b3, .inl (cZ, 8, .inl (fun _ => 0))), (b4, .inl (cI, 9, .inl (fun _ => 0))), (b5, .inl (cI, 9, .inl (fun _ => 0))), (b6, .inl (cI, 9, .inl (fun _ => 0)))] := hD
  refine lv_aload_n hx hb dX2_init_67 rfl (lv_at hl 0 rfl) ?_
  refine lv_iconst (v := (0 : Int32)) hx hb dX2_init_68 (by decide) ?_
  refine va_put (D := (dC, dI)) (ci := 2) (v := .int (0 : Int32)) (ty := .int) (C := RX2) (T := TX2) (N := 10) hx hb hts hiX2 tyX2 tyX2_ok nmX2 hown hK hP hD hS 0 rfl rfl 9 (by decide) (hts (.fieldLink RX2 45 "SureCount$Race" "margin" "I") (by decide +kernel)) (fun _ h9 => h9) rfl (by decide +kernel) rfl rfl (Nat.le_of_ble_eq_true rfl) dX2_init_69 (fun H locs hP hD hS => ?_)
  have hP : va_P (dC, dI) vwCl [(a_this, .inr (2, [.ref b1, .ref b3, .ref b4, .ref b5, .ref b6, .int (0 : Int32), .int (0 : Int32), .int (0 : Int32), .int (0 : Int32), .int (0 : Int32)])), (b1, .inr (3, [.ref (ad2 1)])), ((ad2 1), .inl (cI, 8, .inl (fun _ => 0))), (b3, .inl (cZ, 8, .inl (fun _ => 0))), (b4, .inl (cI, 9, .inl (fun _ => 0))), (b5, .inl (cI, 9, .inl (fun _ => 0))), (b6, .inl (cI, 9, .inl (fun _ => 0)))] H := hP
  have hD : va_D A [(a_this, .inr (2, [.ref b1, .ref b3, .ref b4, .ref b5, .ref b6, .int (0 : Int32), .int (0 : Int32), .int (0 : Int32), .int (0 : Int32), .int (0 : Int32)])), (b1, .inr (3, [.ref (ad2 1)])), ((ad2 1), .inl (cI, 8, .inl (fun _ => 0))), (b3, .inl (cZ, 8, .inl (fun _ => 0))), (b4, .inl (cI, 9, .inl (fun _ => 0))), (b5, .inl (cI, 9, .inl (fun _ => 0))), (b6, .inl (cI, 9, .inl (fun _ => 0)))] := hD
  exact W.vret hx hb hr (fun t ht hW => ⟨⟨(), rfl, trivial, (fun k => ([a_this, b1, (ad2 1), b3, b4, b5, b6] : List Nat).getD k 0), va_Pt ht hP, hD⟩, hS.F ht⟩) hS.2.2 dX2_init_72
set_option maxHeartbeats 4000000 in
set_option maxRecDepth 100000 in
theorem c_X4_init (l : Launch) (dC : Nat → ClassId) (dI : Nat → Nat → Nat) (cI cZ cR cJ : ClassId) (a_this sz : Nat) (A : Addr → Prop) (hA : A = va_A [(a_this, .inr (4, [.null, .null, .int 0, .int 0]))] sz) : Met l yX4_init wsX4_init ({ frames := 1, cells := 2, slots := 600, locals := 12 } : Room) (va_Pc ([.ref a_this] : List Value) (wrB (dC, dI) sz [(a_this, .inr (4, [.null, .null, .int 0, .int 0]))] (GG dC dI cI cZ cR cJ))) (va_Qv (fun (_ : Unit) => True) (fun _ t => ∃ ad : Nat → Nat, va_P (dC, dI) vwCl [(a_this, .inr (4, [.ref (ad 1), .ref (ad 2), .int (1000000000 : Int32), .int (0 : Int32)])), ((ad 1), .inl (cI, 300, .inl (fun _ => 0))), ((ad 2), .inl (cI, 300, .inl (fun _ => 0)))] t.heap ∧ va_D A [(a_this, .inr (4, [.ref (ad 1), .ref (ad 2), .int (1000000000 : Int32), .int (0 : Int32)])), ((ad 1), .inl (cI, 300, .inl (fun _ => 0))), ((ad 2), .inl (cI, 300, .inl (fun _ => 0)))]) A) 2 600 A := by
  refine Met.ofW (cc := cX4_init) (maxL := 1) (ret := none) (by decide) rfl ?_
  intro p e s m args below meth c s₁ B hml hv
  obtain ⟨rfl, rfl, hP, hG, hD0⟩ := hv
  have hD := hD0.self (sz := s.heap.size)
  rw [← hA] at hD
  have hAz : ∀ q : Nat, s.heap.size ≤ q → A q := fun q h => by rw [hA]; exact Or.inr h
  have hx := B.exec
  have hb := B.bytes
  have hr := B.returns
  have hts := atoms_spec (ws := wsX4_init) B.pre
  have hown : s.vm.findClass RX4 = some m.cls := findClass_of_methodNamed B.named
  have hlocks := B.notSynchronized
  have hin : meth.name = "<init>" := (name_of_methodNamed B.named B.method).1
  have hK := hG.1
  have hiX4 : ∀ w ∈ u_ws RX4 TX4 4, w ∈ wsX4_init := by decide +kernel
  refine w_entry [(0, .ref a_this)] (Nat.le_of_ble_eq_true rfl) rfl (fun ls hl => ?_)
  refine w_start (A := A) hP (fun H locs hP hS => ?_)
  refine lv_aload_n hx hb dX4_init_0 rfl (lv_at hl 0 rfl) ?_
  refine W.objInit hx hb hown (hts (.methodLink RX4 3 objectInit) (by decide +kernel)) (hts (.instanceMethod objectInit) (by decide +kernel)) (hts (.code objectInit ⟨#[0xb1]⟩ 1 none) (by decide +kernel)) rfl (hl.1.trans hml.symm) rfl dX4_init_1 (Nat.le_of_ble_eq_true rfl) (Nat.le_of_ble_eq_true rfl) ?_
  refine W.eq (g2 := F0 m 4 ls []) rfl ?_
  refine lv_aload_n hx hb dX4_init_4 rfl (lv_at hl 0 rfl) ?_
  refine lv_sipush (v := (300 : Int32)) hx hb dX4_init_5 (by decide) ?_
  refine va_newa (atype := .int) (ty := .int) (N' := 300) (a0 := (300, .inl (fun _ => 0))) hx hb (hts (.arrayClass .int) (by decide +kernel)) rfl hK hP hD hS hAz (nc_I 300) (by decide) (by decide) (by decide) (Nat.le_of_ble_eq_true rfl) (Nat.le_of_ble_eq_true rfl) dX4_init_8 (fun b1 cA H hK2 hP hD hS => ?_)
  rw [kI_eq hK2] at hP hD
  have hP : va_P (dC, dI) vwCl [(a_this, .inr (4, [.null, .null, .int 0, .int 0])), (b1, .inl (cI, 300, .inl (fun _ => 0)))] H := hP
  have hD : va_D A [(a_this, .inr (4, [.null, .null, .int 0, .int 0])), (b1, .inl (cI, 300, .inl (fun _ => 0)))] := hD
  refine W.widen (k := 1) (n := 300) (Nat.le_of_ble_eq_true rfl) (Nat.le_of_ble_eq_true rfl) ?_
  refine va_putF (D := (dC, dI)) (ci := 4) (v := .ref b1) (ty := (.array .int)) (C := RX4) (T := TX4) (N := 4) hx hb hts hiX4 tyX4 tyX4_ok nmX4 hown hK hP hD hS 0 rfl rfl 0 (by decide) (hts (.fieldLink RX4 9 "SureCount$Walk" "worstGap" "[I") (by decide +kernel)) (fun _ h9 => h9) rfl hin rfl (by decide +kernel) rfl rfl (Nat.le_of_ble_eq_true rfl) dX4_init_10 (fun H locs hP hD hS => ?_)
  have hP : va_P (dC, dI) vwCl [(a_this, .inr (4, [.ref b1, .null, .int 0, .int 0])), (b1, .inl (cI, 300, .inl (fun _ => 0)))] H := hP
  have hD : va_D A [(a_this, .inr (4, [.ref b1, .null, .int 0, .int 0])), (b1, .inl (cI, 300, .inl (fun _ => 0)))] := hD
  refine lv_aload_n hx hb dX4_init_13 rfl (lv_at hl 0 rfl) ?_
  refine lv_sipush (v := (300 : Int32)) hx hb dX4_init_14 (by decide) ?_
  refine va_newa (atype := .int) (ty := .int) (N' := 300) (a0 := (300, .inl (fun _ => 0))) hx hb (hts (.arrayClass .int) (by decide +kernel)) rfl hK hP hD hS hAz (nc_I 300) (by decide) (by decide) (by decide) (Nat.le_of_ble_eq_true rfl) (Nat.le_of_ble_eq_true rfl) dX4_init_17 (fun b2 cA H hK2 hP hD hS => ?_)
  rw [kI_eq hK2] at hP hD
  have hP : va_P (dC, dI) vwCl [(a_this, .inr (4, [.ref b1, .null, .int 0, .int 0])), (b1, .inl (cI, 300, .inl (fun _ => 0))), (b2, .inl (cI, 300, .inl (fun _ => 0)))] H := hP
  have hD : va_D A [(a_this, .inr (4, [.ref b1, .null, .int 0, .int 0])), (b1, .inl (cI, 300, .inl (fun _ => 0))), (b2, .inl (cI, 300, .inl (fun _ => 0)))] := hD
  refine W.widen (k := 2) (n := 600) (Nat.le_of_ble_eq_true rfl) (Nat.le_of_ble_eq_true rfl) ?_
  refine va_putF (D := (dC, dI)) (ci := 4) (v := .ref b2) (ty := (.array .int)) (C := RX4) (T := TX4) (N := 4) hx hb hts hiX4 tyX4 tyX4_ok nmX4 hown hK hP hD hS 0 rfl rfl 1 (by decide) (hts (.fieldLink RX4 15 "SureCount$Walk" "worstMargin" "[I") (by decide +kernel)) (fun _ h9 => h9) rfl hin rfl (by decide +kernel) rfl rfl (Nat.le_of_ble_eq_true rfl) dX4_init_19 (fun H locs hP hD hS => ?_)
  have hP : va_P (dC, dI) vwCl [(a_this, .inr (4, [.ref b1, .ref b2, .int 0, .int 0])), (b1, .inl (cI, 300, .inl (fun _ => 0))), (b2, .inl (cI, 300, .inl (fun _ => 0)))] H := hP
  have hD : va_D A [(a_this, .inr (4, [.ref b1, .ref b2, .int 0, .int 0])), (b1, .inl (cI, 300, .inl (fun _ => 0))), (b2, .inl (cI, 300, .inl (fun _ => 0)))] := hD
  refine lv_aload_n hx hb dX4_init_22 rfl (lv_at hl 0 rfl) ?_
  refine lv_ldc (v := (1000000000 : Int32)) hx hb hown (hts (.constant RX4 18 (1000000000)) (by decide +kernel)) dX4_init_23 ?_
  refine va_put (D := (dC, dI)) (ci := 4) (v := .int (1000000000 : Int32)) (ty := .int) (C := RX4) (T := TX4) (N := 4) hx hb hts hiX4 tyX4 tyX4_ok nmX4 hown hK hP hD hS 0 rfl rfl 2 (by decide) (hts (.fieldLink RX4 19 "SureCount$Walk" "riskReached" "I") (by decide +kernel)) (fun _ h9 => h9) rfl (by decide +kernel) rfl rfl (Nat.le_of_ble_eq_true rfl) dX4_init_25 (fun H locs hP hD hS => ?_)
  have hP : va_P (dC, dI) vwCl [(a_this, .inr (4, [.ref b1, .ref b2, .int (1000000000 : Int32), .int 0])), (b1, .inl (cI, 300, .inl (fun _ => 0))), (b2, .inl (cI, 300, .inl (fun _ => 0)))] H := hP
  have hD : va_D A [(a_this, .inr (4, [.ref b1, .ref b2, .int (1000000000 : Int32), .int 0])), (b1, .inl (cI, 300, .inl (fun _ => 0))), (b2, .inl (cI, 300, .inl (fun _ => 0)))] := hD
  refine lv_aload_n hx hb dX4_init_28 rfl (lv_at hl 0 rfl) ?_
  refine lv_iconst (v := (0 : Int32)) hx hb dX4_init_29 (by decide) ?_
  refine va_put (D := (dC, dI)) (ci := 4) (v := .int (0 : Int32)) (ty := .int) (C := RX4) (T := TX4) (N := 4) hx hb hts hiX4 tyX4 tyX4_ok nmX4 hown hK hP hD hS 0 rfl rfl 3 (by decide) (hts (.fieldLink RX4 23 "SureCount$Walk" "drawsTaken" "I") (by decide +kernel)) (fun _ h9 => h9) rfl (by decide +kernel) rfl rfl (Nat.le_of_ble_eq_true rfl) dX4_init_30 (fun H locs hP hD hS => ?_)
  have hP : va_P (dC, dI) vwCl [(a_this, .inr (4, [.ref b1, .ref b2, .int (1000000000 : Int32), .int (0 : Int32)])), (b1, .inl (cI, 300, .inl (fun _ => 0))), (b2, .inl (cI, 300, .inl (fun _ => 0)))] H := hP
  have hD : va_D A [(a_this, .inr (4, [.ref b1, .ref b2, .int (1000000000 : Int32), .int (0 : Int32)])), (b1, .inl (cI, 300, .inl (fun _ => 0))), (b2, .inl (cI, 300, .inl (fun _ => 0)))] := hD
  exact W.vret hx hb hr (fun t ht hW => ⟨⟨(), rfl, trivial, (fun k => ([a_this, b1, b2] : List Nat).getD k 0), va_Pt ht hP, hD⟩, hS.F ht⟩) hS.2.2 dX4_init_33
