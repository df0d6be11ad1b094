/-! What the tables and the premises give at the law's start. -/
section GIVEN
theorem ar_prim {args : Array Value} {s : State} {ty : FieldType} (h : (Cond.arrayClass ty).before args s = true) : ∃ cA : ClassId, ArrOfT s cA ty ∧ s.vm.findClass ("[" ++ ty.toString) = some cA := by
  obtain ⟨cA, kA, comp, h1, h2, h3⟩ := Cond.arrayClass_spec h
  exact ⟨cA, fun n z => ⟨fun k h => (by cases h), kA, h2, comp, h3⟩, h1⟩
theorem ar_obj {args : Array Value} {s : State} {C : String} (h : (Cond.arrayOver (.object C)).before args s = true) : ∃ cA : ClassId, ArrOfT s cA (.object C) ∧ va_RA s cA (.object C) := by
  obtain ⟨comp, c, k, h1, h2, h3, h4, h5⟩ := Cond.arrayOver_spec h
  exact ⟨c, fun n z => ⟨fun k h => (by cases h), k, h3, comp, h4⟩, k, comp, h3, h4, h1, h5⟩
theorem itX0 : ∀ w ∈ u_ws RX0 TX0 3, w ∈ lw_tbl := by decide +kernel
theorem inX0 : Cond.instantiable RX0 3 ∈ lw_tbl := by decide +kernel
theorem itX1 : ∀ w ∈ u_ws RX1 TX1 7, w ∈ lw_tbl := by decide +kernel
theorem inX1 : Cond.instantiable RX1 7 ∈ lw_tbl := by decide +kernel
theorem itX2 : ∀ w ∈ u_ws RX2 TX2 10, w ∈ lw_tbl := by decide +kernel
theorem inX2 : Cond.instantiable RX2 10 ∈ lw_tbl := by decide +kernel
theorem itX3 : ∀ w ∈ u_ws RX3 TX3 1, w ∈ lw_tbl := by decide +kernel
theorem inX3 : Cond.instantiable RX3 1 ∈ lw_tbl := by decide +kernel
theorem itX4 : ∀ w ∈ u_ws RX4 TX4 4, w ∈ lw_tbl := by decide +kernel
theorem inX4 : Cond.instantiable RX4 4 ∈ lw_tbl := by decide +kernel
theorem itX5 : ∀ w ∈ u_ws RX5 TX5 8, w ∈ lw_tbl := by decide +kernel
theorem inX5 : Cond.instantiable RX5 8 ∈ lw_tbl := by decide +kernel
theorem itX6 : ∀ w ∈ u_ws RX6 TX6 22, w ∈ lw_tbl := by decide +kernel
theorem inX6 : Cond.instantiable RX6 22 ∈ lw_tbl := by decide +kernel
theorem it_nf : ∀ q ∈ nfL, Cond.fieldLinkNest q.1 q.2.1 q.2.2.1 q.2.2.2.1 q.2.2.2.2.1 q.2.2.2.2.2 ∈ lw_tbl := by decide +kernel
theorem it_nm : ∀ q ∈ nmL, Cond.methodLinkNest q.1 q.2.1 q.2.2.1 q.2.2.2 ∈ lw_tbl := by decide +kernel
theorem it_sr : ∀ q ∈ srL, Cond.stringRef q.1 q.2.1 q.2.2 ∈ lw_tbl ∧ q.1 = RX5 := by decide +kernel
theorem it_xc : ∀ E ∈ xcL, Cond.castable E E ∈ lw_tbl := by decide +kernel
theorem it_dc : ∀ y ∈ dcL, Cond.declares y ∈ lw_tbl := by decide +kernel
theorem it_ao : Cond.arrayOver (.object "SureCount$Race") ∈ lw_tbl := by decide +kernel
theorem it_aI : Cond.arrayClass .int ∈ lw_tbl := by decide +kernel
theorem it_aZ : Cond.arrayClass .boolean ∈ lw_tbl := by decide +kernel
theorem it_aJ : Cond.arrayClass .long ∈ lw_tbl := by decide +kernel
theorem it_l1 : Cond.laysStatic Bundle.tN "UNASSIGNED_STACK" Bundle.steD ∈ lw_tbl := by decide +kernel
theorem it_l2 : Cond.laysStatic Bundle.tN "SUPPRESSED_SENTINEL" Bundle.listD ∈ lw_tbl := by decide +kernel
theorem it_ti : Cond.initialized Bundle.tN ∈ lw_tbl := by decide +kernel
theorem GG_start {s : State} {b : Nat} (hts : ∀ w ∈ lw_tbl, w.before #[Value.ref b] s = true) (hgv : (Jvm.Cond.and given_1 narrow_1).before #[Value.ref b] s = true) : ∃ (dC : Nat → ClassId) (dI : Nat → Nat → Nat) (cI cZ cR cJ : ClassId), GG dC dI cI cZ cR cJ s := by
  obtain ⟨c0, i0, k0⟩ := u_known (C := RX0) (T := TX0) (N := 3) (n := 3) hts itX0 (hts _ inX0)
  obtain ⟨c1, i1, k1⟩ := u_known (C := RX1) (T := TX1) (N := 7) (n := 7) hts itX1 (hts _ inX1)
  obtain ⟨c2, i2, k2⟩ := u_known (C := RX2) (T := TX2) (N := 10) (n := 10) hts itX2 (hts _ inX2)
  obtain ⟨c3, i3, k3⟩ := u_known (C := RX3) (T := TX3) (N := 1) (n := 1) hts itX3 (hts _ inX3)
  obtain ⟨c4, i4, k4⟩ := u_known (C := RX4) (T := TX4) (N := 4) (n := 4) hts itX4 (hts _ inX4)
  obtain ⟨c5, i5, k5⟩ := u_known (C := RX5) (T := TX5) (N := 8) (n := 8) hts itX5 (hts _ inX5)
  obtain ⟨c6, i6, k6⟩ := u_known (C := RX6) (T := TX6) (N := 22) (n := 22) hts itX6 (hts _ inX6)
  obtain ⟨cI, a1, a2⟩ := ar_prim (hts _ it_aI)
  obtain ⟨cZ, b1, b2⟩ := ar_prim (hts _ it_aZ)
  obtain ⟨cR, d1, d2⟩ := ar_obj (hts _ it_ao)
  obtain ⟨cJ, e1, e2⟩ := ar_prim (hts _ it_aJ)
  have hf := flat_of_before _ hgv
  refine ⟨fun k => if k = 0 then c0 else if k = 1 then c1 else if k = 2 then c2 else if k = 3 then c3 else if k = 4 then c4 else if k = 5 then c5 else c6, fun k => if k = 0 then i0 else if k = 1 then i1 else if k = 2 then i2 else if k = 3 then i3 else if k = 4 then i4 else if k = 5 then i5 else i6, cI, cZ, cR, cJ, ⟨?_, ?_⟩, fun q hq => va_Nw.of rfl (hts _ (it_nf q hq)), fun q hq => va_Nw.of rfl (hts _ (it_nm q hq)), ?_, fun E hE => va_Nw.of rfl (hts _ (it_xc E hE)), va_AO.of (hts _ it_ao), ?_, fun y hy => va_Nw.of rfl (hts _ (it_dc y hy))⟩
  · intro k q hq
    match k, hq with
    | 0, hq => cases hq; exact k0
    | 1, hq => cases hq; exact k1
    | 2, hq => cases hq; exact k2
    | 3, hq => cases hq; exact k3
    | 4, hq => cases hq; exact k4
    | 5, hq => cases hq; exact k5
    | 6, hq => cases hq; exact k6
    | k + 7, hq => simp [vwCl] at hq
  · intro k q hq
    match k, hq with
    | 0, hq => cases hq; exact ⟨a1, a2⟩
    | 1, hq => cases hq; exact ⟨b1, b2⟩
    | 2, hq => cases hq; exact ⟨d1, d2⟩
    | 3, hq => cases hq; exact ⟨e1, e2⟩
    | k + 4, hq => simp [tysL] at hq
  · intro q hq
    obtain ⟨h1, h2⟩ := it_sr q hq
    have hw := hts _ h1
    obtain ⟨-, -, -, sa, -, -, -, -, -, hev⟩ := Cond.stringRef_spec (cls := q.1) (by rw [h2]; exact k5.2.1) hw
    exact ⟨sa, vk_R.of hw hev⟩
  · intro q hq
    have h9 : q = ("java/lang/IllegalStateException", "java/util/NoSuchElementException") ∨ q = ("java/lang/IllegalArgumentException", "java/util/NoSuchElementException") := by
      simp only [ncL, List.mem_cons, List.not_mem_nil, or_false] at hq
      exact hq
    rcases h9 with rfl | rfl
    · exact va_Nc.of (hf (.not (.castable "java/lang/IllegalStateException" "java/util/NoSuchElementException")) (by decide +kernel))
    · exact va_Nc.of (hf (.not (.castable "java/lang/IllegalArgumentException" "java/util/NoSuchElementException")) (by decide +kernel))
theorem Inv_0 : Inv ((fun k => if k = 30 then (1000000000 : Int32) else 0), (fun _ _ => (0 : Int32)), (0 : Int64), (0 : Int64), (fun _ => (0 : Int64))) := by
  have h : ∀ j {wd cs ws : Nat → Int32} {P C Z Mg : Int32} {pw pl pm : Nat → Int32}, RR j 0 0 wd cs ws P C Z (0 : Int32) Mg (fun _ => (0 : Int32)) pw pl pm := fun j => ⟨fun h => absurd h (Nat.not_lt_zero _), fun _ => ⟨fun _ _ => rfl, rfl⟩⟩
  refine ⟨0, 0, 0, 0, false, ⟨⟨by decide, by decide, by decide, by decide, fun h => by cases h⟩, rfl, rfl, rfl, rfl, rfl, rfl, rfl, rfl, rfl, rfl⟩, ⟨rfl, rfl, rfl, rfl, rfl, fun p _ => rfl, fun _ _ => Or.inl rfl, fun _ _ h => absurd rfl h, fun d h => absurd h (Nat.not_lt_zero _), fun p _ => rfl⟩, ⟨h 0, h 1, h 2, h 3, h 4⟩, rfl⟩
end GIVEN
