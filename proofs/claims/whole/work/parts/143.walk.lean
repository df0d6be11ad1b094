/-! PURE, 14: the law's walk comes to its end, on every script. -/
section PURE14
theorem fL_ok {N : Nat} (hN : 100010 ≤ N) {xs : Nat → Int32} {L : Nat} (hL : L ≤ 2048) : ∀ (n i : Nat) (S : LSt9), Inv S → i ≤ L → L < i + n → fL N xs L n (nI i) S = some () := by
  intro n
  induction n with
  | zero => intro i S _ h1 h2; omega
  | succ n ih =>
    intro i S hI h1 h2
    rw [fL]
    have hlt : (nI L - (4 : Int32) < nI i) ↔ L < i + 4 := by
      rw [fa_lt, show nI L - (4 : Int32) = nI L - nI 4 from rfl, pk_sub_toInt (by omega) (by decide), nI_toInt (by omega)]
      omega
    by_cases h : L < i + 4
    · rw [if_pos (hlt.mpr h)]
    · rw [if_neg (fun e => h (hlt.mp e)), gd_nI (by omega) (by omega)]
      have e4 : nI i + (4 : Int32) = nI (i + 4) := nI_add i 4
      rcases sw_cases 18 ((xs (nI i).toNatClampNeg) &&& (31 : Int32)) with hsw | ⟨k, hk, hsw⟩
      · rw [sw_out hsw, e4]
        exact ih (i + 4) S hI (by omega) (by omega)
      · rcases sw_in18 hk with rfl | rfl | rfl | rfl | rfl | rfl | rfl | rfl | rfl | rfl | rfl | rfl | rfl | rfl | rfl | rfl | rfl | rfl | rfl
        · refine (sw_at (k := 0) (hi := 18) (by decide) hsw).trans ?_
          obtain ⟨S', h3, h4⟩ := case_0 hN (xs := xs) hL (show i + 3 < L by omega) (fun i S => fL N xs L n i S) hI
          refine h3.trans ?_
          show fL N xs L n (nI i + 4) S' = _
          rw [e4]
          exact ih (i + 4) S' h4 (by omega) (by omega)
        · refine (sw_at (k := 1) (hi := 18) (by decide) hsw).trans ?_
          obtain ⟨S', h3, h4⟩ := case_1 hN (xs := xs) hL (show i + 3 < L by omega) (fun i S => fL N xs L n i S) hI
          refine h3.trans ?_
          show fL N xs L n (nI i + 4) S' = _
          rw [e4]
          exact ih (i + 4) S' h4 (by omega) (by omega)
        · refine (sw_at (k := 2) (hi := 18) (by decide) hsw).trans ?_
          obtain ⟨S', h3, h4⟩ := case_2 hN (xs := xs) hL (show i + 3 < L by omega) (fun i S => fL N xs L n i S) hI
          refine h3.trans ?_
          show fL N xs L n (nI i + 4) S' = _
          rw [e4]
          exact ih (i + 4) S' h4 (by omega) (by omega)
        · refine (sw_at (k := 3) (hi := 18) (by decide) hsw).trans ?_
          obtain ⟨S', h3, h4⟩ := case_3 hN (xs := xs) hL (show i + 3 < L by omega) (fun i S => fL N xs L n i S) hI
          refine h3.trans ?_
          show fL N xs L n (nI i + 4) S' = _
          rw [e4]
          exact ih (i + 4) S' h4 (by omega) (by omega)
        · refine (sw_at (k := 4) (hi := 18) (by decide) hsw).trans ?_
          obtain ⟨S', h3, h4⟩ := case_4 hN (xs := xs) hL (show i + 3 < L by omega) (fun i S => fL N xs L n i S) hI
          refine h3.trans ?_
          show fL N xs L n (nI i + 4) S' = _
          rw [e4]
          exact ih (i + 4) S' h4 (by omega) (by omega)
        · refine (sw_at (k := 5) (hi := 18) (by decide) hsw).trans ?_
          obtain ⟨S', h3, h4⟩ := case_5 hN (xs := xs) hL (show i + 3 < L by omega) (fun i S => fL N xs L n i S) hI
          refine h3.trans ?_
          show fL N xs L n (nI i + 4) S' = _
          rw [e4]
          exact ih (i + 4) S' h4 (by omega) (by omega)
        · refine (sw_at (k := 6) (hi := 18) (by decide) hsw).trans ?_
          obtain ⟨S', h3, h4⟩ := case_6 hN (xs := xs) hL (show i + 3 < L by omega) (fun i S => fL N xs L n i S) hI
          refine h3.trans ?_
          show fL N xs L n (nI i + 4) S' = _
          rw [e4]
          exact ih (i + 4) S' h4 (by omega) (by omega)
        · refine (sw_at (k := 7) (hi := 18) (by decide) hsw).trans ?_
          obtain ⟨S', h3, h4⟩ := case_7 hN (xs := xs) hL (show i + 3 < L by omega) (fun i S => fL N xs L n i S) hI
          refine h3.trans ?_
          show fL N xs L n (nI i + 4) S' = _
          rw [e4]
          exact ih (i + 4) S' h4 (by omega) (by omega)
        · refine (sw_at (k := 8) (hi := 18) (by decide) hsw).trans ?_
          obtain ⟨S', h3, h4⟩ := case_8 hN (xs := xs) hL (show i + 3 < L by omega) (fun i S => fL N xs L n i S) hI
          refine h3.trans ?_
          show fL N xs L n (nI i + 4) S' = _
          rw [e4]
          exact ih (i + 4) S' h4 (by omega) (by omega)
        · refine (sw_at (k := 9) (hi := 18) (by decide) hsw).trans ?_
          obtain ⟨S', h3, h4⟩ := case_9 hN (xs := xs) hL (show i + 3 < L by omega) (fun i S => fL N xs L n i S) hI
          refine h3.trans ?_
          show fL N xs L n (nI i + 4) S' = _
          rw [e4]
          exact ih (i + 4) S' h4 (by omega) (by omega)
        · refine (sw_at (k := 10) (hi := 18) (by decide) hsw).trans ?_
          obtain ⟨S', h3, h4⟩ := case_10 hN (xs := xs) hL (show i + 3 < L by omega) (fun i S => fL N xs L n i S) hI
          refine h3.trans ?_
          show fL N xs L n (nI i + 4) S' = _
          rw [e4]
          exact ih (i + 4) S' h4 (by omega) (by omega)
        · refine (sw_at (k := 11) (hi := 18) (by decide) hsw).trans ?_
          obtain ⟨S', h3, h4⟩ := case_11 hN (xs := xs) hL (show i + 3 < L by omega) (fun i S => fL N xs L n i S) hI
          refine h3.trans ?_
          show fL N xs L n (nI i + 4) S' = _
          rw [e4]
          exact ih (i + 4) S' h4 (by omega) (by omega)
        · refine (sw_at (k := 12) (hi := 18) (by decide) hsw).trans ?_
          obtain ⟨S', h3, h4⟩ := case_12 hN (xs := xs) hL (show i + 3 < L by omega) (fun i S => fL N xs L n i S) hI
          refine h3.trans ?_
          show fL N xs L n (nI i + 4) S' = _
          rw [e4]
          exact ih (i + 4) S' h4 (by omega) (by omega)
        · refine (sw_at (k := 13) (hi := 18) (by decide) hsw).trans ?_
          obtain ⟨S', h3, h4⟩ := case_13 hN (xs := xs) hL (show i + 3 < L by omega) (fun i S => fL N xs L n i S) hI
          refine h3.trans ?_
          show fL N xs L n (nI i + 4) S' = _
          rw [e4]
          exact ih (i + 4) S' h4 (by omega) (by omega)
        · refine (sw_at (k := 14) (hi := 18) (by decide) hsw).trans ?_
          obtain ⟨S', h3, h4⟩ := case_14 hN (xs := xs) hL (show i + 3 < L by omega) (fun i S => fL N xs L n i S) hI
          refine h3.trans ?_
          show fL N xs L n (nI i + 4) S' = _
          rw [e4]
          exact ih (i + 4) S' h4 (by omega) (by omega)
        · refine (sw_at (k := 15) (hi := 18) (by decide) hsw).trans ?_
          obtain ⟨S', h3, h4⟩ := case_15 hN (xs := xs) hL (show i + 3 < L by omega) (fun i S => fL N xs L n i S) hI
          refine h3.trans ?_
          show fL N xs L n (nI i + 4) S' = _
          rw [e4]
          exact ih (i + 4) S' h4 (by omega) (by omega)
        · refine (sw_at (k := 16) (hi := 18) (by decide) hsw).trans ?_
          obtain ⟨S', h3, h4⟩ := case_16 hN (xs := xs) hL (show i + 3 < L by omega) (fun i S => fL N xs L n i S) hI
          refine h3.trans ?_
          show fL N xs L n (nI i + 4) S' = _
          rw [e4]
          exact ih (i + 4) S' h4 (by omega) (by omega)
        · refine (sw_at (k := 17) (hi := 18) (by decide) hsw).trans ?_
          obtain ⟨S', h3, h4⟩ := case_17 hN (xs := xs) hL (show i + 3 < L by omega) (fun i S => fL N xs L n i S) hI
          refine h3.trans ?_
          show fL N xs L n (nI i + 4) S' = _
          rw [e4]
          exact ih (i + 4) S' h4 (by omega) (by omega)
        · refine (sw_at (k := 18) (hi := 18) (by decide) hsw).trans ?_
          obtain ⟨S', h3, h4⟩ := case_18 hN (xs := xs) hL (show i + 3 < L by omega) (fun i S => fL N xs L n i S) hI
          refine h3.trans ?_
          show fL N xs L n (nI i + 4) S' = _
          rw [e4]
          exact ih (i + 4) S' h4 (by omega) (by omega)
end PURE14
