/-! PURE, 9: words that are possible; reading; a race's kept numbers. -/
section PURE9
def al (w : Int32) (cf : Nat → Nat) (r : Nat) : Bool := decide (mk w r ≤ cf r) || decide (mk w r = 7)
def alw (w : Int32) (cf : Nat → Nat) : Nat → Bool
  | 0 => true
  | k + 1 => alw w cf k && al w cf k
theorem e_allows {m c : Nat} (hm : m < 8) (hc : c ≤ 6) : f_X2_allows (nI m) (nI c) = some (bi (decide (m ≤ c) || decide (m = 7))) := by
  unfold f_X2_allows
  by_cases h : m = 7
  · rw [if_pos ((n7 hm).mpr h)]; simp [h, bi]
  · rw [if_neg (fun e => h ((n7 hm).mp e))]
    by_cases h2 : m ≤ c
    · rw [if_neg (nI_nlt h2 (by omega))]; simp [h2, bi]
    · rw [if_pos (nI_lt (by omega) (by omega))]; simp [h, h2, bi]
theorem e_isWord {N : Nat} (hN : 100010 ≤ N) (w : Int32) {nr : Nat} {cs : Nat → Int32} {cf : Nat → Nat} (hnr : nr ≤ 5) (hcf : ∀ r, r < nr → cs r = nI (cf r) ∧ cf r ≤ 6) : f_X6_isWord N w (nI nr) cs = some (bi (alw w cf nr)) := by
  unfold f_X6_isWord
  refine lp (L := fun n i => f_X6_isWord_L4 w (nI nr) cs n (bi (alw w cf i)) (nI i)) (hi := nr) ?_ ?_ N 0 (Nat.zero_le _) (by omega)
  · intro n
    show f_X6_isWord_L4 w (nI nr) cs (n + 1) (bi (alw w cf nr)) (nI nr) = _
    rw [f_X6_isWord_L4, if_pos (nI_le (Nat.le_refl _) (by omega)), bi_gb]
  · intro n i hi
    show f_X6_isWord_L4 w (nI nr) cs (n + 1) (bi (alw w cf i)) (nI i) = f_X6_isWord_L4 w (nI nr) cs n (bi (alw w cf (i + 1))) (nI (i + 1))
    obtain ⟨e1, e2⟩ := hcf i hi
    have hm := mk_lt w i
    rw [f_X6_isWord_L4, if_neg (nI_ge hi (by omega)), bi_if, e_of w (by omega), ob, ob, gd_nI (by omega) (by decide), cl_nI (by omega), e1, nI_1]
    show _ = f_X6_isWord_L4 w (nI nr) cs n (bi (alw w cf i && (decide (mk w i ≤ cf i) || decide (mk w i = 7)))) (nI (i + 1))
    cases alw w cf i
    · rfl
    · rw [if_pos rfl]
      by_cases h : mk w i ≤ cf i
      · rw [if_pos (nI_le h (by omega)), decide_eq_true h]; rfl
      · rw [if_neg (nI_ge (by omega) (by omega)), decide_eq_false h]
        by_cases h2 : mk w i = 7
        · rw [if_pos ((n7 hm).mpr h2), decide_eq_true h2]; rfl
        · rw [if_neg (fun e => h2 ((n7 hm).mp e)), decide_eq_false h2]; rfl
theorem e_poss0 (w : Int32) {c0 c1 c2 c3 c4 : Int32} {cf : Nat → Nat}  (hcf : ∀ r, r < 0 → cf r ≤ 6) : f_X5_isPossible w (nI 0) c0 c1 c2 c3 c4 = some (bi (alw w cf 0)) := by
  unfold f_X5_isPossible
  rw [if_pos (show nI 0 ≤ (0 : Int32) from by decide)]
  rfl
theorem e_poss1 (w : Int32) {c0 c1 c2 c3 c4 : Int32} {cf : Nat → Nat} (h0 : c0 = nI (cf 0)) (hcf : ∀ r, r < 1 → cf r ≤ 6) : f_X5_isPossible w (nI 1) c0 c1 c2 c3 c4 = some (bi (alw w cf 1)) := by
  unfold f_X5_isPossible
  rw [if_neg (show ¬ nI 1 ≤ (0 : Int32) from by decide), show f_X5_markOf w (0 : Int32) = _ from e_markOf w (r := 0) (by decide), ob, h0, e_allows (mk_lt _ _) (hcf 0 (by decide)), ob, bi_if]
  rw [if_pos (show nI 1 ≤ (1 : Int32) from by decide)]
  show _ = some (bi ((true && al w cf 0)))
  unfold al
  generalize (decide (mk w 0 ≤ cf 0) || decide (mk w 0 = 7)) = a0
  cases a0 <;> rfl
theorem e_poss2 (w : Int32) {c0 c1 c2 c3 c4 : Int32} {cf : Nat → Nat} (h0 : c0 = nI (cf 0)) (h1 : c1 = nI (cf 1)) (hcf : ∀ r, r < 2 → cf r ≤ 6) : f_X5_isPossible w (nI 2) c0 c1 c2 c3 c4 = some (bi (alw w cf 2)) := by
  unfold f_X5_isPossible
  rw [if_neg (show ¬ nI 2 ≤ (0 : Int32) from by decide), show f_X5_markOf w (0 : Int32) = _ from e_markOf w (r := 0) (by decide), ob, h0, e_allows (mk_lt _ _) (hcf 0 (by decide)), ob, bi_if]
  rw [if_neg (show ¬ nI 2 ≤ (1 : Int32) from by decide), show f_X5_markOf w (1 : Int32) = _ from e_markOf w (r := 1) (by decide), ob, h1, e_allows (mk_lt _ _) (hcf 1 (by decide)), ob, bi_if]
  rw [if_pos (show nI 2 ≤ (2 : Int32) from by decide)]
  show _ = some (bi (((true && al w cf 0) && al w cf 1)))
  unfold al
  generalize (decide (mk w 0 ≤ cf 0) || decide (mk w 0 = 7)) = a0
  generalize (decide (mk w 1 ≤ cf 1) || decide (mk w 1 = 7)) = a1
  cases a0 <;> cases a1 <;> rfl
theorem e_poss3 (w : Int32) {c0 c1 c2 c3 c4 : Int32} {cf : Nat → Nat} (h0 : c0 = nI (cf 0)) (h1 : c1 = nI (cf 1)) (h2 : c2 = nI (cf 2)) (hcf : ∀ r, r < 3 → cf r ≤ 6) : f_X5_isPossible w (nI 3) c0 c1 c2 c3 c4 = some (bi (alw w cf 3)) := by
  unfold f_X5_isPossible
  rw [if_neg (show ¬ nI 3 ≤ (0 : Int32) from by decide), show f_X5_markOf w (0 : Int32) = _ from e_markOf w (r := 0) (by decide), ob, h0, e_allows (mk_lt _ _) (hcf 0 (by decide)), ob, bi_if]
  rw [if_neg (show ¬ nI 3 ≤ (1 : Int32) from by decide), show f_X5_markOf w (1 : Int32) = _ from e_markOf w (r := 1) (by decide), ob, h1, e_allows (mk_lt _ _) (hcf 1 (by decide)), ob, bi_if]
  rw [if_neg (show ¬ nI 3 ≤ (2 : Int32) from by decide), show f_X5_markOf w (2 : Int32) = _ from e_markOf w (r := 2) (by decide), ob, h2, e_allows (mk_lt _ _) (hcf 2 (by decide)), ob, bi_if]
  rw [if_pos (show nI 3 ≤ (3 : Int32) from by decide)]
  show _ = some (bi ((((true && al w cf 0) && al w cf 1) && al w cf 2)))
  unfold al
  generalize (decide (mk w 0 ≤ cf 0) || decide (mk w 0 = 7)) = a0
  generalize (decide (mk w 1 ≤ cf 1) || decide (mk w 1 = 7)) = a1
  generalize (decide (mk w 2 ≤ cf 2) || decide (mk w 2 = 7)) = a2
  cases a0 <;> cases a1 <;> cases a2 <;> rfl
theorem e_poss4 (w : Int32) {c0 c1 c2 c3 c4 : Int32} {cf : Nat → Nat} (h0 : c0 = nI (cf 0)) (h1 : c1 = nI (cf 1)) (h2 : c2 = nI (cf 2)) (h3 : c3 = nI (cf 3)) (hcf : ∀ r, r < 4 → cf r ≤ 6) : f_X5_isPossible w (nI 4) c0 c1 c2 c3 c4 = some (bi (alw w cf 4)) := by
  unfold f_X5_isPossible
  rw [if_neg (show ¬ nI 4 ≤ (0 : Int32) from by decide), show f_X5_markOf w (0 : Int32) = _ from e_markOf w (r := 0) (by decide), ob, h0, e_allows (mk_lt _ _) (hcf 0 (by decide)), ob, bi_if]
  rw [if_neg (show ¬ nI 4 ≤ (1 : Int32) from by decide), show f_X5_markOf w (1 : Int32) = _ from e_markOf w (r := 1) (by decide), ob, h1, e_allows (mk_lt _ _) (hcf 1 (by decide)), ob, bi_if]
  rw [if_neg (show ¬ nI 4 ≤ (2 : Int32) from by decide), show f_X5_markOf w (2 : Int32) = _ from e_markOf w (r := 2) (by decide), ob, h2, e_allows (mk_lt _ _) (hcf 2 (by decide)), ob, bi_if]
  rw [if_neg (show ¬ nI 4 ≤ (3 : Int32) from by decide), show f_X5_markOf w (3 : Int32) = _ from e_markOf w (r := 3) (by decide), ob, h3, e_allows (mk_lt _ _) (hcf 3 (by decide)), ob, bi_if]
  rw [if_pos (show nI 4 ≤ (4 : Int32) from by decide)]
  show _ = some (bi (((((true && al w cf 0) && al w cf 1) && al w cf 2) && al w cf 3)))
  unfold al
  generalize (decide (mk w 0 ≤ cf 0) || decide (mk w 0 = 7)) = a0
  generalize (decide (mk w 1 ≤ cf 1) || decide (mk w 1 = 7)) = a1
  generalize (decide (mk w 2 ≤ cf 2) || decide (mk w 2 = 7)) = a2
  generalize (decide (mk w 3 ≤ cf 3) || decide (mk w 3 = 7)) = a3
  cases a0 <;> cases a1 <;> cases a2 <;> cases a3 <;> rfl
theorem e_poss5 (w : Int32) {c0 c1 c2 c3 c4 : Int32} {cf : Nat → Nat} (h0 : c0 = nI (cf 0)) (h1 : c1 = nI (cf 1)) (h2 : c2 = nI (cf 2)) (h3 : c3 = nI (cf 3)) (h4 : c4 = nI (cf 4)) (hcf : ∀ r, r < 5 → cf r ≤ 6) : f_X5_isPossible w (nI 5) c0 c1 c2 c3 c4 = some (bi (alw w cf 5)) := by
  unfold f_X5_isPossible
  rw [if_neg (show ¬ nI 5 ≤ (0 : Int32) from by decide), show f_X5_markOf w (0 : Int32) = _ from e_markOf w (r := 0) (by decide), ob, h0, e_allows (mk_lt _ _) (hcf 0 (by decide)), ob, bi_if]
  rw [if_neg (show ¬ nI 5 ≤ (1 : Int32) from by decide), show f_X5_markOf w (1 : Int32) = _ from e_markOf w (r := 1) (by decide), ob, h1, e_allows (mk_lt _ _) (hcf 1 (by decide)), ob, bi_if]
  rw [if_neg (show ¬ nI 5 ≤ (2 : Int32) from by decide), show f_X5_markOf w (2 : Int32) = _ from e_markOf w (r := 2) (by decide), ob, h2, e_allows (mk_lt _ _) (hcf 2 (by decide)), ob, bi_if]
  rw [if_neg (show ¬ nI 5 ≤ (3 : Int32) from by decide), show f_X5_markOf w (3 : Int32) = _ from e_markOf w (r := 3) (by decide), ob, h3, e_allows (mk_lt _ _) (hcf 3 (by decide)), ob, bi_if]
  rw [if_neg (show ¬ nI 5 ≤ (4 : Int32) from by decide), show f_X5_markOf w (4 : Int32) = _ from e_markOf w (r := 4) (by decide), ob, h4, e_allows (mk_lt _ _) (hcf 4 (by decide)), ob, bi_if]
  rw [if_pos (show nI 5 ≤ (5 : Int32) from by decide)]
  show _ = some (bi ((((((true && al w cf 0) && al w cf 1) && al w cf 2) && al w cf 3) && al w cf 4)))
  unfold al
  generalize (decide (mk w 0 ≤ cf 0) || decide (mk w 0 = 7)) = a0
  generalize (decide (mk w 1 ≤ cf 1) || decide (mk w 1 = 7)) = a1
  generalize (decide (mk w 2 ≤ cf 2) || decide (mk w 2 = 7)) = a2
  generalize (decide (mk w 3 ≤ cf 3) || decide (mk w 3 = 7)) = a3
  generalize (decide (mk w 4 ≤ cf 4) || decide (mk w 4 = 7)) = a4
  cases a0 <;> cases a1 <;> cases a2 <;> cases a3 <;> cases a4 <;> rfl
theorem e_poss {nr : Nat} (hnr : nr ≤ 5) (w : Int32) {c0 c1 c2 c3 c4 : Int32} {cf : Nat → Nat} (h0 : 0 < nr → c0 = nI (cf 0)) (h1 : 1 < nr → c1 = nI (cf 1)) (h2 : 2 < nr → c2 = nI (cf 2)) (h3 : 3 < nr → c3 = nI (cf 3)) (h4 : 4 < nr → c4 = nI (cf 4)) (hcf : ∀ r, r < nr → cf r ≤ 6) : f_X5_isPossible w (nI nr) c0 c1 c2 c3 c4 = some (bi (alw w cf nr)) := by
  rcases (show nr = 0 ∨ nr = 1 ∨ nr = 2 ∨ nr = 3 ∨ nr = 4 ∨ nr = 5 by omega) with rfl | rfl | rfl | rfl | rfl | rfl
  · exact e_poss0 w hcf
  · exact e_poss1 w (h0 (by decide)) hcf
  · exact e_poss2 w (h0 (by decide)) (h1 (by decide)) hcf
  · exact e_poss3 w (h0 (by decide)) (h1 (by decide)) (h2 (by decide)) hcf
  · exact e_poss4 w (h0 (by decide)) (h1 (by decide)) (h2 (by decide)) (h3 (by decide)) hcf
  · exact e_poss5 w (h0 (by decide)) (h1 (by decide)) (h2 (by decide)) (h3 (by decide)) (h4 (by decide)) hcf
theorem rb_set (hr : Nat → Int32) (p h q i : Nat) (hh : h < 3) (hi : i < 3) : rb (upd hr (3 * p + h) 1) q i = if q = p ∧ i = h then true else rb hr q i := by
  unfold rb
  by_cases e : q = p ∧ i = h
  · rw [if_pos e, e.1, e.2, pk_us]; decide
  · rw [if_neg e, pk_un (by omega)]
theorem HO_set {ho hr : Nat → Int32} (H : HO ho hr) {p h : Nat} (hp : p < 300) (hh : h < 3) : HO (upd ho p (ho p ||| ((1 : Int32) <<< (nI h &&& 31)))) (upd hr (3 * p + h) 1) := by
  intro q hq
  rw [rb_set hr p h q 0 hh (by decide), rb_set hr p h q 1 hh (by decide), rb_set hr p h q 2 hh (by decide)]
  by_cases e : q = p
  · subst e
    rw [pk_us, H q hq]
    rcases (show h = 0 ∨ h = 1 ∨ h = 2 by omega) with rfl | rfl | rfl <;>
      (generalize rb hr q 0 = a; generalize rb hr q 1 = b; generalize rb hr q 2 = c; revert a b c; simp only [true_and]; decide +kernel)
  · rw [pk_un e, H q hq]
    simp [e]
theorem isr_set (hr : Nat → Int32) (p h q : Nat) (hh : h < 3) (e : q ≠ p) : isr (upd hr (3 * p + h) 1) q = isr hr q := by
  unfold isr
  rw [rb_set hr p h q 0 hh (by decide), rb_set hr p h q 1 hh (by decide), rb_set hr p h q 2 hh (by decide)]
  simp [e]
theorem o_read {N : Nat} (hN : 100010 ≤ N) {x y w : Int32} {nr np : Nat} {sl : Bool} {ho hr hw lo cs : Nat → Int32} {c0 c1 c2 c3 c4 : Int32} {cf : Nat → Nat} (out : Nat → Int64) (H : HO ho hr) (hnr : nr ≤ 5) (hnp : np ≤ 300) (hcs : ∀ r, r < nr → cs r = nI (cf r) ∧ cf r ≤ 6)
    (h0 : 0 < nr → c0 = nI (cf 0)) (h1 : 1 < nr → c1 = nI (cf 1)) (h2 : 2 < nr → c2 = nI (cf 2)) (h3 : 3 < nr → c3 = nI (cf 3)) (h4 : 4 < nr → c4 = nI (cf 4)) (hlr : ∀ p, p < 300 → ¬ lo p = 0 → isr hr p = false) :
    ∃ (k b : Int32) (ho' hw' hr' : Nat → Int32) (out' : Nat → Int64), f_L_read x y w (nI nr) (bi sl) (nI np) lo ho c0 c1 c2 c3 c4 hw out = some (k, ho', hw', out') ∧ f_X6_read N x y w (nI nr) (nI np) (bi sl) lo hr cs hw = some (b, k, hr', hw') ∧ same k b out' ∧ (b = 0 ∨ b = 1) ∧ HO ho' hr' ∧ (∀ p, p < 300 → ¬ lo p = 0 → isr hr' p = false) := by
  unfold f_L_read f_X5_read f_X6_read
  rcases ix_or x (show np < 2 ^ 31 by omega) with h | ⟨p, hp, rfl⟩
  · refine ⟨1, 0, ho, hw, hr, out, ?_, ?_, same1 _ _, Or.inl rfl, H, hlr⟩
    · rw [e_has1_out h]; rfl
    · rw [e_isPaper_out h]; rfl
  · rw [e_has1_in hp (by omega), e_isPaper_in hp (by omega), ob, ob, i10]
    show ∃ (k b : Int32) (ho' hw' hr' : Nat → Int32) (out' : Nat → Int64), _ ∧ (if (1 : Int32) = 0 then _ else _) = _ ∧ _
    rw [i10, r01, r11]
    rcases ix_or y (show 3 < 2 ^ 31 by decide) with h | ⟨i, hi, rfl⟩
    · refine ⟨1, 0, ho, hw, hr, out, ?_, ?_, same1 _ _, Or.inl rfl, H, hlr⟩
      · by_cases e1 : y < 0
        · rw [if_pos e1]; rfl
        · have e2 : ¬ y < (3 : Int32) := by
            have := h.resolve_left e1
            rw [fa_le, nI_toInt (by decide)] at this
            rw [fa_lt, show (3 : Int32).toInt = 3 from by decide]
            omega
          rw [if_neg e1, if_neg e2]; rfl
      · by_cases e1 : y < 0
        · rw [if_pos e1]; rfl
        · have e2 : (2 : Int32) < y := by
            have := h.resolve_left e1
            rw [fa_le, nI_toInt (by decide)] at this
            rw [fa_lt, show (2 : Int32).toInt = 2 from by decide]
            omega
          rw [if_neg e1, if_pos e2]; rfl
    · rw [if_neg (nI_pos (by omega)), if_neg (nI_pos (by omega)), if_pos (show nI i < (3 : Int32) from nI_lt (b := 3) hi (by decide)), if_neg (show ¬ (2 : Int32) < nI i from nI_nlt (b := i) (a := 2) (by omega) (by decide)), ob]
      show ∃ (k b : Int32) (ho' hw' hr' : Nat → Int32) (out' : Nat → Int64), _ ∧ (if (1 : Int32) = 0 then _ else _) = _ ∧ _
      rw [i10, bi_if, bi_if]
      cases sl
      · exact ⟨0, 0, ho, hw, hr, _, rfl, rfl, same00 out, Or.inl rfl, H, hlr⟩
      · rw [if_pos rfl, if_pos rfl, gd_nI (j := p) (n := 300) (by omega) (by decide), gd_nI (j := p) (n := 300) (by omega) (by decide), cl_nI (j := p) (by omega)]
        by_cases hl : lo p = 0
        · rw [if_pos hl, if_pos hl, e_isReadBy H (by omega) hi, ob, bi_if, ix3, gd_nI (j := 3 * p + i) (n := 900) (by omega) (by decide), gd_nI (j := 3 * p + i) (n := 900) (by omega) (by decide), gd_nI (j := 3 * p + i) (n := 900) (by omega) (by decide), cl_nI (j := 3 * p + i) (by omega), e_poss hnr w h0 h1 h2 h3 h4 (fun r hr => (hcs r hr).2), e_isWord hN w hnr hcs, ob, ob, bi_if, bi_if]
          by_cases hb : hr (3 * p + i) = 0
          · have hb2 : rb hr p i = false := by simp [rb, hb]
            rw [if_pos hb, hb2, if_neg (by decide)]
            cases alw w cf nr
            · exact ⟨0, 0, ho, hw, hr, _, rfl, rfl, same00 out, Or.inl rfl, H, hlr⟩
            · rw [if_pos rfl, if_pos rfl]
              refine ⟨0, 1, upd ho p (ho p ||| ((1 : Int32) <<< (nI i &&& 31))), upd hw (3 * p + i) w, upd hr (3 * p + i) (vp_nar .boolean (1 : Int32)), vp_updL out (0 : Int32).toNatClampNeg (1 : Int64), ?_, rfl, same01 out, Or.inr rfl, ?_, ?_⟩
              · unfold f_X1_keepHandWord
                rw [ixr, gd_nI (j := 3 * p + i) (n := 900) (by omega) (by decide), gd_nI (j := p) (n := 300) (by omega) (by decide), ob, gd_nI (j := p) (n := 300) (by omega) (by decide), cl_nI (j := p) (by omega), cl_nI (j := 3 * p + i) (by omega), ob]; rfl
              · exact HO_set H (by omega) hi
              · intro q hq hne
                by_cases e : q = p
                · subst e; exact absurd hl hne
                · rw [show isr (upd hr (3 * p + i) (vp_nar .boolean (1 : Int32))) q = isr hr q from isr_set hr p i q hi e]; exact hlr q hq hne
          · have hb2 : rb hr p i = true := by simp [rb, hb]
            rw [if_neg hb, hb2, if_pos rfl]
            exact ⟨0, 0, ho, hw, hr, _, rfl, rfl, same00 out, Or.inl rfl, H, hlr⟩
        · rw [if_neg hl, if_neg hl]
          exact ⟨0, 0, ho, hw, hr, _, rfl, rfl, same00 out, Or.inl rfl, H, hlr⟩
/-- race j as class and model keep it: P pairs, C candidates, Z seats, Sz size, Mg margin; tl tally, pw, pl, pm the pairs -/
def RR (j nr np : Nat) (wd cs ws : Nat → Int32) (P C Z Sz Mg : Int32) (tl pw pl pm : Nat → Int32) : Prop :=
  (j < nr → ∃ c w : Nat, c ≤ 6 ∧ 0 < w ∧ w < c ∧ C = nI c ∧ Z = nI w ∧ cs j = nI c ∧ ws j = nI w ∧ (∀ m, m < 8 → tl m = nI (wv wd np j m)) ∧ Sz = nI (np - wv wd np j 7) ∧ P = nI (prs (wn (wv wd np j) c w) c).length ∧ Mg = nI (mgN (wv wd np j) (prs (wn (wv wd np j) c w) c)) ∧
    ∀ i q, (prs (wn (wv wd np j) c w) c)[i]? = some q → pw i = nI q.1 ∧ pl i = nI q.2 ∧ pm i = dq (wv wd np j) q) ∧
  (nr ≤ j → (∀ m, m < 8 → tl m = 0) ∧ Sz = 0)
theorem rows_of {v : Nat → Nat} {c w : Nat} {pw pl pm : Nat → Int32} : ∀ i q, (prs (wn v c w) c)[i]? = some q → Pw (prs (wn v c w) c) pw i = nI q.1 ∧ Pl (prs (wn v c w) c) pl i = nI q.2 ∧ Pm v (prs (wn v c w) c) pm i = dq v q := by
  intro i q h
  have hm := prW_mem (List.mem_of_getElem? h)
  refine ⟨rwO_at h, rwO_at h, ?_⟩
  rw [Pm_at h]
  exact d_nI (wn_ge hm.1.2.2 hm.2.2.2)
theorem RR_up {j nr np : Nat} {wd cs ws : Nat → Int32} {P C Z Sz Mg : Int32} {tl pw pl pm : Nat → Int32} {a b : Int32} (h : RR j nr np wd cs ws P C Z Sz Mg tl pw pl pm) (hj : j ≠ nr) : RR j (nr + 1) np wd (upd cs nr a) (upd ws nr b) P C Z Sz Mg tl pw pl pm := by
  refine ⟨fun h1 => ?_, fun h1 => h.2 (by omega)⟩
  obtain ⟨c, w, h2, h3, h4, h5, h6, h7, h8, h9⟩ := h.1 (by omega)
  exact ⟨c, w, h2, h3, h4, h5, h6, by rw [pk_un hj]; exact h7, by rw [pk_un hj]; exact h8, h9⟩
theorem RR_open {N : Nat} (hN : 100010 ≤ N) {j c w : Nat} {wd cs ws : Nat → Int32} {P C Z Sz Mg : Int32} {tl wb pw pl pm : Nat → Int32} (h : RR j j 0 wd cs ws P C Z Sz Mg tl pw pl pm) (hc : c ≤ 6) (hw1 : 0 < w) (hw : w < c) :
    ∃ (P' Mg' : Int32) (pm' wb' pw' pl' : Nat → Int32), f_X2_open N (nI c) (nI w) P Mg pm wb pw pl tl = some (P', nI c, nI w, Mg', pm', wb', pw', pl') ∧ RR j (j + 1) 0 wd (upd cs j (nI c)) (upd ws j (nI w)) P' (nI c) (nI w) Sz Mg' tl pw' pl' pm' := by
  obtain ⟨h1, h2⟩ := h.2 (Nat.le_refl _)
  have ht : ∀ m, m < 8 → tl m = nI (wv wd 0 j m) := fun m hm => h1 m hm
  have e := e_pairUp hN (tl := tl) (pm := pm) (wb := wb) (pw := pw) (pl := pl) (k0 := P) (m0 := Mg) ht (fun m => Nat.le_trans (wv_le _ _ _ _) (by decide)) hc hw1 hw
  refine ⟨nI (prs (wn (wv wd 0 j) c w) c).length, nI (mgN (wv wd 0 j) (prs (wn (wv wd 0 j) c w) c)), Pm (wv wd 0 j) (prs (wn (wv wd 0 j) c w) c) pm, wrw (wn (wv wd 0 j) c w) wb c, Pw (prs (wn (wv wd 0 j) c w) c) pw, Pl (prs (wn (wv wd 0 j) c w) c) pl, ?_, fun _ => ⟨c, w, hc, hw1, hw, rfl, rfl, pk_us, pk_us, ht, h2, rfl, rfl, rows_of⟩, fun h3 => by omega⟩
  unfold f_X2_open
  rw [e]; rfl
theorem wv_add (wd : Nat → Int32) (np j : Nat) (w : Int32) (m : Nat) : wv (upd wd np w) (np + 1) j m = wv wd np j m + (if mk w j = m then 1 else 0) := by
  have e : fb_ct (fun p => decide (mk (upd wd np w p) j = m)) np = fb_ct (fun p => decide (mk (wd p) j = m)) np := fb_ct_cong (fun k hk => by rw [pk_un (by omega)])
  show fb_ct _ (np + 1) = _
  rw [fb_ct_succ, e, pk_us]
  by_cases h : mk w j = m
  · simp [h]
  · simp [h]
theorem RR_word {N : Nat} (hN : 100010 ≤ N) {j nr np : Nat} {wd cs ws : Nat → Int32} {P C Z Sz Mg : Int32} {tl wb pw pl pm : Nat → Int32} (word : Int32) (h : RR j nr np wd cs ws P C Z Sz Mg tl pw pl pm) (hj : j < nr) (hnp : np < 300) :
    ∃ (P' Sz' Mg' : Int32) (tl' pm' wb' pw' pl' : Nat → Int32), f_X2_addWord N (nI (mk word j)) P C Z Sz Mg tl pm wb pw pl = some (P', Sz', Mg', tl', pm', wb', pw', pl') ∧ RR j nr (np + 1) (upd wd np word) cs ws P' C Z Sz' Mg' tl' pw' pl' pm' := by
  obtain ⟨c, w, hc, hw1, hw, eC, eZ, e1, e2, ht, eS, eP, eM, hr⟩ := h.1 hj
  have hm := mk_lt word j
  have ht' : ∀ m, m < 8 → upd tl (mk word j) (tl (mk word j) + 1) m = nI (wv (upd wd np word) (np + 1) j m) := by
    intro m hm8
    rw [wv_add]
    by_cases e : mk word j = m
    · rw [e, pk_us, if_pos rfl, ht m hm8, nI_1]
    · rw [pk_un (fun q => e q.symm), if_neg e, ht m hm8]; rfl
  have e := e_pairUp hN (tl := upd tl (mk word j) (tl (mk word j) + 1)) (pm := pm) (wb := wb) (pw := pw) (pl := pl) (k0 := P) (m0 := Mg) ht' (fun m => Nat.le_trans (wv_le _ _ _ _) (by omega)) hc hw1 hw
  have eadd : f_X3_add (nI (mk word j)) tl = some (upd tl (mk word j) (tl (mk word j) + 1)) := by
    unfold f_X3_add
    rw [gd_nI hm (by decide), ob, gd_nI hm (by decide), cl_nI (by omega)]
  have h7 := wv_le wd np j 7
  refine ⟨nI (prs (wn (wv (upd wd np word) (np + 1) j) c w) c).length, nI (np + 1 - wv (upd wd np word) (np + 1) j 7), nI (mgN (wv (upd wd np word) (np + 1) j) (prs (wn (wv (upd wd np word) (np + 1) j) c w) c)), upd tl (mk word j) (tl (mk word j) + 1), Pm (wv (upd wd np word) (np + 1) j) (prs (wn (wv (upd wd np word) (np + 1) j) c w) c) pm, wrw (wn (wv (upd wd np word) (np + 1) j) c w) wb c, Pw (prs (wn (wv (upd wd np word) (np + 1) j) c w) c) pw, Pl (prs (wn (wv (upd wd np word) (np + 1) j) c w) c) pl, ?_, fun _ => ⟨c, w, hc, hw1, hw, eC, eZ, e1, e2, ht', rfl, rfl, rfl, rows_of⟩, fun h3 => by omega⟩
  unfold f_X2_addWord
  rw [eadd, ob, eC, eZ, e, ob, ob, wv_add]
  by_cases h8 : mk word j = 7
  · rw [if_pos ((n7 hm).mpr h8), if_pos h8, eS, show np + 1 - (wv wd np j 7 + 1) = np - wv wd np j 7 by omega]
  · rw [if_neg (fun q => h8 ((n7 hm).mp q)), if_neg h8, eS, nI_1, show np + 1 - (wv wd np j 7 + 0) = np - wv wd np j 7 + 1 by omega]
theorem RR_more {j nr np : Nat} {wd wd' cs ws : Nat → Int32} {P C Z Sz Mg : Int32} {tl pw pl pm : Nat → Int32} (h : RR j nr np wd cs ws P C Z Sz Mg tl pw pl pm) (hj : nr ≤ j) : RR j nr (np + 1) wd' cs ws P C Z Sz Mg tl pw pl pm := ⟨fun h1 => by omega, fun _ => h.2 hj⟩
end PURE9
