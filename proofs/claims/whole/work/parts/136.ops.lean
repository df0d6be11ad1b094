/-! PURE, 7: each call, class beside model, on plain rows. -/
section PURE7
theorem r01 : f_X6_right (0 : Int32) (1 : Int32) (0 : Int32) = some (0, 1) := by decide
theorem r11 : f_X6_right (1 : Int32) (1 : Int32) (0 : Int32) = some (1, 0) := by decide
theorem r02 : f_X6_right (0 : Int32) (2 : Int32) (0 : Int32) = some (0, 2) := by decide
theorem r12 : f_X6_right (1 : Int32) (2 : Int32) (0 : Int32) = some (1, 0) := by decide
theorem gb0 {α : Type} (x : Option α) : gb (0 : Int32) x = x := if_pos (Or.inl rfl)
theorem gb1 {α : Type} (x : Option α) : gb (1 : Int32) x = x := if_pos (Or.inr rfl)
theorem i01 {α : Type} (x y : α) : (if (0 : Int32) = 0 then x else y) = x := if_pos rfl
theorem i10 {α : Type} (x y : α) : (if (1 : Int32) = 0 then x else y) = y := if_neg (by decide)
def outOf (x : Int32) (n : Nat) : Prop := x < 0 ∨ nI n ≤ x
theorem ix_or (x : Int32) {n : Nat} (hn : n < 2 ^ 31) : outOf x n ∨ ∃ j, j < n ∧ x = nI j := by
  rcases pk_ix x hn with h | h | h
  · exact Or.inl (Or.inl h)
  · exact Or.inl (Or.inr h)
  · exact Or.inr h
theorem has_in {j n : Nat} (h : j < n) (hn : n < 2 ^ 31) {α : Type} (a b : α) : (if nI j < 0 then a else if nI n ≤ nI j then a else b) = b := by rw [if_neg (nI_pos (by omega)), if_neg (nI_ge h hn)]
theorem has_out {x : Int32} {n : Nat} (h : outOf x n) {α : Type} (a b : α) : (if x < 0 then a else if nI n ≤ x then a else b) = a := by
  by_cases h1 : x < 0
  · rw [if_pos h1]
  · rw [if_neg h1, if_pos (h.resolve_left h1)]
theorem e_isPaper_in {j n : Nat} (h : j < n) (hn : n < 2 ^ 31) : f_X6_isPaper (nI j) (nI n) = some (1, 0) := by unfold f_X6_isPaper; rw [r01, r11, has_in h hn]; rfl
theorem e_isPaper_out {x : Int32} {n : Nat} (h : outOf x n) : f_X6_isPaper x (nI n) = some (0, 1) := by unfold f_X6_isPaper; rw [r01, r11, has_out h]; rfl
theorem e_isRace_in {j n : Nat} (h : j < n) (hn : n < 2 ^ 31) : f_X6_isRace (nI j) (nI n) = some (1, 0) := by unfold f_X6_isRace; rw [r01, r11, has_in h hn]; rfl
theorem e_isRace_out {x : Int32} {n : Nat} (h : outOf x n) : f_X6_isRace x (nI n) = some (0, 1) := by unfold f_X6_isRace; rw [r01, r11, has_out h]; rfl
theorem e_has1_in {j n : Nat} (h : j < n) (hn : n < 2 ^ 31) : f_X1_has (nI j) (nI n) = some 1 := by unfold f_X1_has; rw [has_in h hn]
theorem e_has1_out {x : Int32} {n : Nat} (h : outOf x n) : f_X1_has x (nI n) = some 0 := by unfold f_X1_has; rw [has_out h]
theorem e_has0_in {j n : Nat} (h : j < n) (hn : n < 2 ^ 31) : f_X0_has (nI j) (nI n) = some 1 := by unfold f_X0_has; rw [has_in h hn]
theorem e_has0_out {x : Int32} {n : Nat} (h : outOf x n) : f_X0_has x (nI n) = some 0 := by unfold f_X0_has; rw [has_out h]
theorem e_race_in {j n : Nat} (h : j < n) (hn : n < 2 ^ 31) : f_X5_hasRace (nI j) (nI n) = some 1 := by unfold f_X5_hasRace; rw [has_in h hn]
theorem e_race_out {x : Int32} {n : Nat} (h : outOf x n) : f_X5_hasRace x (nI n) = some 0 := by unfold f_X5_hasRace; rw [has_out h]
theorem e_box_in {j n : Nat} (h : j < n) (hn : n < 2 ^ 31) : f_X5_hasBox (nI j) (nI n) = some 1 := by unfold f_X5_hasBox; rw [has_in h hn]
theorem e_box_out {x : Int32} {n : Nat} (h : outOf x n) : f_X5_hasBox x (nI n) = some 0 := by unfold f_X5_hasBox; rw [has_out h]
/-- an answer of the class beside one of the model: the same kind of end, the same answer -/
def same (k b : Int32) (out : Nat → Int64) : Prop := k = 0 → out (0 : Int32).toNatClampNeg = b.toInt64
theorem same1 (b : Int32) (out : Nat → Int64) : same 1 b out := fun h => absurd h (by decide)
theorem same2 (b : Int32) (out : Nat → Int64) : same 2 b out := fun h => absurd h (by decide)
theorem same0 (b : Int32) (out : Nat → Int64) : same 0 b (vp_updL out (0 : Int32).toNatClampNeg b.toInt64) := fun _ => pk_uLs
theorem same00 (out : Nat → Int64) : same 0 0 (vp_updL out (0 : Int32).toNatClampNeg (0 : Int64)) := fun _ => by rw [pk_uLs]; decide
theorem same01 (out : Nat → Int64) : same 0 1 (vp_updL out (0 : Int32).toNatClampNeg (1 : Int64)) := fun _ => by rw [pk_uLs]; decide
theorem o_lose {x is : Int32} {np : Nat} {ho hr lo : Nat → Int32} (out : Nat → Int64) (H : HO ho hr) (hnp : np ≤ 300) (his : is = 0 ∨ is = 1) (hlo : ∀ p, p < 300 → lo p = 0 ∨ lo p = 1) (hlr : ∀ p, p < 300 → ¬ lo p = 0 → isr hr p = false) :
    ∃ (k b : Int32) (lo' : Nat → Int32) (out' : Nat → Int64), f_L_lose x is (nI np) ho lo out = some (k, lo', out') ∧ f_X6_lose x is (nI np) hr lo = some (b, k, lo') ∧ same k b out' ∧ (b = 0 ∨ b = 1) ∧ (∀ p, p < 300 → lo' p = 0 ∨ lo' p = 1) ∧ (∀ p, p < 300 → ¬ lo' p = 0 → isr hr p = false) := by
  unfold f_L_lose f_X5_lose f_X6_lose
  rcases ix_or x (show np < 2 ^ 31 by omega) with h | ⟨j, hj, rfl⟩
  · refine ⟨1, 0, lo, out, ?_, ?_, same1 _ _, Or.inl rfl, hlo, hlr⟩
    · rw [e_has1_out h]; rfl
    · rw [e_isPaper_out h]; rfl
  · rw [e_has1_in hj (by omega), e_isPaper_in hj (by omega), ob, ob, e_isReadByHand H (by omega), e_isRead (by omega)]
    cases hi : isr hr j
    · have hn : vp_nar .boolean is = is := by rcases his with rfl | rfl <;> decide
      have hb := hlo j (by omega)
      refine ⟨0, lo j, upd lo j is, vp_updL out (0 : Int32).toNatClampNeg (lo j).toInt64, ?_, ?_, same0 _ _, hb, fun p hp => ?_, fun p hp hne => ?_⟩
      · show Option.bind (gd (nI j) 300 (gd (nI j) 300 (gb (lo (nI j).toNatClampNeg) (some ((Sum.inr (lo (nI j).toNatClampNeg) : String ⊕ Int32), upd lo (nI j).toNatClampNeg (vp_nar .boolean is)))))) _ = _
        rw [gd_nI (by omega) (by decide), gd_nI (by omega) (by decide), cl_nI (by omega), gb_in hb, hn, ob]
        rcases hb with e | e <;> rw [e] <;> rfl
      · show (if (1 : Int32) = 0 then _ else _) = _
        rw [i10, ob, bi_if, if_neg (by decide)]
        show Option.bind (f_X6_right (1 : Int32) (2 : Int32) (0 : Int32)) _ = _
        rw [r12, ob]
        show (if (1 : Int32) = 0 then _ else _) = _
        rw [i10, gd_nI (by omega) (by decide), gd_nI (by omega) (by decide), cl_nI (by omega), gb_in hb, hn]
      · by_cases e : p = j
        · subst e; rw [pk_us]; exact his
        · rw [pk_un e]; exact hlo p hp
      · by_cases e : p = j
        · subst e; exact hi
        · rw [pk_un e] at hne; exact hlr p hp hne
    · refine ⟨2, 0, lo, out, ?_, ?_, same2 _ _, Or.inl rfl, hlo, hlr⟩
      · rfl
      · show (if (1 : Int32) = 0 then _ else _) = _
        rw [i10, ob, bi_if, if_pos rfl]
        show Option.bind (f_X6_right (0 : Int32) (2 : Int32) (0 : Int32)) _ = _
        rw [r02, ob]; rfl
/-- counted whole -/
theorem e_wholeMark {ho hr hw wd lo : Nat → Int32} (H : HO ho hr) {p r : Nat} (hp : p < 300) (hr5 : r < 5) (hlr : ¬ lo p = 0 → isr hr p = false) : f_X1_wholeMark (nI p) (nI r) ho wd hw = some (nI (sy wd lo hr hw r true p)) := by
  unfold f_X1_wholeMark
  rw [e_isReadByHand H hp, ob, bi_if, e_wordMark hp hr5, e_handsMark H hp hr5]
  unfold sy hk
  cases hi : isr hr p
  · simp
  · have hl : lo p = 0 := by
      refine Classical.byContradiction (fun h => ?_)
      rw [hlr h] at hi; cases hi
    simp [hl]
theorem e_clear {N : Nat} (hN : 100010 ≤ N) (t : Nat → Int32) : f_X3_clear N t = some (fa_fill (fun _ => (0 : Int32)) t 8) := by
  unfold f_X3_clear f_J7_fill_53178
  have key := lp (L := fun n i => f_J7_fill_53178_L5 (0 : Int32) n (nI i) (8 : Int32) (fa_fill (fun _ => (0 : Int32)) t i)) (r := some (fa_fill (fun _ => (0 : Int32)) t 8)) (hi := 8) ?_ ?_ N 0 (Nat.zero_le _) (by omega)
  · have e : f_J7_fill_53178_L5 (0 : Int32) N (0 : Int32) (8 : Int32) t = some (fa_fill (fun _ => (0 : Int32)) t 8) := by
      rw [fa_fill_0] at key
      exact key
    rw [e]; rfl
  · intro n
    show f_J7_fill_53178_L5 (0 : Int32) (n + 1) (8 : Int32) (8 : Int32) (fa_fill (fun _ => (0 : Int32)) t 8) = _
    rw [f_J7_fill_53178_L5, if_pos (by decide)]
  · intro n i hi
    show f_J7_fill_53178_L5 (0 : Int32) (n + 1) (nI i) (8 : Int32) (fa_fill (fun _ => (0 : Int32)) t i) = f_J7_fill_53178_L5 (0 : Int32) n (nI (i + 1)) (8 : Int32) (fa_fill (fun _ => (0 : Int32)) t (i + 1))
    rw [f_J7_fill_53178_L5, if_neg (show ¬ (8 : Int32) ≤ nI i from nI_ge (b := 8) hi (by decide)), gd_nI hi (by decide), cl_nI (by omega), nI_1, ← fa_fill_succ]
theorem e_tallyOf {N : Nat} (hN : 100010 ≤ N) {ho hr hw wd lo : Nat → Int32} (t : Nat → Int32) {np r : Nat} (H : HO ho hr) (hnp : np ≤ 300) (hr5 : r < 5) (hlr : ∀ p, p < np → ¬ lo p = 0 → isr hr p = false) :
    ∃ t', f_X5_tallyOf_b N (nI r) t (nI np) ho wd hw = some t' ∧ ∀ m, m < 8 → t' m = nI (vt wd lo hr hw np r true m) := by
  unfold f_X5_tallyOf_b
  rw [e_clear hN, ob]
  refine lpI (L := fun n i s => f_X5_tallyOf_b_L23 (nI r) (nI np) ho wd hw n (nI i) s) (I := fun i s => ∀ m, m < 8 → s m = nI (vt wd lo hr hw i r true m)) (Q := fun t' => ∀ m, m < 8 → t' m = nI (vt wd lo hr hw np r true m)) (hi := np) ?_ ?_ N 0 (fa_fill (fun _ => (0 : Int32)) t 8) (Nat.zero_le _) (by omega) (fun m hm => fa_fill_in hm)
  · intro n s hs
    refine ⟨s, ?_, hs⟩
    show f_X5_tallyOf_b_L23 (nI r) (nI np) ho wd hw (n + 1) (nI np) s = _
    rw [f_X5_tallyOf_b_L23, if_pos (nI_le (Nat.le_refl _) (by omega))]
  · intro n i s hi hs
    have hs8 := sy_lt wd lo hr hw r true i
    refine ⟨upd s (sy wd lo hr hw r true i) (s (sy wd lo hr hw r true i) + 1), fun m hm => ?_, ?_⟩
    · by_cases e : sy wd lo hr hw r true i = m
      · rw [e, pk_us, hs m hm, nI_1]
        unfold vt
        rw [ct_y (by simp [e])]
      · rw [pk_un (fun q => e q.symm), hs m hm]
        unfold vt
        rw [ct_n (by simp [e])]
    · show f_X5_tallyOf_b_L23 (nI r) (nI np) ho wd hw (n + 1) (nI i) s = f_X5_tallyOf_b_L23 (nI r) (nI np) ho wd hw n (nI (i + 1)) _
      rw [f_X5_tallyOf_b_L23, if_neg (nI_ge hi (by omega)), e_wholeMark (lo := lo) H (by omega) hr5 (hlr i hi), ob]
      unfold f_X3_add
      rw [gd_nI hs8 (by decide), ob, gd_nI hs8 (by decide), cl_nI (by omega), ob, nI_1]
/-- the words' tally of a race -/
abbrev wv (wd : Nat → Int32) (np r : Nat) : Nat → Nat := fun m => fb_ct (fun p => decide (mk (wd p) r = m)) np
theorem wv_le (wd : Nat → Int32) (np r m : Nat) : wv wd np r m ≤ np := fb_ct_le _ _
theorem wv_vt (wd lo hr hd : Nat → Int32) (np r : Nat) : vt wd lo hr hd np r false = wv wd np r := rfl
theorem what_cases (u : Int32) : u = 0 ∨ u = 1 ∨ (¬ u = 0 ∧ ¬ u = 1) := by
  by_cases h : u = 0
  · exact Or.inl h
  · by_cases h2 : u = 1
    · exact Or.inr (Or.inl h2)
    · exact Or.inr (Or.inr ⟨h, h2⟩)
theorem cand_cases (y : Int32) {c : Nat} (hc : c ≤ 6) : y < 1 ∨ (¬ y < 1 ∧ nI c < y) ∨ ∃ m, 1 ≤ m ∧ m ≤ c ∧ y = nI m := by
  by_cases h : y < 1
  · exact Or.inl h
  · refine Or.inr ?_
    have h1 : (1 : Int32).toInt = 1 := by decide
    rw [fa_lt, h1] at h
    by_cases h2 : nI c < y
    · exact Or.inl ⟨by rw [fa_lt, h1]; exact h, h2⟩
    · rw [fa_lt, nI_toInt (by omega)] at h2
      exact Or.inr ⟨y.toInt.toNat, by omega, by omega, Int32.toInt_inj.mp (by rw [nI_toInt (by omega)]; omega)⟩
theorem canTally_no {j nr c : Nat} {y u : Int32} (hj : j < nr) (hnr : nr ≤ 5) (h : y < 1 ∨ (¬ y < 1 ∧ nI c < y) ∨ (¬ u = 0 ∧ ¬ u = 1)) : f_X5_canTally (nI j) y u (nI nr) (nI c) = some 0 := by
  unfold f_X5_canTally f_X2_hasCandidate
  rw [e_race_in hj (by omega), ob, i10, gd_nI (by omega) (by decide)]
  rcases h with h | ⟨h, h2⟩ | ⟨h, h2⟩
  · rw [if_pos h]; rfl
  · rw [if_neg h, if_pos h2]; rfl
  · rw [if_neg h, if_neg h2]
    by_cases h3 : y < 1
    · rw [if_pos h3]; rfl
    · rw [if_neg h3]
      by_cases h4 : nI c < y
      · rw [if_pos h4]; rfl
      · rw [if_neg h4, ob, i10]
theorem canTally_yes {j nr c m : Nat} {u : Int32} (hj : j < nr) (hnr : nr ≤ 5) (hc : c ≤ 6) (h1 : 1 ≤ m) (h2 : m ≤ c) (h : u = 0 ∨ u = 1) : f_X5_canTally (nI j) (nI m) u (nI nr) (nI c) = some 1 := by
  unfold f_X5_canTally f_X2_hasCandidate
  rw [e_race_in hj (by omega), ob, i10, gd_nI (by omega) (by decide), if_neg (show ¬ nI m < 1 from nI_nlt (b := 1) h1 (by omega)), if_neg (nI_nlt h2 (by omega)), ob, i10]
  rcases h with rfl | rfl
  · rw [if_pos rfl]
  · rw [if_neg (by decide), if_pos rfl]
theorem isAsked_no {j nr c : Nat} {y u : Int32} {cs : Nat → Int32} (hj : j < nr) (hnr : nr ≤ 5) (ecs : cs j = nI c) (h : y < 1 ∨ (¬ y < 1 ∧ nI c < y) ∨ (¬ u = 0 ∧ ¬ u = 1)) : f_X6_isAsked (nI j) y u (nI nr) cs = some (0, 1) := by
  unfold f_X6_isAsked
  rw [e_isRace_in hj (by omega), ob]
  show (if (1 : Int32) = 0 then _ else _) = _
  rw [i10, r01, r11, gd_nI (by omega) (by decide), cl_nI (by omega), ecs]
  rcases h with h | ⟨h, h2⟩ | ⟨h, h2⟩
  · rw [if_pos h]; rfl
  · rw [if_neg h, if_pos h2]; rfl
  · rw [if_neg h, if_neg h2]
    by_cases h3 : y < 1
    · rw [if_pos h3]; rfl
    · rw [if_neg h3]
      by_cases h4 : nI c < y
      · rw [if_pos h4]; rfl
      · rw [if_neg h4]; rfl
theorem isAsked_yes {j nr c m : Nat} {u : Int32} {cs : Nat → Int32} (hj : j < nr) (hnr : nr ≤ 5) (hc : c ≤ 6) (ecs : cs j = nI c) (h1 : 1 ≤ m) (h2 : m ≤ c) (h : u = 0 ∨ u = 1) : f_X6_isAsked (nI j) (nI m) u (nI nr) cs = some (1, 0) := by
  unfold f_X6_isAsked
  rw [e_isRace_in hj (by omega), ob]
  show (if (1 : Int32) = 0 then _ else _) = _
  rw [i10, r01, r11, gd_nI (by omega) (by decide), cl_nI (by omega), ecs, if_neg (show ¬ nI m < 1 from nI_nlt (b := 1) h1 (by omega)), if_neg (nI_nlt h2 (by omega))]
  rcases h with rfl | rfl
  · rw [if_pos rfl]; rfl
  · rw [if_neg (by decide), if_pos rfl]; rfl
theorem o_votes_out {N : Nat} {x y u cand : Int32} {nr : Nat} {tl hT ho wd hw : Nat → Int32} {np : Int32} {out : Nat → Int64} (h : outOf x nr) : f_L_votes N x y u (nI nr) cand tl hT np ho wd hw out = some (1, hT, out) := by
  unfold f_L_votes f_X5_votes f_X5_canTally
  rw [e_race_out h]; rfl
theorem m_votes_out {N : Nat} {x y u : Int32} {nr : Nat} {np : Int32} {cs wd lo hr hd : Nat → Int32} (h : outOf x nr) : f_X6_votes N x y u (nI nr) np cs wd lo hr hd = some (0, 1) := by
  unfold f_X6_votes f_X6_isAsked
  rw [e_isRace_out h]; rfl
theorem o_wins_out {N : Nat} {x y u cand seats : Int32} {nr : Nat} {tl hT ho wd hw : Nat → Int32} {np : Int32} {out : Nat → Int64} (h : outOf x nr) : f_L_wins N x y u (nI nr) cand seats tl hT np ho wd hw out = some (1, hT, out) := by
  unfold f_L_wins f_X5_wins f_X5_canTally
  rw [e_race_out h]; rfl
theorem m_wins_out {N : Nat} {x y u : Int32} {nr : Nat} {np : Int32} {cs wd lo hr hd ws : Nat → Int32} (h : outOf x nr) : f_X6_wins N x y u (nI nr) np cs wd lo hr hd ws = some (0, 1) := by
  unfold f_X6_wins f_X6_isAsked
  rw [e_isRace_out h]; rfl
theorem o_votes {N : Nat} (hN : 100010 ≤ N) {y u : Int32} {j nr np c : Nat} {tl hT ho hr hw wd lo cs : Nat → Int32} (out : Nat → Int64) (H : HO ho hr) (hj : j < nr) (hnr : nr ≤ 5) (hnp : np ≤ 300) (hc : c ≤ 6) (ecs : cs j = nI c) (ht : ∀ m, m < 8 → tl m = nI (wv wd np j m)) (hlr : ∀ p, p < np → ¬ lo p = 0 → isr hr p = false) :
    ∃ (k b : Int32) (hT' : Nat → Int32) (out' : Nat → Int64), f_L_votes N (nI j) y u (nI nr) (nI c) tl hT (nI np) ho wd hw out = some (k, hT', out') ∧ f_X6_votes N (nI j) y u (nI nr) (nI np) cs wd lo hr hw = some (b, k) ∧ same k b out' := by
  unfold f_L_votes f_X5_votes f_X6_votes
  by_cases hno : y < 1 ∨ (¬ y < 1 ∧ nI c < y) ∨ (¬ u = 0 ∧ ¬ u = 1)
  · refine ⟨1, 0, hT, out, ?_, ?_, same1 _ _⟩
    · rw [canTally_no hj hnr hno]; rfl
    · rw [isAsked_no hj hnr ecs hno]; rfl
  · have hu : u = 0 ∨ u = 1 := by
      rcases what_cases u with h | h | h
      · exact Or.inl h
      · exact Or.inr h
      · exact absurd (Or.inr (Or.inr h)) hno
    obtain ⟨m, h1, h2, rfl⟩ : ∃ m, 1 ≤ m ∧ m ≤ c ∧ y = nI m := by
      rcases cand_cases y hc with h | h | h
      · exact absurd (Or.inl h) hno
      · exact absurd (Or.inr (Or.inl h)) hno
      · exact h
    rw [canTally_yes hj hnr hc h1 h2 hu, isAsked_yes hj hnr hc ecs h1 h2 hu, ob, ob, i10]
    rcases hu with rfl | rfl
    · refine ⟨0, nI (wv wd np j m), hT, vp_updL out (0 : Int32).toNatClampNeg (nI (wv wd np j m)).toInt64, ?_, ?_, same0 _ _⟩
      · rw [if_pos rfl]
        unfold f_X5_tallyOf_a
        rw [gd_nI (by omega) (by decide), ob, e_papersWith ht (by omega)]; rfl
      · show Option.bind (f_X6_votesOf N (nI j) (nI m) (bi false) (nI np) wd lo hr hw) _ = _
        rw [e_votesOf hN wd lo hr hw false hnp (by omega) (by omega)]; rfl
    · obtain ⟨t', e1, e2⟩ := e_tallyOf hN (lo := lo) (wd := wd) (hw := hw) hT H hnp (show j < 5 by omega) hlr
      refine ⟨0, nI (vt wd lo hr hw np j true m), t', vp_updL out (0 : Int32).toNatClampNeg (nI (vt wd lo hr hw np j true m)).toInt64, ?_, ?_, same0 _ _⟩
      · rw [if_neg (by decide), e1, ob, e_papersWith e2 (by omega)]; rfl
      · show Option.bind (f_X6_votesOf N (nI j) (nI m) (bi true) (nI np) wd lo hr hw) _ = _
        rw [e_votesOf hN wd lo hr hw true hnp (by omega) (by omega)]; rfl
theorem o_wins {N : Nat} (hN : 100010 ≤ N) {y u : Int32} {j nr np c w : Nat} {tl hT ho hr hw wd lo cs ws : Nat → Int32} (out : Nat → Int64) (H : HO ho hr) (hj : j < nr) (hnr : nr ≤ 5) (hnp : np ≤ 300) (hc : c ≤ 6) (hwc : w < c) (ecs : cs j = nI c) (ews : ws j = nI w) (ht : ∀ m, m < 8 → tl m = nI (wv wd np j m)) (hlr : ∀ p, p < np → ¬ lo p = 0 → isr hr p = false) :
    ∃ (k b : Int32) (hT' : Nat → Int32) (out' : Nat → Int64), f_L_wins N (nI j) y u (nI nr) (nI c) (nI w) tl hT (nI np) ho wd hw out = some (k, hT', out') ∧ f_X6_wins N (nI j) y u (nI nr) (nI np) cs wd lo hr hw ws = some (b, k) ∧ same k b out' ∧ (b = 0 ∨ b = 1) := by
  unfold f_L_wins f_X5_wins f_X6_wins
  by_cases hno : y < 1 ∨ (¬ y < 1 ∧ nI c < y) ∨ (¬ u = 0 ∧ ¬ u = 1)
  · refine ⟨1, 0, hT, out, ?_, ?_, same1 _ _, Or.inl rfl⟩
    · rw [canTally_no hj hnr hno]; rfl
    · rw [isAsked_no hj hnr ecs hno]; rfl
  · have hu : u = 0 ∨ u = 1 := by
      rcases what_cases u with h | h | h
      · exact Or.inl h
      · exact Or.inr h
      · exact absurd (Or.inr (Or.inr h)) hno
    obtain ⟨m, h1, h2, rfl⟩ : ∃ m, 1 ≤ m ∧ m ≤ c ∧ y = nI m := by
      rcases cand_cases y hc with h | h | h
      · exact absurd (Or.inl h) hno
      · exact absurd (Or.inr (Or.inl h)) hno
      · exact h
    rw [canTally_yes hj hnr hc h1 h2 hu, isAsked_yes hj hnr hc ecs h1 h2 hu, ob, ob, i10, gd_nI (by omega) (by decide)]
    rcases hu with rfl | rfl
    · have e3 : f_X6_winsBy N (nI j) (nI m) (0 : Int32) (nI np) wd lo hr hw cs ws = some (bi (wn (wv wd np j) c w m)) := e_winsBy hN wd lo hr hw cs ws false hnp (by omega) h1 h2 hc hwc ecs ews
      rw [if_pos rfl]
      unfold f_X5_tallyOf_a
      rw [gd_nI (by omega) (by decide), ob, e_isWinner hN ht (fun m => Nat.le_trans (wv_le _ _ _ _) hnp) h1 h2 hc hwc, ob, bi_gb, ob]
      show ∃ (k b : Int32) (hT' : Nat → Int32) (out' : Nat → Int64), _ ∧ (if (1 : Int32) = 0 then _ else _) = _ ∧ _
      rw [i10, e3]
      cases wn (wv wd np j) c w m
      · exact ⟨0, 0, hT, _, rfl, rfl, same00 out, Or.inl rfl⟩
      · exact ⟨0, 1, hT, _, rfl, rfl, same01 out, Or.inr rfl⟩
    · obtain ⟨t', e1, e2⟩ := e_tallyOf hN (lo := lo) (wd := wd) (hw := hw) hT H hnp (show j < 5 by omega) hlr
      have e3 : f_X6_winsBy N (nI j) (nI m) (1 : Int32) (nI np) wd lo hr hw cs ws = some (bi (wn (vt wd lo hr hw np j true) c w m)) := e_winsBy hN wd lo hr hw cs ws true hnp (by omega) h1 h2 hc hwc ecs ews
      rw [if_neg (by decide), e1, ob, e_isWinner hN e2 (fun m => Nat.le_trans (vt_le _ _ _ _ _ _ _ _) hnp) h1 h2 hc hwc, ob, bi_gb, ob]
      show ∃ (k b : Int32) (hT' : Nat → Int32) (out' : Nat → Int64), _ ∧ (if (1 : Int32) = 0 then _ else _) = _ ∧ _
      rw [i10, e3]
      cases wn (vt wd lo hr hw np j true) c w m
      · exact ⟨0, 0, t', _, rfl, rfl, same00 out, Or.inl rfl⟩
      · exact ⟨0, 1, t', _, rfl, rfl, same01 out, Or.inr rfl⟩
end PURE7
