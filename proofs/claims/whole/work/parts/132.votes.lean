/-! PURE, 3: votes and winners. -/
section PURE3
/-- what paper p says of race r: by the word (false), as counted whole (true) -/
def sy (wd lo hr hd : Nat → Int32) (r : Nat) (u : Bool) (p : Nat) : Nat := if u && (!decide (¬ lo p = 0) && isr hr p) then rg hr hd p r else mk (wd p) r
theorem sy_lt (wd lo hr hd : Nat → Int32) (r : Nat) (u : Bool) (p : Nat) : sy wd lo hr hd r u p < 8 := by
  unfold sy
  split
  · exact rg_lt _ _ _ _
  · exact mk_lt _ _
theorem sy_f (wd lo hr hd : Nat → Int32) (r p : Nat) : sy wd lo hr hd r false p = mk (wd p) r := rfl
theorem e_says {N : Nat} (hN : 100010 ≤ N) (wd lo hr hd : Nat → Int32) {r p : Nat} (u : Bool) (hp : p < 300) (hr5 : r < 5) : f_X6_says N (nI p) (nI r) (bi u) wd lo hr hd = some (nI (sy wd lo hr hd r u p)) := by
  unfold f_X6_says
  rw [gd_nI (j := p) hp (by decide), cl_nI (j := p) (by omega), e_of _ hr5, e_isRead hp, e_readingOf hN hp hr5]
  cases u
  · rw [if_pos (by decide)]; rfl
  · rw [if_neg (by decide), gd_nI (j := p) hp (by decide)]
    by_cases h : lo p = 0
    · rw [if_pos h, ob, bi_if]
      unfold sy
      cases h2 : isr hr p <;> simp [h, h2, gd_nI (j := p) (n := 300) hp (by decide)]
    · rw [if_neg h]
      unfold sy
      simp [h]
/-- how many papers below np say c -/
def vt (wd lo hr hd : Nat → Int32) (np r : Nat) (u : Bool) (c : Nat) : Nat := fb_ct (fun p => decide (sy wd lo hr hd r u p = c)) np
theorem vt_le (wd lo hr hd : Nat → Int32) (np r : Nat) (u : Bool) (c : Nat) : vt wd lo hr hd np r u c ≤ np := fb_ct_le _ _
theorem e_votesOf {N : Nat} (hN : 100010 ≤ N) (wd lo hr hd : Nat → Int32) {np r c : Nat} (u : Bool) (hnp : np ≤ 300) (hr5 : r < 5) (hc : c < 8) : f_X6_votesOf N (nI r) (nI c) (bi u) (nI np) wd lo hr hd = some (nI (vt wd lo hr hd np r u c)) := by
  unfold f_X6_votesOf
  refine lp (L := fun n i => f_X6_votesOf_L6 N (nI r) (nI c) (bi u) (nI np) wd lo hr hd n (nI (fb_ct (fun p => decide (sy wd lo hr hd r u p = c)) i)) (nI i)) (hi := np) ?_ ?_ N 0 (Nat.zero_le _) (by omega)
  · intro n
    show f_X6_votesOf_L6 N (nI r) (nI c) (bi u) (nI np) wd lo hr hd (n + 1) (nI (fb_ct (fun p => decide (sy wd lo hr hd r u p = c)) np)) (nI np) = _
    rw [f_X6_votesOf_L6, if_pos (nI_le (Nat.le_refl _) (by omega))]; rfl
  · intro n i hi
    show f_X6_votesOf_L6 N (nI r) (nI c) (bi u) (nI np) wd lo hr hd (n + 1) (nI (fb_ct (fun p => decide (sy wd lo hr hd r u p = c)) i)) (nI i) = f_X6_votesOf_L6 N (nI r) (nI c) (bi u) (nI np) wd lo hr hd n (nI (fb_ct (fun p => decide (sy wd lo hr hd r u p = c)) (i + 1))) (nI (i + 1))
    rw [f_X6_votesOf_L6, if_neg (nI_ge hi (by omega)), e_says hN wd lo hr hd u (by omega) hr5, ob]
    by_cases h : sy wd lo hr hd r u i = c
    · rw [if_pos (by rw [h]), nI_1, nI_1, ct_y (by simp [h])]
    · rw [if_neg (fun e => h ((nI_eq (by have := sy_lt wd lo hr hd r u i; omega) (by omega)).mp e)), nI_1, ct_n (by simp [h])]
/-- how many of 1 to n are ahead of c -/
def ah (v : Nat → Nat) (c n : Nat) : Nat := fb_ct (fun k => decide (v c < v (k + 1) ∨ (v (k + 1) = v c ∧ k + 1 < c))) n
theorem ah_le (v : Nat → Nat) (c n : Nat) : ah v c n ≤ n := fb_ct_le _ _
theorem ah_y {v : Nat → Nat} {c i : Nat} (h : v c < v (i + 1) ∨ (v (i + 1) = v c ∧ i + 1 < c)) : ah v c (i + 1) = ah v c i + 1 := ct_y (by exact decide_eq_true h)
theorem ah_n {v : Nat → Nat} {c i : Nat} (h : ¬ (v c < v (i + 1) ∨ (v (i + 1) = v c ∧ i + 1 < c))) : ah v c (i + 1) = ah v c i := ct_n (by exact decide_eq_false h)
/-- does c win, of n candidates with w seats -/
def wn (v : Nat → Nat) (n w c : Nat) : Bool := decide (ah v c n < w)
theorem wn_if (v : Nat → Nat) {n w c : Nat} (hn : n < 100) (hw : w < 100) : (if nI w ≤ nI (ah v c n) then some (0 : Int32) else some (1 : Int32)) = some (bi (wn v n w c)) := by
  have := ah_le v c n
  unfold wn
  by_cases h : ah v c n < w
  · rw [if_neg (nI_ge h (by omega)), decide_eq_true h]; rfl
  · rw [if_pos (nI_le (by omega) (by omega)), decide_eq_false h]; rfl
theorem e_winsBy {N : Nat} (hN : 100010 ≤ N) (wd lo hr hd cs ws : Nat → Int32) {np r c n w : Nat} (u : Bool) (hnp : np ≤ 300) (hr5 : r < 5) (hc1 : 1 ≤ c) (hcn : c ≤ n) (hn : n ≤ 6) (hw : w < n) (ecs : cs r = nI n) (ews : ws r = nI w) :
    f_X6_winsBy N (nI r) (nI c) (bi u) (nI np) wd lo hr hd cs ws = some (bi (wn (vt wd lo hr hd np r u) n w c)) := by
  have hv : ∀ k, vt wd lo hr hd np r u k ≤ 300 := fun k => Nat.le_trans (vt_le _ _ _ _ _ _ _ _) hnp
  unfold f_X6_winsBy
  rw [e_votesOf hN wd lo hr hd u hnp hr5 (by omega), ob]
  refine lp (L := fun m i => f_X6_winsBy_L15 N (nI r) (nI c) (bi u) (nI np) wd lo hr hd cs ws m (nI (vt wd lo hr hd np r u c)) (nI (ah (vt wd lo hr hd np r u) c i)) (nI (i + 1))) (hi := n) ?_ ?_ N 0 (Nat.zero_le _) (by omega)
  · intro m
    show f_X6_winsBy_L15 N (nI r) (nI c) (bi u) (nI np) wd lo hr hd cs ws (m + 1) (nI (vt wd lo hr hd np r u c)) (nI (ah (vt wd lo hr hd np r u) c n)) (nI (n + 1)) = _
    rw [f_X6_winsBy_L15, gd_nI (j := r) hr5 (by decide), cl_nI (j := r) (by omega), ecs, if_pos (nI_lt (by omega) (by omega)), gd_nI (j := r) hr5 (by decide), ews]
    exact wn_if _ (by omega) (by omega)
  · intro m i hi
    show f_X6_winsBy_L15 N (nI r) (nI c) (bi u) (nI np) wd lo hr hd cs ws (m + 1) (nI (vt wd lo hr hd np r u c)) (nI (ah (vt wd lo hr hd np r u) c i)) (nI (i + 1)) = f_X6_winsBy_L15 N (nI r) (nI c) (bi u) (nI np) wd lo hr hd cs ws m (nI (vt wd lo hr hd np r u c)) (nI (ah (vt wd lo hr hd np r u) c (i + 1))) (nI (i + 1 + 1))
    rw [f_X6_winsBy_L15, gd_nI (j := r) hr5 (by decide), cl_nI (j := r) (by omega), ecs, if_neg (nI_nlt (by omega) (by omega))]
    have hvc := hv c
    have hvi := hv (i + 1)
    by_cases e : i + 1 = c
    · rw [if_pos (by rw [e]), if_neg (nI_pos (by omega)), if_pos (nI_le (by omega) (by omega) : nI c ≤ nI (i + 1)), ite_self, nI_1, ah_n (by rw [e]; omega)]
    · rw [if_neg (fun q => e ((nI_eq (by omega) (by omega)).mp q)), e_votesOf hN wd lo hr hd u hnp hr5 (by omega), ob]
      by_cases h1 : vt wd lo hr hd np r u c < vt wd lo hr hd np r u (i + 1)
      · rw [if_pos (nI_lt h1 (by omega)), nI_1, nI_1, ah_y (Or.inl h1)]
      · rw [if_neg (nI_nlt (by omega) (by omega))]
        by_cases h2 : vt wd lo hr hd np r u (i + 1) = vt wd lo hr hd np r u c
        · rw [if_pos (by rw [h2])]
          by_cases h3 : c ≤ i + 1
          · rw [if_pos (nI_le h3 (by omega)), nI_1, ah_n (by omega)]
          · rw [if_neg (nI_ge (by omega) (by omega)), nI_1, nI_1, ah_y (Or.inr ⟨h2, by omega⟩)]
        · rw [if_neg (fun q => h2 ((nI_eq (by omega) (by omega)).mp q)), nI_1, ah_n (by omega)]
theorem e_papersWith {tl : Nat → Int32} {v : Nat → Nat} (ht : ∀ m, m < 8 → tl m = nI (v m)) {c : Nat} (hc : c < 8) : f_X3_papersWith (nI c) tl = some (nI (v c)) := by
  unfold f_X3_papersWith
  rw [gd_nI hc (by decide), cl_nI (by omega), ht c hc]
theorem e_isWinner {N : Nat} (hN : 100010 ≤ N) {tl : Nat → Int32} {v : Nat → Nat} (ht : ∀ m, m < 8 → tl m = nI (v m)) (hv : ∀ m, v m ≤ 300) {c n w : Nat} (hc1 : 1 ≤ c) (hcn : c ≤ n) (hn : n ≤ 6) (hw : w < n) :
    f_X2_isWinner N (nI c) tl (nI n) (nI w) = some (bi (wn v n w c)) := by
  unfold f_X2_isWinner
  rw [e_papersWith ht (by omega), ob]
  refine lp (L := fun m i => f_X2_isWinner_L12 (nI c) tl (nI n) (nI w) m (nI (v c)) (nI (ah v c i)) (nI (i + 1))) (hi := n) ?_ ?_ N 0 (Nat.zero_le _) (by omega)
  · intro m
    show f_X2_isWinner_L12 (nI c) tl (nI n) (nI w) (m + 1) (nI (v c)) (nI (ah v c n)) (nI (n + 1)) = _
    rw [f_X2_isWinner_L12, if_pos (nI_lt (by omega) (by omega))]
    exact wn_if _ (by omega) (by omega)
  · intro m i hi
    show f_X2_isWinner_L12 (nI c) tl (nI n) (nI w) (m + 1) (nI (v c)) (nI (ah v c i)) (nI (i + 1)) = f_X2_isWinner_L12 (nI c) tl (nI n) (nI w) m (nI (v c)) (nI (ah v c (i + 1))) (nI (i + 1 + 1))
    have hvc := hv c
    have hvi := hv (i + 1)
    rw [f_X2_isWinner_L12, if_neg (nI_nlt (by omega) (by omega)), e_papersWith ht (by omega), ob]
    by_cases h1 : v c < v (i + 1)
    · rw [if_pos (nI_lt h1 (by omega)), nI_1, nI_1, ah_y (Or.inl h1)]
    · rw [if_neg (nI_nlt (by omega) (by omega))]
      by_cases h2 : v (i + 1) = v c
      · rw [if_pos (by rw [h2])]
        by_cases h3 : c ≤ i + 1
        · rw [if_pos (nI_le h3 (by omega)), nI_1, ah_n (by omega)]
        · rw [if_neg (nI_ge (by omega) (by omega)), nI_1, nI_1, ah_y (Or.inr ⟨h2, by omega⟩)]
      · rw [if_neg (fun q => h2 ((nI_eq (by omega) (by omega)).mp q)), nI_1, ah_n (by omega)]
/-- a winner has no fewer votes than a loser -/
theorem wn_ge {v : Nat → Nat} {n w a b : Nat} (ha : wn v n w a = true) (hb : wn v n w b = false) : v b ≤ v a := by
  unfold wn at ha hb
  have ha := of_decide_eq_true ha
  have hb := of_decide_eq_false hb
  refine Nat.le_of_not_lt (fun h => ?_)
  have : ah v b n ≤ ah v a n := fb_ct_sub (fun k _ hk => by
    have hk := of_decide_eq_true hk
    refine decide_eq_true ?_
    omega)
  omega
/-- somebody wins -/
theorem wn_some {v : Nat → Nat} {n w : Nat} (hn : 0 < n) (hw : 0 < w) : ∃ c, 1 ≤ c ∧ c ≤ n ∧ wn v n w c = true := by
  obtain ⟨i, hi, h1, h2⟩ := fb_best (fun k => (v (k + 1) : Int)) hn
  refine ⟨i + 1, by omega, by omega, decide_eq_true ?_⟩
  have : ah v (i + 1) n = 0 := fb_ct_zero.mpr (fun k hk => decide_eq_false (fun h => by
    have a := h1 k hk
    rcases h with h | ⟨h, h3⟩
    · omega
    · have := h2 k (by omega); omega))
  omega
/-- somebody loses -/
theorem wn_none {v : Nat → Nat} {n w : Nat} (hn : 0 < n) (hw : w < n) : ∃ c, 1 ≤ c ∧ c ≤ n ∧ wn v n w c = false := by
  obtain ⟨i0, hi0, h0, -⟩ := fb_low (fun k => (v (k + 1) : Int)) hn
  obtain ⟨i, hi, h1, h2⟩ := fb_last (p := fun i => v (i + 1) = v (i0 + 1)) (n := n) ⟨i0, hi0, rfl⟩
  refine ⟨i + 1, by omega, by omega, decide_eq_false ?_⟩
  have e1 : fb_ct (fun k => if k = i then false else true) n + 1 = n := by
    have := fb_ct_upd (fun _ => true) false hi
    have e2 : fb_ct (fun _ => true) n = n := fb_ct_all.mpr (fun _ _ => rfl)
    simp only [if_true] at this
    rw [e2] at this
    simpa using this
  have e2 : fb_ct (fun k => if k = i then false else true) n ≤ ah v (i + 1) n := fb_ct_sub (fun k hk h => by
    by_cases e : k = i
    · simp [e] at h
    · refine decide_eq_true ?_
      have a := h0 k hk
      by_cases h3 : v (k + 1) = v (i0 + 1)
      · have : k < i := Nat.lt_of_not_le (fun q => h2 k (by omega) hk h3)
        omega
      · omega)
  omega
end PURE3
