/-! PURE, 4: winners over losers, in order; the margins. -/
section PURE4
theorem lpD {β : Type} {L : Nat → Nat → Option β} {r : Option β} {hi : Nat} (hend : ∀ n, L (n + 1) hi = r) (hstep : ∀ n i, i < hi → L (n + 1) i = r ∨ L (n + 1) i = L n (i + 1)) : ∀ n i, i ≤ hi → hi - i < n → L n i = r := by
  intro n
  induction n with
  | zero => intro i _ h; omega
  | succ n ih =>
    intro i h1 h2
    by_cases h : i = hi
    · subst h; exact hend n
    · rcases hstep n i (by omega) with e | e
      · exact e
      · rw [e]; exact ih (i + 1) (by omega) (by omega)
def prL (win : Nat → Bool) (w : Nat) : Nat → List (Nat × Nat)
  | 0 => []
  | k + 1 => if win (k + 1) then prL win w k else prL win w k ++ [(w, k + 1)]
def prW (win : Nat → Bool) (c : Nat) : Nat → List (Nat × Nat)
  | 0 => []
  | k + 1 => if win (k + 1) then prW win c k ++ prL win (k + 1) c else prW win c k
abbrev prs (win : Nat → Bool) (c : Nat) : List (Nat × Nat) := prW win c c
theorem prL_y {win : Nat → Bool} {w k : Nat} (h : win (k + 1) = true) : prL win w (k + 1) = prL win w k := by rw [prL, if_pos h]
theorem prL_n {win : Nat → Bool} {w k : Nat} (h : win (k + 1) = false) : prL win w (k + 1) = prL win w k ++ [(w, k + 1)] := by rw [prL, if_neg (by rw [h]; decide)]
theorem prW_y {win : Nat → Bool} {c k : Nat} (h : win (k + 1) = true) : prW win c (k + 1) = prW win c k ++ prL win (k + 1) c := by rw [prW, if_pos h]
theorem prW_n {win : Nat → Bool} {c k : Nat} (h : win (k + 1) = false) : prW win c (k + 1) = prW win c k := by rw [prW, if_neg (by rw [h]; decide)]
theorem prL_len (win : Nat → Bool) (w : Nat) : ∀ k, (prL win w k).length = fb_ct (fun j => !win (j + 1)) k
  | 0 => rfl
  | k + 1 => by
    cases h : win (k + 1)
    · rw [prL_n h, List.length_append, prL_len win w k, ct_y (by simp [h])]; rfl
    · rw [prL_y h, prL_len win w k, ct_n (by simp [h])]
theorem prW_len (win : Nat → Bool) (c : Nat) : ∀ k, (prW win c k).length = fb_ct (fun j => win (j + 1)) k * fb_ct (fun j => !win (j + 1)) c
  | 0 => by simp [prW, fb_ct]
  | k + 1 => by
    cases h : win (k + 1)
    · rw [prW_n h, prW_len win c k, ct_n (by simp [h])]
    · rw [prW_y h, List.length_append, prW_len win c k, prL_len, ct_y (by simp [h]), Nat.add_mul, Nat.one_mul]
theorem prW_mono {win : Nat → Bool} {c k : Nat} (h : k ≤ c) : (prW win c k).length ≤ (prs win c).length := by
  rw [prW_len, prW_len]
  exact Nat.mul_le_mul_right _ (fb_ct_mono _ h)
theorem prs_len {win : Nat → Bool} {c : Nat} (hc : c ≤ 6) : (prs win c).length ≤ 9 := by
  rw [prW_len]
  have h := fb_ct_not (fun j => win (j + 1)) c
  generalize fb_ct (fun j => win (j + 1)) c = a at h
  generalize fb_ct (fun j => !win (j + 1)) c = b at h
  rcases (show a = 0 ∨ a = 1 ∨ a = 2 ∨ a = 3 ∨ a = 4 ∨ a = 5 ∨ a = 6 by omega) with rfl | rfl | rfl | rfl | rfl | rfl | rfl <;> omega
theorem prL_ext (win : Nat → Bool) (w i : Nat) : ∀ t, ∃ z, prL win w (i + t) = prL win w i ++ z
  | 0 => ⟨[], (List.append_nil _).symm⟩
  | t + 1 => by
    obtain ⟨z, hz⟩ := prL_ext win w i t
    cases h : win (i + t + 1)
    · exact ⟨z ++ [(w, i + t + 1)], by rw [← Nat.add_assoc, prL_n h, hz, List.append_assoc]⟩
    · exact ⟨z, by rw [← Nat.add_assoc, prL_y h, hz]⟩
theorem prL_mem {win : Nat → Bool} {w : Nat} {q : Nat × Nat} : ∀ {k : Nat}, q ∈ prL win w k → q.1 = w ∧ 1 ≤ q.2 ∧ q.2 ≤ k ∧ win q.2 = false
  | 0, h => by cases h
  | k + 1, h => by
    cases e : win (k + 1)
    · rw [prL_n e] at h
      rcases List.mem_append.mp h with h | h
      · have := prL_mem h; exact ⟨this.1, this.2.1, by omega, this.2.2.2⟩
      · cases List.mem_singleton.mp h; exact ⟨rfl, by omega, Nat.le_refl _, e⟩
    · rw [prL_y e] at h
      have := prL_mem h; exact ⟨this.1, this.2.1, by omega, this.2.2.2⟩
theorem prL_in {win : Nat → Bool} {w b : Nat} (h1 : 1 ≤ b) (hb : win b = false) : ∀ {k : Nat}, b ≤ k → (w, b) ∈ prL win w k
  | 0, h => by omega
  | k + 1, h => by
    by_cases e : b = k + 1
    · subst e; rw [prL_n hb]; exact List.mem_append.mpr (Or.inr (List.mem_singleton.mpr rfl))
    · have := prL_in (w := w) h1 hb (k := k) (by omega)
      cases e2 : win (k + 1)
      · rw [prL_n e2]; exact List.mem_append.mpr (Or.inl this)
      · rw [prL_y e2]; exact this
theorem prW_mem {win : Nat → Bool} {c : Nat} {q : Nat × Nat} : ∀ {k : Nat}, q ∈ prW win c k → (1 ≤ q.1 ∧ q.1 ≤ k ∧ win q.1 = true) ∧ 1 ≤ q.2 ∧ q.2 ≤ c ∧ win q.2 = false
  | 0, h => by cases h
  | k + 1, h => by
    cases e : win (k + 1)
    · rw [prW_n e] at h
      have := prW_mem h; exact ⟨⟨this.1.1, by omega, this.1.2.2⟩, this.2⟩
    · rw [prW_y e] at h
      rcases List.mem_append.mp h with h | h
      · have := prW_mem h; exact ⟨⟨this.1.1, by omega, this.1.2.2⟩, this.2⟩
      · have := prL_mem h; exact ⟨⟨by omega, by omega, by rw [this.1]; exact e⟩, this.2⟩
theorem prW_in {win : Nat → Bool} {c a b : Nat} (h1 : 1 ≤ b) (h2 : b ≤ c) (hb : win b = false) (ha : win a = true) (h3 : 1 ≤ a) : ∀ {k : Nat}, a ≤ k → (a, b) ∈ prW win c k
  | 0, h => by omega
  | k + 1, h => by
    by_cases e : a = k + 1
    · subst e; rw [prW_y ha]; exact List.mem_append.mpr (Or.inr (prL_in h1 hb h2))
    · have := prW_in h1 h2 hb ha h3 (k := k) (by omega)
      cases e2 : win (k + 1)
      · rw [prW_n e2]; exact this
      · rw [prW_y e2]; exact List.mem_append.mpr (Or.inl this)
theorem prs_ne {v : Nat → Nat} {n w : Nat} (hw1 : 0 < w) (hw : w < n) : prs (wn v n w) n ≠ [] := by
  obtain ⟨a, a1, a2, ha⟩ := wn_some (v := v) (n := n) (w := w) (by omega) hw1
  obtain ⟨b, b1, b2, hb⟩ := wn_none (v := v) (n := n) (w := w) (by omega) hw
  intro e
  have : (a, b) ∈ prs (wn v n w) n := prW_in b1 b2 hb ha a1 a2
  rw [e] at this
  cases this
/-- a row of which a list stands at the head -/
def rwO (f : Nat × Nat → Int32) (ls : List (Nat × Nat)) (b : Nat → Int32) : Nat → Int32 := fun j => (ls[j]?).elim (b j) f
theorem rwO_nil (f : Nat × Nat → Int32) (b : Nat → Int32) : rwO f [] b = b := rfl
theorem rwO_at {f : Nat × Nat → Int32} {ls : List (Nat × Nat)} {b : Nat → Int32} {j : Nat} {q : Nat × Nat} (h : ls[j]? = some q) : rwO f ls b j = f q := by unfold rwO; rw [h]; rfl
theorem rwO_snoc (f : Nat × Nat → Int32) (ls : List (Nat × Nat)) (b : Nat → Int32) (q : Nat × Nat) : upd (rwO f ls b) ls.length (f q) = rwO f (ls ++ [q]) b := by
  funext j
  unfold upd rwO
  by_cases h : j = ls.length
  · subst h; simp
  · rw [if_neg h]
    by_cases h2 : j < ls.length
    · rw [List.getElem?_append_left h2]
    · rw [List.getElem?_eq_none (by omega), List.getElem?_eq_none (by simp; omega)]
abbrev Pw (ls : List (Nat × Nat)) (b : Nat → Int32) : Nat → Int32 := rwO (fun q => nI q.1) ls b
abbrev Pl (ls : List (Nat × Nat)) (b : Nat → Int32) : Nat → Int32 := rwO (fun q => nI q.2) ls b
abbrev Pm (v : Nat → Nat) (ls : List (Nat × Nat)) (b : Nat → Int32) : Nat → Int32 := rwO (fun q => nI (v q.1) - nI (v q.2)) ls b
theorem Pm_at {v : Nat → Nat} {ls : List (Nat × Nat)} {b : Nat → Int32} {j : Nat} {q : Nat × Nat} (h : ls[j]? = some q) : Pm v ls b j = nI (v q.1) - nI (v q.2) := rwO_at h
/-- a row of booleans, of votes, of which places 1 to i are told -/
def wrw (win : Nat → Bool) (b : Nat → Int32) (i : Nat) : Nat → Int32 := fun j => if 1 ≤ j ∧ j ≤ i then bi (win j) else b j
def vrw (v : Nat → Nat) (b : Nat → Int32) (i : Nat) : Nat → Int32 := fun j => if 1 ≤ j ∧ j ≤ i then nI (v j) else b j
theorem wrw_in {win : Nat → Bool} {b : Nat → Int32} {i j : Nat} (h1 : 1 ≤ j) (h2 : j ≤ i) : wrw win b i j = bi (win j) := if_pos ⟨h1, h2⟩
theorem vrw_in {v : Nat → Nat} {b : Nat → Int32} {i j : Nat} (h1 : 1 ≤ j) (h2 : j ≤ i) : vrw v b i j = nI (v j) := if_pos ⟨h1, h2⟩
theorem wrw_0 (win : Nat → Bool) (b : Nat → Int32) : wrw win b 0 = b := funext fun j => if_neg (by omega)
theorem vrw_0 (v : Nat → Nat) (b : Nat → Int32) : vrw v b 0 = b := funext fun j => if_neg (by omega)
theorem wrw_s (win : Nat → Bool) (b : Nat → Int32) (i : Nat) : upd (wrw win b i) (i + 1) (bi (win (i + 1))) = wrw win b (i + 1) := by
  funext j
  unfold upd wrw
  by_cases h : j = i + 1
  · subst h; rw [if_pos rfl, if_pos (by omega)]
  · rw [if_neg h]
    by_cases h2 : 1 ≤ j ∧ j ≤ i
    · rw [if_pos h2, if_pos (by omega)]
    · rw [if_neg h2, if_neg (by omega)]
theorem vrw_s (v : Nat → Nat) (b : Nat → Int32) (i : Nat) : upd (vrw v b i) (i + 1) (nI (v (i + 1))) = vrw v b (i + 1) := by
  funext j
  unfold upd vrw
  by_cases h : j = i + 1
  · subst h; rw [if_pos rfl, if_pos (by omega)]
  · rw [if_neg h]
    by_cases h2 : 1 ≤ j ∧ j ≤ i
    · rw [if_pos h2, if_pos (by omega)]
    · rw [if_neg h2, if_neg (by omega)]
/-- the least difference -/
def mgN (v : Nat → Nat) (ls : List (Nat × Nat)) : Nat := ls.foldl (fun m q => if v q.1 - v q.2 < m then v q.1 - v q.2 else m) 1000000000
theorem mgN_snoc (v : Nat → Nat) (ls : List (Nat × Nat)) (q : Nat × Nat) : mgN v (ls ++ [q]) = if v q.1 - v q.2 < mgN v ls then v q.1 - v q.2 else mgN v ls := by unfold mgN; rw [List.foldl_append]; rfl
theorem mg_le (v : Nat → Nat) : ∀ (ls : List (Nat × Nat)) (m : Nat), ls.foldl (fun m q => if v q.1 - v q.2 < m then v q.1 - v q.2 else m) m ≤ m ∧ ∀ q ∈ ls, ls.foldl (fun m q => if v q.1 - v q.2 < m then v q.1 - v q.2 else m) m ≤ v q.1 - v q.2
  | [], m => ⟨Nat.le_refl _, fun _ h => by cases h⟩
  | q :: t, m => by
    have ih := mg_le v t (if v q.1 - v q.2 < m then v q.1 - v q.2 else m)
    rw [List.foldl_cons]
    have e : (if v q.1 - v q.2 < m then v q.1 - v q.2 else m) ≤ m ∧ (if v q.1 - v q.2 < m then v q.1 - v q.2 else m) ≤ v q.1 - v q.2 := by split <;> omega
    refine ⟨Nat.le_trans ih.1 e.1, fun x hx => ?_⟩
    rcases List.mem_cons.mp hx with rfl | hx
    · exact Nat.le_trans ih.1 e.2
    · exact ih.2 x hx
theorem mgN_top (v : Nat → Nat) (ls : List (Nat × Nat)) : mgN v ls ≤ 1000000000 := (mg_le v ls _).1
theorem mgN_le {v : Nat → Nat} {ls : List (Nat × Nat)} {q : Nat × Nat} (h : q ∈ ls) : mgN v ls ≤ v q.1 - v q.2 := (mg_le v ls _).2 q h
theorem tk {α : Type} {q : α} : ∀ {ls : List α} {i : Nat}, ls[i]? = some q → ls.take (i + 1) = ls.take i ++ [q]
  | [], i, h => by simp at h
  | a :: t, 0, h => by simp at h; subst h; rfl
  | a :: t, i + 1, h => by
    have := tk (ls := t) (i := i) (by simpa using h)
    rw [List.take_succ_cons, this]; rfl
/-- a winner with each loser -/
theorem e_pairWithLosers {N : Nat} (hN : 100010 ≤ N) {tl wr b1 b2 b3 : Nat → Int32} {v : Nat → Nat} {win : Nat → Bool} (ht : ∀ m, m < 8 → tl m = nI (v m)) {c w : Nat} (hc : c ≤ 6) (hw : w < 8) (hwr : ∀ j, 1 ≤ j → j ≤ c → wr j = bi (win j)) (pre : List (Nat × Nat)) (hlen : (pre ++ prL win w c).length ≤ 9) :
    f_X2_pairWithLosers N (nI w) (nI pre.length) (nI c) wr (Pw pre b1) (Pl pre b2) tl (Pm v pre b3) = some (nI (pre ++ prL win w c).length, Pw (pre ++ prL win w c) b1, Pl (pre ++ prL win w c) b2, Pm v (pre ++ prL win w c) b3) := by
  unfold f_X2_pairWithLosers
  have key := lpD (L := fun n i => f_X2_pairWithLosers_L2 (nI w) (nI c) wr tl n (nI (i + 1)) (nI (pre ++ prL win w i).length) (Pw (pre ++ prL win w i) b1) (Pl (pre ++ prL win w i) b2) (Pm v (pre ++ prL win w i) b3)) (r := some (nI (pre ++ prL win w c).length, Pw (pre ++ prL win w c) b1, Pl (pre ++ prL win w c) b2, Pm v (pre ++ prL win w c) b3)) (hi := c) ?_ ?_ N 0 (Nat.zero_le _) (by omega)
  · have e : pre ++ prL win w 0 = pre := List.append_nil _
    simp only [e] at key
    exact key
  · intro n
    show f_X2_pairWithLosers_L2 (nI w) (nI c) wr tl (n + 1) (nI (c + 1)) (nI (pre ++ prL win w c).length) (Pw (pre ++ prL win w c) b1) (Pl (pre ++ prL win w c) b2) (Pm v (pre ++ prL win w c) b3) = _
    rw [f_X2_pairWithLosers_L2, if_pos (nI_lt (by omega) (by omega))]
  · intro n i hi
    show f_X2_pairWithLosers_L2 (nI w) (nI c) wr tl (n + 1) (nI (i + 1)) (nI (pre ++ prL win w i).length) (Pw (pre ++ prL win w i) b1) (Pl (pre ++ prL win w i) b2) (Pm v (pre ++ prL win w i) b3) = _ ∨ _ = f_X2_pairWithLosers_L2 (nI w) (nI c) wr tl n (nI (i + 1 + 1)) (nI (pre ++ prL win w (i + 1)).length) (Pw (pre ++ prL win w (i + 1)) b1) (Pl (pre ++ prL win w (i + 1)) b2) (Pm v (pre ++ prL win w (i + 1)) b3)
    obtain ⟨z, hz⟩ := prL_ext win w i (c - i)
    rw [show i + (c - i) = c by omega] at hz
    rw [hz, ← List.append_assoc, List.length_append] at hlen
    rw [f_X2_pairWithLosers_L2, if_neg (nI_nlt (by omega) (by omega))]
    by_cases h9 : 9 ≤ (pre ++ prL win w i).length
    · refine Or.inl ?_
      have : z = [] := List.length_eq_zero_iff.mp (by omega)
      rw [this, List.append_nil] at hz
      rw [if_pos (show (9 : Int32) ≤ nI (pre ++ prL win w i).length from nI_le (a := 9) h9 (by omega)), hz]
    · refine Or.inr ?_
      rw [if_neg (show ¬ (9 : Int32) ≤ nI (pre ++ prL win w i).length from nI_ge (b := 9) (by omega) (by decide)), gd_nI (j := i + 1) (by omega) (by decide), cl_nI (j := i + 1) (by omega), hwr (i + 1) (by omega) (by omega), bi_if]
      cases h : win (i + 1)
      · rw [if_neg (by decide), prL_n h, ← List.append_assoc, gd_nI (by omega) (by decide), gd_nI (by omega) (by decide), e_papersWith ht hw, ob, e_papersWith ht (c := i + 1) (by omega), ob, gd_nI (by omega) (by decide), cl_nI (by omega), nI_1, nI_1]
        rw [show upd (Pw (pre ++ prL win w i) b1) (pre ++ prL win w i).length (nI w) = Pw (pre ++ prL win w i ++ [(w, i + 1)]) b1 from rwO_snoc (fun q => nI q.1) _ _ (w, i + 1), show upd (Pl (pre ++ prL win w i) b2) (pre ++ prL win w i).length (nI (i + 1)) = Pl (pre ++ prL win w i ++ [(w, i + 1)]) b2 from rwO_snoc (fun q => nI q.2) _ _ (w, i + 1), show upd (Pm v (pre ++ prL win w i) b3) (pre ++ prL win w i).length (nI (v w) - nI (v (i + 1))) = Pm v (pre ++ prL win w i ++ [(w, i + 1)]) b3 from rwO_snoc (fun q => nI (v q.1) - nI (v q.2)) _ _ (w, i + 1)]
        rw [List.length_append (as := pre ++ prL win w i) (bs := [(w, i + 1)])]; rfl
      · rw [if_pos rfl, prL_y h, nI_1]
theorem d_nI {v : Nat → Nat} {a b : Nat} (h : v b ≤ v a) : nI (v a) - nI (v b) = nI (v a - v b) := pk_sub h
/-- what a race keeps of its tally -/
theorem e_pairUp {N : Nat} (hN : 100010 ≤ N) {tl pm wb pw pl : Nat → Int32} {k0 m0 : Int32} {v : Nat → Nat} (ht : ∀ m, m < 8 → tl m = nI (v m)) (hv : ∀ m, v m ≤ 300) {c w : Nat} (hc : c ≤ 6) (hw1 : 0 < w) (hw : w < c) :
    f_X2_pairUp N k0 (nI c) (nI w) m0 pm wb pw pl tl = some (nI (prs (wn v c w) c).length, nI (mgN v (prs (wn v c w) c)), Pm v (prs (wn v c w) c) pm, wrw (wn v c w) wb c, Pw (prs (wn v c w) c) pw, Pl (prs (wn v c w) c) pl) := by
  unfold f_X2_pairUp
  have hlen := prs_len (win := wn v c w) hc
  have hne := prs_ne (v := v) hw1 hw
  have hmem : ∀ q ∈ prs (wn v c w) c, v q.2 ≤ v q.1 := fun q hq => wn_ge (prW_mem hq).1.2.2 (prW_mem hq).2.2.2
  generalize hls : prs (wn v c w) c = ls at hlen hne hmem
  -- the margin's loop
  have l89 : ∀ n, 100000 ≤ n → f_X2_pairUp_L89 n (1 : Int32) (nI ls.length) (Pm v ls pm 0) (Pm v ls pm) (wrw (wn v c w) wb c) (Pw ls pw) (Pl ls pl) = some (nI ls.length, nI (mgN v ls), Pm v ls pm, wrw (wn v c w) wb c, Pw ls pw, Pl ls pl) := by
    intro n hn
    have h0 : 0 < ls.length := List.length_pos_iff.mpr hne
    have q0 : ls[0]? = some ls[0] := List.getElem?_eq_getElem h0
    have hb : ∀ q : Nat × Nat, v q.1 - v q.2 ≤ 300 := fun q => Nat.le_trans (Nat.sub_le _ _) (hv q.1)
    have e1 : Pm v ls pm 0 = nI (mgN v (ls.take (0 + 1))) := by
      rw [Pm_at q0, d_nI (hmem _ (List.getElem_mem h0)), tk q0, mgN_snoc]
      have := hb ls[0]
      rw [if_pos (show v ls[0].1 - v ls[0].2 < mgN v (ls.take 0) by show _ < 1000000000; omega)]
    rw [e1]
    refine lp (L := fun n i => f_X2_pairUp_L89 n (nI (i + 1)) (nI ls.length) (nI (mgN v (ls.take (i + 1)))) (Pm v ls pm) (wrw (wn v c w) wb c) (Pw ls pw) (Pl ls pl)) (hi := ls.length - 1) ?_ ?_ n 0 (Nat.zero_le _) (by omega)
    · intro n
      show f_X2_pairUp_L89 (n + 1) (nI (ls.length - 1 + 1)) (nI ls.length) (nI (mgN v (ls.take (ls.length - 1 + 1)))) (Pm v ls pm) (wrw (wn v c w) wb c) (Pw ls pw) (Pl ls pl) = _
      rw [show ls.length - 1 + 1 = ls.length by omega, List.take_length, f_X2_pairUp_L89, if_pos (nI_le (Nat.le_refl _) (by omega))]
    · intro n i hi
      show f_X2_pairUp_L89 (n + 1) (nI (i + 1)) (nI ls.length) (nI (mgN v (ls.take (i + 1)))) (Pm v ls pm) (wrw (wn v c w) wb c) (Pw ls pw) (Pl ls pl) = f_X2_pairUp_L89 n (nI (i + 1 + 1)) (nI ls.length) (nI (mgN v (ls.take (i + 1 + 1)))) (Pm v ls pm) (wrw (wn v c w) wb c) (Pw ls pw) (Pl ls pl)
      have hi2 : i + 1 < ls.length := by omega
      have qi : ls[i + 1]? = some ls[i + 1] := List.getElem?_eq_getElem hi2
      have ht1 := mgN_top v (ls.take (i + 1))
      have hbi := hb ls[i + 1]
      rw [f_X2_pairUp_L89, if_neg (nI_ge hi2 (by omega)), gd_nI (j := i + 1) (by omega) (by decide), ob, cl_nI (j := i + 1) (by omega), Pm_at qi, d_nI (hmem _ (List.getElem_mem hi2)), tk qi, mgN_snoc, nI_1]
      unfold imin
      by_cases h : v ls[i + 1].1 - v ls[i + 1].2 < mgN v (ls.take (i + 1))
      · rw [if_pos (nI_lt h (by omega)), if_pos h]
      · rw [if_neg (nI_nlt (by omega) (by omega)), if_neg h]
  have l38 : ∀ n, 100000 ≤ n → f_X2_pairUp_L38 N (nI c) tl n (1 : Int32) (0 : Int32) m0 pm (wrw (wn v c w) wb c) pw pl = some (nI ls.length, nI (mgN v ls), Pm v ls pm, wrw (wn v c w) wb c, Pw ls pw, Pl ls pl) := by
    intro n hn
    refine lp (L := fun n i => f_X2_pairUp_L38 N (nI c) tl n (nI (i + 1)) (nI (prW (wn v c w) c i).length) m0 (Pm v (prW (wn v c w) c i) pm) (wrw (wn v c w) wb c) (Pw (prW (wn v c w) c i) pw) (Pl (prW (wn v c w) c i) pl)) (hi := c) ?_ ?_ n 0 (Nat.zero_le _) (by omega)
    · intro n
      show f_X2_pairUp_L38 N (nI c) tl (n + 1) (nI (c + 1)) (nI (prs (wn v c w) c).length) m0 (Pm v (prs (wn v c w) c) pm) (wrw (wn v c w) wb c) (Pw (prs (wn v c w) c) pw) (Pl (prs (wn v c w) c) pl) = _
      rw [hls, f_X2_pairUp_L38, if_pos (nI_lt (by omega) (by omega)), if_neg (nI_ne0 (List.length_pos_iff.mpr hne) (by omega)), ob]
      exact l89 N (by omega)
    · intro n i hi
      show f_X2_pairUp_L38 N (nI c) tl (n + 1) (nI (i + 1)) (nI (prW (wn v c w) c i).length) m0 (Pm v (prW (wn v c w) c i) pm) (wrw (wn v c w) wb c) (Pw (prW (wn v c w) c i) pw) (Pl (prW (wn v c w) c i) pl) = f_X2_pairUp_L38 N (nI c) tl n (nI (i + 1 + 1)) (nI (prW (wn v c w) c (i + 1)).length) m0 (Pm v (prW (wn v c w) c (i + 1)) pm) (wrw (wn v c w) wb c) (Pw (prW (wn v c w) c (i + 1)) pw) (Pl (prW (wn v c w) c (i + 1)) pl)
      rw [f_X2_pairUp_L38, if_neg (nI_nlt (by omega) (by omega)), gd_nI (j := i + 1) (by omega) (by decide), cl_nI (j := i + 1) (by omega), wrw_in (by omega) (by omega), bi_if]
      cases h : wn v c w (i + 1)
      · rw [if_neg (by decide), prW_n h, nI_1]
      · rw [if_pos rfl, e_pairWithLosers hN ht hc (by omega) (fun j h1 h2 => wrw_in h1 h2) (prW (wn v c w) c i) (by rw [← prW_y h]; exact Nat.le_trans (prW_mono (by omega)) (by rw [hls]; exact hlen)), ob, prW_y h, nI_1]
  refine lp (L := fun n i => f_X2_pairUp_L2 N (nI c) (nI w) tl n (nI (i + 1)) k0 m0 pm (wrw (wn v c w) wb i) pw pl) (hi := c) ?_ ?_ N 0 (Nat.zero_le _) (by omega) |> fun z => by
    have e : wrw (wn v c w) wb 0 = wb := wrw_0 _ _
    simp only [e] at z
    exact z
  · intro n
    show f_X2_pairUp_L2 N (nI c) (nI w) tl (n + 1) (nI (c + 1)) k0 m0 pm (wrw (wn v c w) wb c) pw pl = _
    rw [f_X2_pairUp_L2, if_pos (nI_lt (by omega) (by omega))]
    exact l38 N (by omega)
  · intro n i hi
    show f_X2_pairUp_L2 N (nI c) (nI w) tl (n + 1) (nI (i + 1)) k0 m0 pm (wrw (wn v c w) wb i) pw pl = f_X2_pairUp_L2 N (nI c) (nI w) tl n (nI (i + 1 + 1)) k0 m0 pm (wrw (wn v c w) wb (i + 1)) pw pl
    rw [f_X2_pairUp_L2, if_neg (nI_nlt (by omega) (by omega)), e_isWinner hN ht hv (by omega) (by omega) hc hw, ob, gd_nI (j := i + 1) (by omega) (by decide), cl_nI (j := i + 1) (by omega), bi_nar, wrw_s, nI_1]
end PURE4
