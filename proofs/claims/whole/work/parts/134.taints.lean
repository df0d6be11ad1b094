/-! PURE, 5: what the model knows of a race; taints. -/
section PURE5
theorem k81 {cs W V : Nat → Int32} {v : Nat → Nat} {win : Nat → Bool} {r c a : Nat} (hr5 : r < 5) (hc : c ≤ 6) (ecs : cs r = nI c) (hv : ∀ m, v m ≤ 300) (hge : ∀ x y, win x = true → win y = false → v y ≤ v x) (hW : ∀ j, 1 ≤ j → j ≤ c → W j = bi (win j)) (hV : ∀ j, 1 ≤ j → j ≤ c → V j = nI (v j)) (ha1 : 1 ≤ a) (hac : a ≤ c) (hh : Int32)
    (k : Int32 → Int32 → Int32 → (Nat → Int32) → (Nat → Int32) → Option (Int32 × Int32 × (Nat → Int32) × (Nat → Int32))) (pre : List (Nat × Nat)) {n : Nat} (hn : 100000 ≤ n) :
    f_X6_knows_L81 (nI r) cs k n (nI a) (1 : Int32) (nI (mgN v pre)) hh W V = k (nI (a + 1)) (nI (mgN v (if win a then pre ++ prL win a c else pre))) hh W V := by
  have key := lp (L := fun n i => f_X6_knows_L81 (nI r) cs k n (nI a) (nI (i + 1)) (nI (mgN v (if win a then pre ++ prL win a i else pre))) hh W V) (r := k (nI (a + 1)) (nI (mgN v (if win a then pre ++ prL win a c else pre))) hh W V) (hi := c) ?_ ?_ n 0 (Nat.zero_le _) (by omega)
  · have e : (if win a then pre ++ prL win a 0 else pre) = pre := by split; exact List.append_nil _; rfl
    simp only [e] at key
    exact key
  · intro n
    show f_X6_knows_L81 (nI r) cs k (n + 1) (nI a) (nI (c + 1)) (nI (mgN v (if win a then pre ++ prL win a c else pre))) hh W V = _
    rw [f_X6_knows_L81, gd_nI (j := r) hr5 (by decide), cl_nI (j := r) (by omega), ecs, if_pos (nI_lt (by omega) (by omega)), nI_1]
  · intro n i hi
    show f_X6_knows_L81 (nI r) cs k (n + 1) (nI a) (nI (i + 1)) (nI (mgN v (if win a then pre ++ prL win a i else pre))) hh W V = f_X6_knows_L81 (nI r) cs k n (nI a) (nI (i + 1 + 1)) (nI (mgN v (if win a then pre ++ prL win a (i + 1) else pre))) hh W V
    rw [f_X6_knows_L81, gd_nI (j := r) hr5 (by decide), cl_nI (j := r) (by omega), ecs, if_neg (nI_nlt (by omega) (by omega)), gd_nI (j := a) (n := 7) (by omega) (by decide), cl_nI (j := a) (by omega), hW a ha1 hac, bi_if]
    cases h : win a
    · rw [if_neg (by decide), nI_1]
      simp only [Bool.false_eq_true, if_false]
    · simp only [if_true]
      rw [gd_nI (j := i + 1) (n := 7) (by omega) (by decide), cl_nI (j := i + 1) (by omega), hW (i + 1) (by omega) (by omega), bi_if]
      cases h2 : win (i + 1)
      · rw [if_neg (by decide), gd_nI (j := a) (n := 7) (by omega) (by decide), gd_nI (j := i + 1) (n := 7) (by omega) (by decide), gd_nI (j := a) (n := 7) (by omega) (by decide), gd_nI (j := i + 1) (n := 7) (by omega) (by decide), hV a ha1 hac, hV (i + 1) (by omega) (by omega), d_nI (hge a (i + 1) h h2), ob, nI_1, prL_n h2, ← List.append_assoc, mgN_snoc]
        have hb : v a - v (i + 1) ≤ 300 := Nat.le_trans (Nat.sub_le _ _) (hv a)
        have ht := mgN_top v (pre ++ prL win a i)
        by_cases h3 : v a - v (i + 1) < mgN v (pre ++ prL win a i)
        · rw [if_neg (nI_ge h3 (by omega)), if_pos h3]
        · rw [if_pos (nI_le (by omega) (by omega)), if_neg h3]
      · rw [if_pos rfl, nI_1, prL_y h2]
theorem e_knows {N : Nat} (hN : 100010 ≤ N) (wd lo hr hd cs ws iw vv : Nat → Int32) {m0 : Int32} {np r c w : Nat} (hnp : np ≤ 300) (hr5 : r < 5) (hc : c ≤ 6) (hw1 : 0 < w) (hw : w < c) (ecs : cs r = nI c) (ews : ws r = nI w) {v : Nat → Nat} (hv : v = vt wd lo hr hd np r false) :
    f_X6_knows N (nI r) (nI np) m0 wd lo hr hd cs iw vv ws = some (nI (mgN v (prs (wn v c w) c)), nI (np - v 7), wrw (wn v c w) iw c, vrw v vv c) := by
  have hv3 : ∀ m, v m ≤ 300 := fun m => by rw [hv]; exact Nat.le_trans (vt_le _ _ _ _ _ _ _ _) hnp
  have hge : ∀ x y, wn v c w x = true → wn v c w y = false → v y ≤ v x := fun x y => wn_ge
  unfold f_X6_knows
  have e7 : f_X6_votesOf N (nI r) (7 : Int32) (0 : Int32) (nI np) wd lo hr hd = some (nI (v 7)) := by rw [hv]; exact e_votesOf hN wd lo hr hd false hnp hr5 (by decide)
  rw [e7, ob, pk_sub (by rw [hv]; exact vt_le _ _ _ _ _ _ _ _)]
  have l69 : ∀ n, 100000 ≤ n → f_X6_knows_L69 N (nI r) cs n (1 : Int32) (1000000000 : Int32) (nI (np - v 7)) (wrw (wn v c w) iw c) (vrw v vv c) = some (nI (mgN v (prs (wn v c w) c)), nI (np - v 7), wrw (wn v c w) iw c, vrw v vv c) := by
    intro n hn
    refine lp (L := fun n i => f_X6_knows_L69 N (nI r) cs n (nI (i + 1)) (nI (mgN v (prW (wn v c w) c i))) (nI (np - v 7)) (wrw (wn v c w) iw c) (vrw v vv c)) (hi := c) ?_ ?_ n 0 (Nat.zero_le _) (by omega)
    · intro n
      show f_X6_knows_L69 N (nI r) cs (n + 1) (nI (c + 1)) (nI (mgN v (prW (wn v c w) c c))) (nI (np - v 7)) (wrw (wn v c w) iw c) (vrw v vv c) = _
      rw [f_X6_knows_L69, gd_nI (j := r) hr5 (by decide), cl_nI (j := r) (by omega), ecs, if_pos (nI_lt (by omega) (by omega))]
    · intro n i hi
      show f_X6_knows_L69 N (nI r) cs (n + 1) (nI (i + 1)) (nI (mgN v (prW (wn v c w) c i))) (nI (np - v 7)) (wrw (wn v c w) iw c) (vrw v vv c) = f_X6_knows_L69 N (nI r) cs n (nI (i + 1 + 1)) (nI (mgN v (prW (wn v c w) c (i + 1)))) (nI (np - v 7)) (wrw (wn v c w) iw c) (vrw v vv c)
      rw [f_X6_knows_L69, gd_nI (j := r) hr5 (by decide), cl_nI (j := r) (by omega), ecs, if_neg (nI_nlt (by omega) (by omega)), k81 hr5 hc ecs hv3 hge (fun j h1 h2 => wrw_in h1 h2) (fun j h1 h2 => vrw_in h1 h2) (by omega) (by omega) _ _ _ (by omega)]
      rfl
  have key := lp (L := fun n i => f_X6_knows_L19 N (nI r) (nI np) wd lo hr hd cs ws n (nI (i + 1)) m0 (nI (np - v 7)) (wrw (wn v c w) iw i) (vrw v vv i)) (r := some (nI (mgN v (prs (wn v c w) c)), nI (np - v 7), wrw (wn v c w) iw c, vrw v vv c)) (hi := c) ?_ ?_ N 0 (Nat.zero_le _) (by omega)
  · simp only [wrw_0, vrw_0] at key
    exact key
  · intro n
    show f_X6_knows_L19 N (nI r) (nI np) wd lo hr hd cs ws (n + 1) (nI (c + 1)) m0 (nI (np - v 7)) (wrw (wn v c w) iw c) (vrw v vv c) = _
    rw [f_X6_knows_L19, gd_nI (j := r) hr5 (by decide), cl_nI (j := r) (by omega), ecs, if_pos (nI_lt (by omega) (by omega))]
    exact l69 N (by omega)
  · intro n i hi
    show f_X6_knows_L19 N (nI r) (nI np) wd lo hr hd cs ws (n + 1) (nI (i + 1)) m0 (nI (np - v 7)) (wrw (wn v c w) iw i) (vrw v vv i) = f_X6_knows_L19 N (nI r) (nI np) wd lo hr hd cs ws n (nI (i + 1 + 1)) m0 (nI (np - v 7)) (wrw (wn v c w) iw (i + 1)) (vrw v vv (i + 1))
    have e1 : f_X6_votesOf N (nI r) (nI (i + 1)) (0 : Int32) (nI np) wd lo hr hd = some (nI (v (i + 1))) := by rw [hv]; exact e_votesOf hN wd lo hr hd false hnp hr5 (by omega)
    have e2 : f_X6_winsBy N (nI r) (nI (i + 1)) (0 : Int32) (nI np) wd lo hr hd cs ws = some (bi (wn v c w (i + 1))) := by rw [hv]; exact e_winsBy hN wd lo hr hd cs ws false hnp hr5 (by omega) (by omega) hc hw ecs ews
    rw [f_X6_knows_L19, gd_nI (j := r) hr5 (by decide), cl_nI (j := r) (by omega), ecs, if_neg (nI_nlt (by omega) (by omega)), e1, ob, gd_nI (j := i + 1) (n := 7) (by omega) (by decide), e2, ob, gd_nI (j := i + 1) (n := 7) (by omega) (by decide), cl_nI (j := i + 1) (by omega), bi_nar, wrw_s, vrw_s, nI_1]
/-- what a mark gives a winner less what it gives a loser -/
def ld (m : Nat) (q : Nat × Nat) : Int32 := if m = q.1 then 1 else if m = q.2 then -1 else 0
theorem e_lead {m a b : Nat} (hm : m < 8) (ha : a < 8) (hb : b < 8) : f_X4_lead (nI m) (nI a) (nI b) = some (ld m (a, b)) := by
  unfold f_X4_lead ld
  by_cases h1 : m = a
  · rw [if_pos (by rw [h1])]; exact congrArg some (if_pos h1).symm
  · rw [if_neg (fun q => h1 ((nI_eq (by omega) (by omega)).mp q))]
    by_cases h2 : m = b
    · rw [if_pos (by rw [h2])]; exact congrArg some (by rw [if_neg h1, if_pos h2])
    · rw [if_neg (fun q => h2 ((nI_eq (by omega) (by omega)).mp q))]; exact congrArg some (by rw [if_neg h1, if_neg h2])
theorem e_gives {m a b : Nat} (hm : m < 8) (ha : a < 8) (hb : b < 8) (hab : a ≠ b) : f_X6_gives (nI m) (nI a) (nI b) = some (ld m (a, b)) := by
  unfold f_X6_gives ld
  by_cases h1 : m = a
  · rw [if_pos (by rw [h1]), if_neg (fun q => hab (h1.symm.trans ((nI_eq (by omega) (by omega)).mp q)))]; exact congrArg some (by rw [if_pos h1]; decide)
  · rw [if_neg (fun q => h1 ((nI_eq (by omega) (by omega)).mp q))]
    by_cases h2 : m = b
    · rw [if_pos (by rw [h2])]; exact congrArg some (by rw [if_neg h1, if_pos h2]; decide)
    · rw [if_neg (fun q => h2 ((nI_eq (by omega) (by omega)).mp q))]; exact congrArg some (by rw [if_neg h1, if_neg h2]; decide)
theorem ld_sub (m k : Nat) (q : Nat × Nat) : ld m q + (-ld k q) = ld m q - ld k q := by
  unfold ld
  repeat' split
  all_goals decide
/-- X of a pair -/
def gq (wd lo hr hd : Nat → Int32) (r p : Nat) (q : Nat × Nat) : Int32 := if lo p = 0 then ld (mk (wd p) r) q - ld (rg hr hd p r) q else ld (mk (wd p) r) q + 1
theorem gq_rng (wd lo hr hd : Nat → Int32) (r p : Nat) (q : Nat × Nat) : -2 ≤ (gq wd lo hr hd r p q).toInt ∧ (gq wd lo hr hd r p q).toInt ≤ 2 := by
  unfold gq ld
  repeat' split
  all_goals decide
def dq (v : Nat → Nat) (q : Nat × Nat) : Int32 := nI (v q.1 - v q.2)
/-- one pair more: the greatest X / m so far, of like ones the first -/
def tst (g d : Nat × Nat → Int32) (s : Option (Int32 × Int32)) (q : Nat × Nat) : Option (Int32 × Int32) := match s with
  | none => some (g q, d q)
  | some t => if g q * t.2 ≤ t.1 * d q then some t else some (g q, d q)
theorem tst_k {g d : Nat × Nat → Int32} {z : Int32 × Int32} {q : Nat × Nat} (h : g q * z.2 ≤ z.1 * d q) : tst g d (some z) q = some z := if_pos h
theorem tst_s {g d : Nat × Nat → Int32} {z : Int32 × Int32} {q : Nat × Nat} (h : ¬ g q * z.2 ≤ z.1 * d q) : tst g d (some z) q = some (g q, d q) := if_neg h
def tn (g d : Nat × Nat → Int32) (ls : List (Nat × Nat)) : Option (Int32 × Int32) := ls.foldl (tst g d) none
theorem tn_snoc (g d : Nat × Nat → Int32) (ls : List (Nat × Nat)) (q : Nat × Nat) : tn g d (ls ++ [q]) = tst g d (tn g d ls) q := by unfold tn; rw [List.foldl_append]; rfl
theorem tn_go {g d : Nat × Nat → Int32} : ∀ {ls : List (Nat × Nat)} {s t : Option (Int32 × Int32)} {L : List (Nat × Nat)}, ls.foldl (tst g d) s = t → (∀ z, s = some z → ∃ q ∈ L, z = (g q, d q)) → (∀ q ∈ ls, q ∈ L) → ∀ z, t = some z → ∃ q ∈ L, z = (g q, d q)
  | [], s, t, L, h, hs, _ => by intro z hz; exact hs z (by rw [← hz, ← h]; rfl)
  | q :: ls, s, t, L, h, hs, hl => by
    rw [List.foldl_cons] at h
    refine tn_go h ?_ (fun x hx => hl x (List.mem_cons_of_mem _ hx))
    intro z hz
    unfold tst at hz
    split at hz
    · exact ⟨q, hl q List.mem_cons_self, (Option.some.inj hz).symm⟩
    · split at hz
      · exact hs z hz
      · exact ⟨q, hl q List.mem_cons_self, (Option.some.inj hz).symm⟩
theorem tn_mem {g d : Nat × Nat → Int32} {ls : List (Nat × Nat)} {z : Int32 × Int32} (h : tn g d ls = some z) : ∃ q ∈ ls, z = (g q, d q) := tn_go (L := ls) h (fun _ h => by cases h) (fun _ h => h) z rfl
theorem tst_some (g d : Nat × Nat → Int32) (s : Option (Int32 × Int32)) (q : Nat × Nat) : ∃ z, tst g d s q = some z := by
  unfold tst
  split
  · exact ⟨_, rfl⟩
  · split <;> exact ⟨_, rfl⟩
theorem tn_go2 {g d : Nat × Nat → Int32} : ∀ {ls : List (Nat × Nat)} {z : Int32 × Int32}, ∃ t, ls.foldl (tst g d) (some z) = some t
  | [], z => ⟨z, rfl⟩
  | q :: ls, z => by
    rw [List.foldl_cons]
    obtain ⟨y, e⟩ := tst_some g d (some z) q
    rw [e]; exact tn_go2
theorem tn_some {g d : Nat × Nat → Int32} {ls : List (Nat × Nat)} (h : ls ≠ []) : ∃ z, tn g d ls = some z := by
  cases ls with
  | nil => exact absurd rfl h
  | cons q t => exact tn_go2 (ls := t) (z := (g q, d q))
abbrev ox (s : Option (Int32 × Int32)) (a : Int32) : Int32 := s.elim a Prod.fst
abbrev om (s : Option (Int32 × Int32)) (a : Int32) : Int32 := s.elim a Prod.snd
theorem dq_pos {v : Nat → Nat} (hv : ∀ m, v m ≤ 300) {q : Nat × Nat} (h : 0 < v q.1 - v q.2) : ¬ dq v q ≤ 0 := nI_nle h (by have := hv q.1; omega)
theorem i_nle {a b : Int32} : a < b ↔ ¬ b ≤ a := by
  rw [fa_lt, fa_le]; omega
theorem t20 {N : Nat} (hN : 100010 ≤ N) {cs W V wd lo hr hd : Nat → Int32} {v : Nat → Nat} {win : Nat → Bool} {p r c a : Nat} (hp : p < 300) (hr5 : r < 5) (hc : c ≤ 6) (ecs : cs r = nI c) (hv : ∀ m, v m ≤ 300) (hge : ∀ x y, 1 ≤ x → x ≤ c → 1 ≤ y → y ≤ c → win x = true → win y = false → v y < v x) (hW : ∀ j, 1 ≤ j → j ≤ c → W j = bi (win j)) (hV : ∀ j, 1 ≤ j → j ≤ c → V j = nI (v j)) (ha1 : 1 ≤ a) (hac : a ≤ c)
    (k : Int32 → Int32 → Int32 → Option (Int32 × Int32)) (x0 : Int32) (pre : List (Nat × Nat)) (hpre : ∀ q ∈ pre, 0 < v q.1 - v q.2) {n : Nat} (hn : 100000 ≤ n) :
    f_X6_taints_L20 N (nI p) (nI r) cs W wd lo hr hd V k n (nI a) (1 : Int32) (ox (tn (gq wd lo hr hd r p) (dq v) pre) x0) (om (tn (gq wd lo hr hd r p) (dq v) pre) 0)
      = k (nI (a + 1)) (ox (tn (gq wd lo hr hd r p) (dq v) (if win a then pre ++ prL win a c else pre)) x0) (om (tn (gq wd lo hr hd r p) (dq v) (if win a then pre ++ prL win a c else pre)) 0) := by
  have key := lp (L := fun n i => f_X6_taints_L20 N (nI p) (nI r) cs W wd lo hr hd V k n (nI a) (nI (i + 1)) (ox (tn (gq wd lo hr hd r p) (dq v) (if win a then pre ++ prL win a i else pre)) x0) (om (tn (gq wd lo hr hd r p) (dq v) (if win a then pre ++ prL win a i else pre)) 0)) (r := k (nI (a + 1)) (ox (tn (gq wd lo hr hd r p) (dq v) (if win a then pre ++ prL win a c else pre)) x0) (om (tn (gq wd lo hr hd r p) (dq v) (if win a then pre ++ prL win a c else pre)) 0)) (hi := c) ?_ ?_ n 0 (Nat.zero_le _) (by omega)
  · have e : (if win a then pre ++ prL win a 0 else pre) = pre := by split; exact List.append_nil _; rfl
    simp only [e] at key
    exact key
  · intro n
    show f_X6_taints_L20 N (nI p) (nI r) cs W wd lo hr hd V k (n + 1) (nI a) (nI (c + 1)) _ _ = _
    rw [f_X6_taints_L20, gd_nI (j := r) hr5 (by decide), cl_nI (j := r) (by omega), ecs, if_pos (nI_lt (by omega) (by omega)), nI_1]
  · intro n i hi
    show f_X6_taints_L20 N (nI p) (nI r) cs W wd lo hr hd V k (n + 1) (nI a) (nI (i + 1)) _ _ = f_X6_taints_L20 N (nI p) (nI r) cs W wd lo hr hd V k n (nI a) (nI (i + 1 + 1)) _ _
    rw [f_X6_taints_L20, gd_nI (j := r) hr5 (by decide), cl_nI (j := r) (by omega), ecs, if_neg (nI_nlt (by omega) (by omega)), gd_nI (j := a) (n := 7) (by omega) (by decide), cl_nI (j := a) (by omega), hW a ha1 hac, bi_if]
    cases h : win a
    · rw [if_neg (by decide), nI_1]
      simp only [Bool.false_eq_true, if_false]
    · simp only [if_true]
      rw [gd_nI (j := i + 1) (n := 7) (by omega) (by decide), cl_nI (j := i + 1) (by omega), hW (i + 1) (by omega) (by omega), bi_if]
      cases h2 : win (i + 1)
      · have hlt := hge a (i + 1) ha1 hac (by omega) (by omega) h h2
        have hne : a ≠ i + 1 := fun e => by rw [e, h2] at h; cases h
        have hd1 : nI (v a) - nI (v (i + 1)) = dq v (a, i + 1) := d_nI (Nat.le_of_lt hlt)
        rw [if_neg (by decide), gd_nI (j := p) hp (by decide), cl_nI (j := p) (by omega), e_of _ hr5, ob, e_gives (mk_lt _ _) (by omega) (by omega) hne, ob, gd_nI (j := p) hp (by decide), prL_n h2, ← List.append_assoc, tn_snoc]
        have hpos : ∀ z, tn (gq wd lo hr hd r p) (dq v) (pre ++ prL win a i) = some z → ¬ z.2 ≤ 0 := by
          intro z hz
          obtain ⟨q, hq, rfl⟩ := tn_mem hz
          refine dq_pos hv ?_
          rcases List.mem_append.mp hq with hq | hq
          · exact hpre q hq
          · have := prL_mem hq
            have := hge q.1 q.2 (by omega) (by omega) this.2.1 (by omega) (by rw [this.1]; exact h) this.2.2.2
            omega
        have hg : gq wd lo hr hd r p (a, i + 1) = if lo p = 0 then ld (mk (wd p) r) (a, i + 1) - ld (rg hr hd p r) (a, i + 1) else ld (mk (wd p) r) (a, i + 1) + 1 := rfl
        by_cases hl : lo p = 0
        · rw [if_pos hl] at hg
          rw [if_pos hl, e_readingOf hN hp hr5, ob, e_gives (rg_lt _ _ _ _) (by omega) (by omega) hne, ob, gd_nI (j := a) (n := 7) (by omega) (by decide), gd_nI (j := i + 1) (n := 7) (by omega) (by decide), hV a ha1 hac, hV (i + 1) (by omega) (by omega), hd1, ob, ld_sub, ← hg, nI_1]
          cases hs : tn (gq wd lo hr hd r p) (dq v) (pre ++ prL win a i) with
          | none => exact if_pos (by decide)
          | some z =>
            show (if z.2 ≤ 0 then _ else if z.1 * dq v (a, i + 1) < gq wd lo hr hd r p (a, i + 1) * z.2 then _ else _) = _
            rw [if_neg (hpos z hs)]
            by_cases hq : gq wd lo hr hd r p (a, i + 1) * z.2 ≤ z.1 * dq v (a, i + 1)
            · rw [if_neg (fun e => i_nle.mp e hq), tst_k hq]
            · rw [if_pos (i_nle.mpr hq), tst_s hq]; rfl
        · rw [if_neg hl] at hg
          rw [if_neg hl, gd_nI (j := a) (n := 7) (by omega) (by decide), gd_nI (j := i + 1) (n := 7) (by omega) (by decide), hV a ha1 hac, hV (i + 1) (by omega) (by omega), hd1, ob, ← hg, nI_1]
          cases hs : tn (gq wd lo hr hd r p) (dq v) (pre ++ prL win a i) with
          | none => exact if_pos (by decide)
          | some z =>
            show (if z.2 ≤ 0 then _ else if z.1 * dq v (a, i + 1) < gq wd lo hr hd r p (a, i + 1) * z.2 then _ else _) = _
            rw [if_neg (hpos z hs)]
            by_cases hq : gq wd lo hr hd r p (a, i + 1) * z.2 ≤ z.1 * dq v (a, i + 1)
            · rw [if_neg (fun e => i_nle.mp e hq), tst_k hq]
            · rw [if_pos (i_nle.mpr hq), tst_s hq]; rfl
      · rw [if_pos rfl, nI_1, prL_y h2]
theorem e_taints {N : Nat} (hN : 100010 ≤ N) {cs W V wd lo hr hd : Nat → Int32} {v : Nat → Nat} {win : Nat → Bool} {p r c : Nat} (hp : p < 300) (hr5 : r < 5) (hc : c ≤ 6) (ecs : cs r = nI c) (hv : ∀ m, v m ≤ 300) (hge : ∀ x y, 1 ≤ x → x ≤ c → 1 ≤ y → y ≤ c → win x = true → win y = false → v y < v x) (hW : ∀ j, 1 ≤ j → j ≤ c → W j = bi (win j)) (hV : ∀ j, 1 ≤ j → j ≤ c → V j = nI (v j)) (x0 : Int32) {z : Int32 × Int32} (hz : tn (gq wd lo hr hd r p) (dq v) (prs win c) = some z) :
    f_X6_taints N (nI p) (nI r) x0 cs W wd lo hr hd V = some z := by
  unfold f_X6_taints
  refine lp (L := fun n i => f_X6_taints_L7 N (nI p) (nI r) cs W wd lo hr hd V n (nI (i + 1)) (ox (tn (gq wd lo hr hd r p) (dq v) (prW win c i)) x0) (om (tn (gq wd lo hr hd r p) (dq v) (prW win c i)) 0)) (hi := c) ?_ ?_ N 0 (Nat.zero_le _) (by omega)
  · intro n
    show f_X6_taints_L7 N (nI p) (nI r) cs W wd lo hr hd V (n + 1) (nI (c + 1)) (ox (tn (gq wd lo hr hd r p) (dq v) (prs win c)) x0) (om (tn (gq wd lo hr hd r p) (dq v) (prs win c)) 0) = _
    rw [f_X6_taints_L7, gd_nI (j := r) hr5 (by decide), cl_nI (j := r) (by omega), ecs, if_pos (nI_lt (by omega) (by omega)), hz]
    rfl
  · intro n i hi
    show f_X6_taints_L7 N (nI p) (nI r) cs W wd lo hr hd V (n + 1) (nI (i + 1)) _ _ = f_X6_taints_L7 N (nI p) (nI r) cs W wd lo hr hd V n (nI (i + 1 + 1)) _ _
    rw [f_X6_taints_L7, gd_nI (j := r) hr5 (by decide), cl_nI (j := r) (by omega), ecs, if_neg (nI_nlt (by omega) (by omega)), t20 hN hp hr5 hc ecs hv hge hW hV (by omega) (by omega) _ _ _ (fun q hq => by
      have h := prW_mem hq
      have := hge q.1 q.2 h.1.1 (by omega) h.2.1 h.2.2.1 h.1.2.2 h.2.2.2
      omega) (by omega)]
    rfl
/-- is a paper that is read or lost taken for race r -/
def tq (wd lo hr hd : Nat → Int32) (r p : Nat) : Bool := if lo p = 0 then isr hr p && (decide (mk (wd p) r ≠ 7) || decide (rg hr hd p r ≠ 7)) else decide (mk (wd p) r ≠ 7)
theorem n7 {m : Nat} (h : m < 8) : nI m = (7 : Int32) ↔ m = 7 := nI_eq (b := 7) (by omega) (by decide)
theorem e_isTakenC (wd lo hr hd : Nat → Int32) (r p : Nat) : f_X4_isTaken (nI (mk (wd p) r)) (hk hr hd p r) (lo p) = some (bi (tq wd lo hr hd r p)) := by
  have h1 := n7 (mk_lt (wd p) r)
  have h2 := n7 (rg_lt hr hd p r)
  have h3 := nm1 (rg_lt hr hd p r)
  unfold f_X4_isTaken tq hk
  by_cases hl : lo p = 0
  · rw [if_pos hl, if_pos hl]
    cases isr hr p
    · rfl
    · simp only [if_true, Bool.true_and, h1, h2]
      rw [if_neg h3]
      by_cases a : mk (wd p) r = 7 <;> by_cases b : rg hr hd p r = 7 <;> simp [a, b, bi]
  · rw [if_neg hl, if_neg hl]
    simp only [h1]
    by_cases a : mk (wd p) r = 7 <;> simp [a, bi]
theorem e_isTakenM {N : Nat} (hN : 100010 ≤ N) (wd lo hr hd : Nat → Int32) {r p : Nat} (hp : p < 300) (hr5 : r < 5) (hk : kn lo hr p = true) : f_X6_isTaken N (nI p) (nI r) wd lo hr hd = some (bi (tq wd lo hr hd r p)) := by
  have h1 := n7 (mk_lt (wd p) r)
  have h2 := n7 (rg_lt hr hd p r)
  unfold f_X6_isTaken tq
  rw [gd_nI (j := p) hp (by decide), cl_nI (j := p) (by omega), e_of _ hr5, ob, gd_nI (j := p) hp (by decide), e_readingOf hN hp hr5, ob]
  simp only [h1, h2]
  by_cases hl : lo p = 0
  · rw [kn_0 hl] at hk
    by_cases a : mk (wd p) r = 7 <;> by_cases b : rg hr hd p r = 7 <;> simp [a, b, bi, hl, hk]
  · by_cases a : mk (wd p) r = 7 <;> simp [a, bi, hl]
/-- the class's X and m of a paper -/
def wg (wd lo hr hd : Nat → Int32) (v : Nat → Nat) (ls : List (Nat × Nat)) (r p : Nat) : Int32 := if tq wd lo hr hd r p then ox (tn (gq wd lo hr hd r p) (dq v) ls) (-10) else -10
def wm (wd lo hr hd : Nat → Int32) (v : Nat → Nat) (ls : List (Nat × Nat)) (r p : Nat) : Int32 := if tq wd lo hr hd r p then om (tn (gq wd lo hr hd r p) (dq v) ls) 1 else 1
theorem e_weigh {N : Nat} (hN : 100010 ≤ N) {wd ho hw lo hr G M pm pw pl : Nat → Int32} {v : Nat → Nat} {ls : List (Nat × Nat)} {r p : Nat} (H : HO ho hr) (hp : p < 300) (hr5 : r < 5) (hlen : ls.length ≤ 9) (hin : ∀ q ∈ ls, q.1 < 8 ∧ q.2 < 8)
    (hpw : ∀ i q, ls[i]? = some q → pw i = nI q.1 ∧ pl i = nI q.2 ∧ pm i = dq v q) :
    f_X4_weigh N (nI p) (nI r) wd ho hw lo G M (nI ls.length) pm pw pl = some (upd G p (wg wd lo hr hw v ls r p), upd M p (wm wd lo hr hw v ls r p)) := by
  unfold f_X4_weigh
  rw [e_wordMark hp hr5, ob, e_handsMark H hp hr5, ob, gd_nI (j := p) hp (by decide), gd_nI (j := p) hp (by decide), gd_nI (j := p) hp (by decide), cl_nI (j := p) (by omega), e_isTakenC, ob, bi_if]
  unfold wg wm
  cases ht : tq wd lo hr hw r p
  · rfl
  · simp only [if_true]
    have hk1 : lo p = 0 → hk hr hw p r = nI (rg hr hw p r) := by
      intro hl
      unfold tq at ht
      rw [if_pos hl] at ht
      unfold hk
      cases e : isr hr p
      · rw [e] at ht; cases ht
      · rfl
    have key := lp (L := fun n i => f_X4_weigh_L58 (nI p) (nI ls.length) pm pw pl n (nI (mk (wd p) r)) (hk hr hw p r) (lo p) (nI i) (upd G p (ox (tn (gq wd lo hr hw r p) (dq v) (ls.take i)) (-10))) (upd M p (om (tn (gq wd lo hr hw r p) (dq v) (ls.take i)) 1))) (r := some (upd G p (ox (tn (gq wd lo hr hw r p) (dq v) ls) (-10)), upd M p (om (tn (gq wd lo hr hw r p) (dq v) ls) 1))) (hi := ls.length) ?_ ?_ N 0 (Nat.zero_le _) (by omega)
    · exact key
    · intro n
      show f_X4_weigh_L58 (nI p) (nI ls.length) pm pw pl (n + 1) (nI (mk (wd p) r)) (hk hr hw p r) (lo p) (nI ls.length) (upd G p (ox (tn (gq wd lo hr hw r p) (dq v) (ls.take ls.length)) (-10))) (upd M p (om (tn (gq wd lo hr hw r p) (dq v) (ls.take ls.length)) 1)) = _
      rw [f_X4_weigh_L58, if_pos (nI_le (Nat.le_refl _) (by omega)), List.take_length]
    · intro n i hi
      show f_X4_weigh_L58 (nI p) (nI ls.length) pm pw pl (n + 1) (nI (mk (wd p) r)) (hk hr hw p r) (lo p) (nI i) (upd G p (ox (tn (gq wd lo hr hw r p) (dq v) (ls.take i)) (-10))) (upd M p (om (tn (gq wd lo hr hw r p) (dq v) (ls.take i)) 1)) = f_X4_weigh_L58 (nI p) (nI ls.length) pm pw pl n (nI (mk (wd p) r)) (hk hr hw p r) (lo p) (nI (i + 1)) (upd G p (ox (tn (gq wd lo hr hw r p) (dq v) (ls.take (i + 1))) (-10))) (upd M p (om (tn (gq wd lo hr hw r p) (dq v) (ls.take (i + 1))) 1))
      have qi : ls[i]? = some ls[i] := List.getElem?_eq_getElem hi
      obtain ⟨p1, p2, p3⟩ := hpw i _ qi
      obtain ⟨b1, b2⟩ := hin _ (List.getElem_mem hi)
      rw [tk qi, tn_snoc]
      generalize hq : ls[i] = q at p1 p2 p3 b1 b2
      have hg : gq wd lo hr hw r p q = if lo p = 0 then ld (mk (wd p) r) q - ld (rg hr hw p r) q else ld (mk (wd p) r) q + 1 := rfl
      rw [f_X4_weigh_L58, if_neg (nI_ge hi (by omega)), gd_nI (j := i) (n := 9) (by omega) (by decide), gd_nI (j := i) (n := 9) (by omega) (by decide), gd_nI (j := i) (n := 9) (by omega) (by decide), cl_nI (j := i) (by omega), p1, p2, p3, e_lead (mk_lt _ _) b1 b2, ob, gd_nI (j := i) (n := 9) (by omega) (by decide), gd_nI (j := i) (n := 9) (by omega) (by decide), nI_1]
      simp only [gd_nI (j := p) (n := 300) hp (by decide), cl_nI (j := p) (by omega), fa_upd_twice, pk_us]
      have fin : (if nI i = 0 then f_X4_weigh_L58 (nI p) (nI ls.length) pm pw pl n (nI (mk (wd p) r)) (hk hr hw p r) (lo p) (nI (i + 1)) (upd G p (gq wd lo hr hw r p q)) (upd M p (dq v q))
          else if gq wd lo hr hw r p q * om (tn (gq wd lo hr hw r p) (dq v) (ls.take i)) 1 ≤ ox (tn (gq wd lo hr hw r p) (dq v) (ls.take i)) (-10) * dq v q then f_X4_weigh_L58 (nI p) (nI ls.length) pm pw pl n (nI (mk (wd p) r)) (hk hr hw p r) (lo p) (nI (i + 1)) (upd G p (ox (tn (gq wd lo hr hw r p) (dq v) (ls.take i)) (-10))) (upd M p (om (tn (gq wd lo hr hw r p) (dq v) (ls.take i)) 1))
          else f_X4_weigh_L58 (nI p) (nI ls.length) pm pw pl n (nI (mk (wd p) r)) (hk hr hw p r) (lo p) (nI (i + 1)) (upd G p (gq wd lo hr hw r p q)) (upd M p (dq v q)))
          = f_X4_weigh_L58 (nI p) (nI ls.length) pm pw pl n (nI (mk (wd p) r)) (hk hr hw p r) (lo p) (nI (i + 1)) (upd G p (ox (tst (gq wd lo hr hw r p) (dq v) (tn (gq wd lo hr hw r p) (dq v) (ls.take i)) q) (-10))) (upd M p (om (tst (gq wd lo hr hw r p) (dq v) (tn (gq wd lo hr hw r p) (dq v) (ls.take i)) q) 1)) := by
        by_cases i0 : i = 0
        · subst i0
          rw [if_pos (by decide)]; rfl
        · rw [if_neg (nI_ne0 (by omega) (by omega))]
          obtain ⟨z, hz⟩ := tn_some (g := gq wd lo hr hw r p) (d := dq v) (ls := ls.take i) (by
            intro e
            have := congrArg List.length e
            rw [List.length_take] at this
            have e0 : ([] : List (Nat × Nat)).length = 0 := rfl
            omega)
          rw [hz]
          show (if gq wd lo hr hw r p q * z.2 ≤ z.1 * dq v q then _ else _) = _
          by_cases hc : gq wd lo hr hw r p q * z.2 ≤ z.1 * dq v q
          · rw [if_pos hc, tst_k hc]
          · rw [if_neg hc, tst_s hc]; rfl
      rw [← fin]
      by_cases hl : lo p = 0
      · rw [if_pos hl] at hg
        rw [if_pos hl]
        simp only [hk1 hl]
        rw [e_lead (rg_lt _ _ _ _) b1 b2, ob, show ld (mk (wd p) r) (q.1, q.2) - ld (rg hr hw p r) (q.1, q.2) = gq wd lo hr hw r p q from hg.symm]
      · rw [if_neg hl] at hg
        rw [if_neg hl, show ld (mk (wd p) r) (q.1, q.2) + 1 = gq wd lo hr hw r p q from hg.symm]
end PURE5
