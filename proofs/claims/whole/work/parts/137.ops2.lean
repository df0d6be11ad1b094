/-! PURE, 8: more calls. -/
section PURE8
theorem sw_o {α : Type} {hi : Nat} {u : Int32} {g : Nat → Option α} {d : Option α} (hh : hi < 100) (h : outOf u (hi + 1)) : sw hi u g d = d := by
  refine sw_out ?_
  rcases h with h | h
  · rw [fa_lt] at h
    exact Or.inl (by have e : (0 : Int32).toInt = 0 := by decide
                     omega)
  · rw [fa_le, nI_toInt (by omega)] at h
    exact Or.inr (by omega)
theorem sw_i {α : Type} {hi i : Nat} {g : Nat → Option α} {d : Option α} (hh : hi < 100) (h : i ≤ hi) : sw hi (nI i) g d = g i := sw_at h (nI_toInt (by omega))
theorem o_about_out {x y cand seats size marg : Int32} {nr : Nat} {out : Nat → Int64} (h : outOf x nr) : f_L_about x y (nI nr) cand seats size marg out = some (1, out) := by
  unfold f_L_about f_X5_about
  rw [e_race_out h]; rfl
theorem m_about_out {N : Nat} {x y np mg hv : Int32} {nr : Nat} {wd lo hr hd cs iw vv ws : Nat → Int32} (h : outOf x nr) : f_X6_about N x y (nI nr) np mg hv wd lo hr hd cs iw vv ws = some (0, 1, mg, hv, iw, vv) := by
  unfold f_X6_about
  rw [e_isRace_out h]; rfl
theorem o_about {N : Nat} (hN : 100010 ≤ N) {y : Int32} {mg hv : Int32} {j nr np c w : Nat} {wd lo hr hd cs ws iw vv : Nat → Int32} (out : Nat → Int64) (hj : j < nr) (hnr : nr ≤ 5) (hnp : np ≤ 300) (hc : c ≤ 6) (hw1 : 0 < w) (hw : w < c) (ecs : cs j = nI c) (ews : ws j = nI w) :
    ∃ (k b mg' hv' : Int32) (iw' vv' : Nat → Int32) (out' : Nat → Int64), f_L_about (nI j) y (nI nr) (nI c) (nI w) (nI (np - wv wd np j 7)) (nI (mgN (wv wd np j) (prs (wn (wv wd np j) c w) c))) out = some (k, out') ∧ f_X6_about N (nI j) y (nI nr) (nI np) mg hv wd lo hr hd cs iw vv ws = some (b, k, mg', hv', iw', vv') ∧ same k b out' := by
  unfold f_L_about f_X5_about f_X6_about
  rw [e_race_in hj (by omega), ob, i10, e_isRace_in hj (by omega), ob]
  show ∃ (k b mg' hv' : Int32) (iw' vv' : Nat → Int32) (out' : Nat → Int64), _ ∧ (if (1 : Int32) = 0 then _ else _) = _ ∧ _
  rw [i10, r01, r11]
  rcases ix_or y (show 4 < 2 ^ 31 by decide) with h | ⟨i, hi, rfl⟩
  · rw [sw_o (by decide) h]
    refine ⟨1, 0, mg, hv, iw, vv, out, rfl, ?_, same1 _ _⟩
    by_cases h1 : y < 0
    · rw [if_pos h1]; rfl
    · have h2 : (3 : Int32) < y := by
        have := h.resolve_left h1
        rw [fa_le, nI_toInt (by decide)] at this
        rw [fa_lt, show (3 : Int32).toInt = 3 from by decide]
        omega
      rw [if_neg h1, if_pos h2]; rfl
  · rw [sw_i (by decide) (show i ≤ 3 by omega), if_neg (nI_pos (by omega)), if_neg (show ¬ (3 : Int32) < nI i from nI_nlt (b := i) (a := 3) (by omega) (by decide)), ob]
    show ∃ (k b mg' hv' : Int32) (iw' vv' : Nat → Int32) (out' : Nat → Int64), _ ∧ (if (1 : Int32) = 0 then _ else _) = _ ∧ _
    rw [i10, e_knows hN wd lo hr hd cs ws iw vv hnp (by omega) hc hw1 hw ecs ews (wv_vt wd lo hr hd np j).symm, ob]
    rcases (show i = 0 ∨ i = 1 ∨ i = 2 ∨ i = 3 by omega) with rfl | rfl | rfl | rfl
    · refine ⟨0, nI (np - wv wd np j 7), nI (mgN (wv wd np j) (prs (wn (wv wd np j) c w) c)), nI (np - wv wd np j 7), wrw (wn (wv wd np j) c w) iw c, vrw (wv wd np j) vv c, vp_updL out (0 : Int32).toNatClampNeg (nI (np - wv wd np j 7)).toInt64, ?_, if_pos rfl, same0 _ _⟩
      show Option.bind (gd (nI j) 5 _) _ = _
      rw [gd_nI (by omega) (by decide)]; rfl
    · refine ⟨0, nI (mgN (wv wd np j) (prs (wn (wv wd np j) c w) c)), nI (mgN (wv wd np j) (prs (wn (wv wd np j) c w) c)), nI (np - wv wd np j 7), wrw (wn (wv wd np j) c w) iw c, vrw (wv wd np j) vv c, vp_updL out (0 : Int32).toNatClampNeg (nI (mgN (wv wd np j) (prs (wn (wv wd np j) c w) c))).toInt64, ?_, ?_, same0 _ _⟩
      · show Option.bind (gd (nI j) 5 _) _ = _
        rw [gd_nI (by omega) (by decide)]; rfl
      · rw [if_neg (by decide), if_pos (by decide)]
    · refine ⟨0, nI c, nI (mgN (wv wd np j) (prs (wn (wv wd np j) c w) c)), nI (np - wv wd np j 7), wrw (wn (wv wd np j) c w) iw c, vrw (wv wd np j) vv c, vp_updL out (0 : Int32).toNatClampNeg (nI c).toInt64, ?_, ?_, same0 _ _⟩
      · show Option.bind (gd (nI j) 5 _) _ = _
        rw [gd_nI (by omega) (by decide)]; rfl
      · rw [if_neg (by decide), if_neg (by decide), if_pos (by decide), gd_nI (by omega) (by decide), cl_nI (by omega), ecs]
    · refine ⟨0, nI w, nI (mgN (wv wd np j) (prs (wn (wv wd np j) c w) c)), nI (np - wv wd np j 7), wrw (wn (wv wd np j) c w) iw c, vrw (wv wd np j) vv c, vp_updL out (0 : Int32).toNatClampNeg (nI w).toInt64, ?_, ?_, same0 _ _⟩
      · show Option.bind (gd (nI j) 5 _) _ = _
        rw [gd_nI (by omega) (by decide)]; rfl
      · rw [if_neg (by decide), if_neg (by decide), if_neg (by decide), gd_nI (by omega) (by decide), cl_nI (by omega), ews]
/-- the dice's highest 31 bits -/
theorem lushk (x : Int64) (s : UInt64) (k : Nat) (hs : (s.toBitVec % 64).toNat = k) : (x.toUInt64 >>> s).toInt64.toBitVec.toNat = x.toBitVec.toNat / 2 ^ k := by
  have e : (x.toUInt64 >>> s).toInt64.toBitVec = x.toBitVec >>> k := by
    rw [← hs]
    exact UInt64.toBitVec_shiftRight _ _
  rw [e, BitVec.toNat_ushiftRight, Nat.shiftRight_eq_div_pow]
theorem lush33 (x : Int64) : ∃ t, t < 2 ^ 31 ∧ lush x (33 : Int32) = lN t := by
  have hb := x.toBitVec.isLt
  have e := lushk x ((33 : Int32).toInt64.toUInt64 &&& Int64.toUInt64 63) 33 (by decide)
  have ht : x.toBitVec.toNat / 2 ^ 33 < 2 ^ 31 := Nat.div_lt_of_lt_mul (by omega)
  refine ⟨x.toBitVec.toNat / 2 ^ 33, ht, lN_of (by omega) ?_⟩
  have e2 : (lush x (33 : Int32)).toInt = (lush x (33 : Int32)).toBitVec.toInt := rfl
  rw [e2, BitVec.toInt_eq_toNat_cond, e, if_pos (by omega)]
theorem die {x : Int64} {np : Nat} (h0 : 0 < np) (hnp : np ≤ 300) : ∃ q, q < np ∧ ((lush x (33 : Int32)) - (lush x (33 : Int32)) / (nI np).toInt64 * (nI np).toInt64).toInt32 = nI q := by
  obtain ⟨t, ht, e⟩ := lush33 x
  refine ⟨t % np, Nat.mod_lt _ h0, ?_⟩
  rw [e, nI_l (by omega), pk_lRem (by omega) h0 (by omega), lN_i]
/-- was paper p drawn -/
def dw (dr : Nat → Int32) (nd p : Nat) : Bool := decide (0 < fb_ct (fun d => decide (dr d = nI p)) nd)
theorem dw_add {dr : Nat → Int32} {nd p q : Nat} (hp : p < 300) (hq : q < 300) : dw (upd dr nd (nI q)) (nd + 1) p = (dw dr nd p || decide (q = p)) := by
  unfold dw
  have e : fb_ct (fun d => decide (upd dr nd (nI q) d = nI p)) nd = fb_ct (fun d => decide (dr d = nI p)) nd := fb_ct_cong (fun k hk => by rw [pk_un (by omega)])
  by_cases h : q = p
  · subst h
    rw [ct_y (by simp [pk_us])]
    simp
  · rw [ct_n (by rw [pk_us]; exact decide_eq_false (fun z => h ((nI_eq (by omega) (by omega)).mp z))), e]
    simp [h]
theorem draws_loop {np : Nat} {cnt : Nat} (h0 : 0 < np) (hnp : np ≤ 300) (hcnt : cnt ≤ 100) (th : Int32) : ∀ (rem n1 n2 i nd : Nat) (dice : Int64) (dr wr : Nat → Int32), i + rem = cnt → rem < n1 → rem < n2 → nd + rem ≤ 2000 → (∀ d, d < nd → ∃ p, p < np ∧ dr d = nI p) → (∀ p, p < 300 → wr p = bi (dw dr nd p)) →
    ∃ (dice' : Int64) (dr' wr' : Nat → Int32), f_X5_draw_L46 (nI cnt) (nI np) n1 (nI i) (nI nd) dice dr wr = some (Sum.inr (nI (nd + rem)), nI (nd + rem), dice', dr', wr') ∧ f_X6_draw_L53 (nI cnt) (nI np) n2 (nI i) th (nI nd) dice dr = some (nI (nd + rem), th, nI (nd + rem), dice', dr') ∧ (∀ d, d < nd + rem → ∃ p, p < np ∧ dr' d = nI p) ∧ (∀ p, p < 300 → wr' p = bi (dw dr' (nd + rem) p)) := by
  intro rem
  induction rem with
  | zero =>
    intro n1 n2 i nd dice dr wr hi h1 h2 hnd hdr hwr
    obtain ⟨a, rfl⟩ : ∃ a, n1 = a + 1 := ⟨n1 - 1, by omega⟩
    obtain ⟨b, rfl⟩ : ∃ b, n2 = b + 1 := ⟨n2 - 1, by omega⟩
    refine ⟨dice, dr, wr, ?_, ?_, hdr, hwr⟩
    · rw [f_X5_draw_L46, if_pos (nI_le (by omega) (by omega))]; rfl
    · rw [f_X6_draw_L53, if_pos (nI_le (by omega) (by omega))]; rfl
  | succ rem ih =>
    intro n1 n2 i nd dice dr wr hi h1 h2 hnd hdr hwr
    obtain ⟨a, rfl⟩ : ∃ a, n1 = a + 1 := ⟨n1 - 1, by omega⟩
    obtain ⟨b, rfl⟩ : ∃ b, n2 = b + 1 := ⟨n2 - 1, by omega⟩
    obtain ⟨q, hq, eq⟩ := die (x := dice * (6364136223846793005 : Int64) + (1442695040888963407 : Int64)) h0 hnp
    have hz : ¬ (nI np).toInt64 = 0 := by rw [nI_l (by omega)]; exact lN_ne0 h0 (by omega)
    obtain ⟨dice', dr', wr', c1, c2, c3, c4⟩ := ih a b (i + 1) (nd + 1) (dice * (6364136223846793005 : Int64) + (1442695040888963407 : Int64)) (upd dr nd (nI q)) (upd wr q (1 : Int32)) (by omega) (by omega) (by omega) (by omega) (fun d hd => by
      by_cases e : d = nd
      · subst e; exact ⟨q, hq, pk_us⟩
      · rw [pk_un e]; exact hdr d (by omega)) (fun p hp => by
      rw [dw_add hp (by omega)]
      by_cases e : q = p
      · subst e; rw [pk_us]; simp [bi]
      · rw [pk_un (fun z => e z.symm), hwr p hp]; simp [e])
    rw [show nd + 1 + rem = nd + (rem + 1) by omega] at c1 c2 c3 c4
    refine ⟨dice', dr', wr', ?_, ?_, c3, c4⟩
    · rw [f_X5_draw_L46, if_neg (nI_ge (by omega) (by omega))]
      unfold f_X0_addOne
      rw [if_neg (nI_nle h0 (by omega)), if_pos (show nI nd < (2000 : Int32) from nI_lt (b := 2000) (by omega) (by decide)), ob, gz_in hz, ob, gd_nI (by omega) (by decide), cl_nI (j := nd) (by omega), eq, ob]
      show gd (nI q) 300 _ = _
      rw [gd_nI (by omega) (by decide)]
      show f_X5_draw_L46 (nI cnt) (nI np) a (nI i + 1) (nI nd + 1) _ _ (upd wr (nI q).toNatClampNeg (vp_nar .boolean (1 : Int32))) = _
      rw [nI_1, nI_1, cl_nI (j := q) (by omega), show vp_nar .boolean (1 : Int32) = 1 from bi_nar true]
      exact c1
    · rw [f_X6_draw_L53, if_neg (nI_ge (by omega) (by omega)), ob, gz_in hz, ob, gd_nI (by omega) (by decide), cl_nI (j := nd) (by omega), eq, nI_1, nI_1]
      exact c2
theorem o_draw {N : Nat} (hN : 100010 ≤ N) {x : Int32} {np nd : Nat} {sl : Bool} {dice : Int64} {dr wr : Nat → Int32} (out : Nat → Int64) (hnp : np ≤ 300) (hnd : nd ≤ 2000) (hsl : sl = true → 0 < np) (hdr : ∀ d, d < nd → ∃ p, p < np ∧ dr d = nI p) (hwr : ∀ p, p < 300 → wr p = bi (dw dr nd p)) :
    ∃ (k b : Int32) (nd' : Nat) (dice' : Int64) (dr' wr' : Nat → Int32) (out' : Nat → Int64), f_L_draw N x (bi sl) (nI nd) dice (nI np) dr wr out = some (k, nI nd', dice', dr', wr', out') ∧ f_X6_draw N x (nI np) (nI nd) (bi sl) dice dr = some (b, k, nI nd', dice', dr') ∧ same k b out' ∧ nd' ≤ 2000 ∧ (∀ d, d < nd' → ∃ p, p < np ∧ dr' d = nI p) ∧ (∀ p, p < 300 → wr' p = bi (dw dr' nd' p)) := by
  unfold f_L_draw f_X5_draw f_X6_draw
  rw [r01, r11]
  rcases ix_or x (show 101 < 2 ^ 31 by decide) with h | ⟨i, hi, rfl⟩
  · refine ⟨1, 0, nd, dice, dr, wr, out, ?_, ?_, same1 _ _, hnd, hdr, hwr⟩
    · by_cases h1 : x < 0
      · rw [if_pos h1]; rfl
      · have h2 : ¬ x ≤ (100 : Int32) := by
          have := h.resolve_left h1
          rw [fa_le, nI_toInt (by decide)] at this
          rw [fa_le, show (100 : Int32).toInt = 100 from by decide]
          omega
        rw [if_neg h1, if_neg h2]; rfl
    · by_cases h1 : x < 0
      · rw [if_pos h1]; rfl
      · have h2 : (100 : Int32) < x := by
          have := h.resolve_left h1
          rw [fa_le, nI_toInt (by decide)] at this
          rw [fa_lt, show (100 : Int32).toInt = 100 from by decide]
          omega
        rw [if_neg h1, if_pos h2]; rfl
  · rw [if_neg (nI_pos (by omega)), if_neg (nI_pos (by omega)), if_pos (show nI i ≤ (100 : Int32) from nI_le (b := 100) (by omega) (by decide)), if_neg (show ¬ (100 : Int32) < nI i from nI_nlt (b := i) (a := 100) (by omega) (by decide)), ob]
    show ∃ (k b : Int32) (nd' : Nat) (dice' : Int64) (dr' wr' : Nat → Int32) (out' : Nat → Int64), _ ∧ (if (1 : Int32) = 0 then _ else _) = _ ∧ _
    rw [i10, bi_if, bi_if, nI_add]
    cases sl
    · exact ⟨0, -1, nd, dice, dr, wr, _, rfl, rfl, same0 _ _, hnd, hdr, hwr⟩
    · rw [if_pos rfl, if_pos rfl]
      by_cases h : nd + i ≤ 2000
      · rw [if_pos (show nI (nd + i) ≤ (2000 : Int32) from nI_le (b := 2000) h (by decide)), if_pos (show nI (nd + i) ≤ (2000 : Int32) from nI_le (b := 2000) h (by decide))]
        obtain ⟨dice', dr', wr', c1, c2, c3, c4⟩ := draws_loop (cnt := i) (hsl rfl) hnp (by omega) (0 : Int32) i N N 0 nd dice dr wr (by omega) (by omega) (by omega) h hdr hwr
        refine ⟨0, nI (nd + i), nd + i, dice', dr', wr', _, ?_, c2, same0 _ out, h, c3, c4⟩
        rw [show f_X5_draw_L46 (nI i) (nI np) N (0 : Int32) (nI nd) dice dr wr = _ from c1]; rfl
      · rw [if_neg (show ¬ nI (nd + i) ≤ (2000 : Int32) from nI_ge (a := 2000) (by omega) (by omega)), if_neg (show ¬ nI (nd + i) ≤ (2000 : Int32) from nI_ge (a := 2000) (by omega) (by omega))]
        exact ⟨0, -1, nd, dice, dr, wr, _, rfl, rfl, same0 _ _, hnd, hdr, hwr⟩
theorem o_drawn {x : Int32} {nd : Nat} {dr : Nat → Int32} (out : Nat → Int64) (hnd : nd ≤ 2000) :
    ∃ (k b : Int32) (out' : Nat → Int64), f_L_drawn x (nI nd) dr out = some (k, out') ∧ f_X6_drawn x (nI nd) dr = some (b, k) ∧ same k b out' := by
  unfold f_L_drawn f_X5_drawn f_X6_drawn
  rw [r01, r11]
  rcases ix_or x (show nd < 2 ^ 31 by omega) with h | ⟨j, hj, rfl⟩
  · refine ⟨1, 0, out, ?_, ?_, same1 _ _⟩
    · rw [e_has0_out h]; rfl
    · rw [has_out h]; rfl
  · refine ⟨0, dr j, vp_updL out (0 : Int32).toNatClampNeg (dr j).toInt64, ?_, ?_, same0 _ _⟩
    · rw [e_has0_in hj (by omega), ob, i10, gd_nI (by omega) (by decide), cl_nI (by omega)]; rfl
    · rw [has_in hj (by omega), ob]
      show (if (1 : Int32) = 0 then _ else _) = _
      rw [i10, gd_nI (by omega) (by decide), cl_nI (by omega)]
theorem o_waits {N : Nat} (hN : 100010 ≤ N) {lo ho hr dr : Nat → Int32} {np nd : Nat} (H : HO ho hr) (hnp : np ≤ 300) (hnd : nd ≤ 2000) (hdr : ∀ d, d < nd → ∃ p, p < np ∧ dr d = nI p) :
    ∃ a, f_X5_waits N (nI nd) dr lo ho = some a ∧ f_X6_waits N (nI nd) dr lo hr = some (a, 0) := by
  have hle := stl_le lo hr dr nd
  unfold f_X5_waits f_X6_waits
  rw [e_settled hN (lo := lo) H hnp hnd hdr, ob]
  refine ⟨if stl lo hr dr nd < nd then nI (stl lo hr dr nd) else -1, ?_, ?_⟩
  · by_cases h : stl lo hr dr nd < nd
    · rw [if_neg (nI_ge h (by omega)), if_pos h]
    · rw [if_pos (nI_le (by omega) (by omega)), if_neg h]
  · refine lp (L := fun n i => f_X6_waits_L7 (nI nd) dr lo hr n (nI i) (0 : Int32)) (hi := stl lo hr dr nd) ?_ ?_ N 0 (Nat.zero_le _) (by omega)
    · intro n
      show f_X6_waits_L7 (nI nd) dr lo hr (n + 1) (nI (stl lo hr dr nd)) (0 : Int32) = _
      rw [f_X6_waits_L7]
      by_cases h : stl lo hr dr nd < nd
      · obtain ⟨e, hp⟩ := pn_of hnp hdr h
        rw [if_neg (nI_ge h (by omega)), gd_nI (by omega) (by decide), cl_nI (by omega), e, e_isKnown (by omega), ob, bi_if, stl_out h, if_pos h]; rfl
      · rw [if_pos (nI_le (by omega) (by omega)), if_neg h]
    · intro n i hi
      show f_X6_waits_L7 (nI nd) dr lo hr (n + 1) (nI i) (0 : Int32) = f_X6_waits_L7 (nI nd) dr lo hr n (nI (i + 1)) (0 : Int32)
      obtain ⟨e, hp⟩ := pn_of hnp hdr (show i < nd by omega)
      rw [f_X6_waits_L7, if_neg (nI_ge (by omega) (by omega)), gd_nI (by omega) (by decide), cl_nI (by omega), e, e_isKnown (by omega), ob, bi_if, stl_in hi, if_pos rfl, nI_1]
theorem e_isDrawn {N : Nat} (hN : 100010 ≤ N) {dr : Nat → Int32} {nd p : Nat} (hnd : nd ≤ 2000) : f_X6_isDrawn N (nI p) (nI nd) dr = some (bi (dw dr nd p)) := by
  unfold f_X6_isDrawn
  have hle := fa_first_le (fun d => decide (dr d = nI p)) nd
  refine lp (L := fun n i => f_X6_isDrawn_L2 (nI p) (nI nd) dr n (nI i)) (hi := fa_first (fun d => decide (dr d = nI p)) nd) ?_ ?_ N 0 (Nat.zero_le _) (by omega)
  · intro n
    show f_X6_isDrawn_L2 (nI p) (nI nd) dr (n + 1) (nI (fa_first (fun d => decide (dr d = nI p)) nd)) = _
    rw [f_X6_isDrawn_L2]
    unfold dw
    by_cases h : fa_first (fun d => decide (dr d = nI p)) nd < nd
    · have hy := fa_first_yes (fun d => decide (dr d = nI p)) nd h
      rw [if_neg (nI_ge h (by omega)), gd_nI (by omega) (by decide), cl_nI (by omega), if_pos (of_decide_eq_true hy), decide_eq_true (fb_ct_pos.mpr ⟨_, h, hy⟩)]; rfl
    · rw [if_pos (nI_le (by omega) (by omega)), fb_ct_zero.mpr (fun k hk => fa_first_no (fun d => decide (dr d = nI p)) nd k (by omega))]; rfl
  · intro n i hi
    show f_X6_isDrawn_L2 (nI p) (nI nd) dr (n + 1) (nI i) = f_X6_isDrawn_L2 (nI p) (nI nd) dr n (nI (i + 1))
    rw [f_X6_isDrawn_L2, if_neg (nI_ge (by omega) (by omega)), gd_nI (by omega) (by decide), cl_nI (by omega), if_neg (of_decide_eq_false (fa_first_no (fun d => decide (dr d = nI p)) nd i hi)), nI_1]
theorem pulled_sum {N : Nat} (hN : 100010 ≤ N) {x th : Int32} {bx dr wr : Nat → Int32} {np nd : Nat} (hnp : np ≤ 300) (hnd : nd ≤ 2000) (hwr : ∀ p, p < 300 → wr p = bi (dw dr nd p)) :
    ∃ a, f_X5_pulled_L27 x (nI np) wr bx N (0 : Int32) (0 : Int32) = some (Sum.inr a) ∧ f_X6_pulled_L37 N x (nI np) (nI nd) dr bx N (0 : Int32) (0 : Int32) th = some (a, th) := by
  refine ⟨nI (fb_ct (fun p => dw dr nd p && (decide (x = -1) || decide (bx p = x))) np), ?_, ?_⟩
  · refine lp (L := fun n i => f_X5_pulled_L27 x (nI np) wr bx n (nI (fb_ct (fun p => dw dr nd p && (decide (x = -1) || decide (bx p = x))) i)) (nI i)) (hi := np) ?_ ?_ N 0 (Nat.zero_le _) (by omega)
    · intro n
      show f_X5_pulled_L27 x (nI np) wr bx (n + 1) _ (nI np) = _
      rw [f_X5_pulled_L27, if_pos (nI_le (Nat.le_refl _) (by omega))]
    · intro n i hi
      show f_X5_pulled_L27 x (nI np) wr bx (n + 1) (nI (fb_ct (fun p => dw dr nd p && (decide (x = -1) || decide (bx p = x))) i)) (nI i) = f_X5_pulled_L27 x (nI np) wr bx n (nI (fb_ct (fun p => dw dr nd p && (decide (x = -1) || decide (bx p = x))) (i + 1))) (nI (i + 1))
      rw [f_X5_pulled_L27, if_neg (nI_ge hi (by omega)), gd_nI (j := i) (by omega) (by decide), cl_nI (j := i) (by omega), hwr i (by omega), bi_if, gd_nI (j := i) (by omega) (by decide), nI_1, nI_1]
      cases hd : dw dr nd i
      · rw [if_neg (by decide), ct_n (by simp [hd])]
      · rw [if_pos rfl]
        by_cases h1 : x = -1
        · rw [if_pos h1, ct_y (by simp [hd, h1])]
        · rw [if_neg h1]
          by_cases h2 : bx i = x
          · rw [if_pos h2, ct_y (by simp [hd, h2])]
          · rw [if_neg h2, ct_n (by simp [h1, h2])]
  · refine lp (L := fun n i => f_X6_pulled_L37 N x (nI np) (nI nd) dr bx n (nI (fb_ct (fun p => dw dr nd p && (decide (x = -1) || decide (bx p = x))) i)) (nI i) th) (hi := np) ?_ ?_ N 0 (Nat.zero_le _) (by omega)
    · intro n
      show f_X6_pulled_L37 N x (nI np) (nI nd) dr bx (n + 1) _ (nI np) th = _
      rw [f_X6_pulled_L37, if_pos (nI_le (Nat.le_refl _) (by omega))]
    · intro n i hi
      show f_X6_pulled_L37 N x (nI np) (nI nd) dr bx (n + 1) (nI (fb_ct (fun p => dw dr nd p && (decide (x = -1) || decide (bx p = x))) i)) (nI i) th = f_X6_pulled_L37 N x (nI np) (nI nd) dr bx n (nI (fb_ct (fun p => dw dr nd p && (decide (x = -1) || decide (bx p = x))) (i + 1))) (nI (i + 1)) th
      rw [f_X6_pulled_L37, if_neg (nI_ge hi (by omega)), e_isDrawn hN hnd, ob, bi_if, gd_nI (j := i) (by omega) (by decide), cl_nI (j := i) (by omega), nI_1, nI_1]
      cases hd : dw dr nd i
      · simp only [Bool.false_eq_true, if_false]
        rw [ite_self, ite_self, ct_n (by simp [hd])]
      · rw [if_pos rfl]
        by_cases h1 : x = -1
        · rw [if_pos h1, ct_y (by simp [hd, h1])]
        · rw [if_neg h1]
          by_cases h2 : bx i = x
          · rw [if_pos h2, ct_y (by simp [hd, h2])]
          · rw [if_neg h2, ct_n (by simp [h1, h2])]
theorem o_pulled {N : Nat} (hN : 100010 ≤ N) {x : Int32} {bx dr wr : Nat → Int32} {nb np nd : Nat} (out : Nat → Int64) (hnb : nb ≤ 10) (hnp : np ≤ 300) (hnd : nd ≤ 2000) (hwr : ∀ p, p < 300 → wr p = bi (dw dr nd p)) :
    ∃ (k b : Int32) (out' : Nat → Int64), f_L_pulled N x (nI nb) (nI np) wr bx out = some (k, out') ∧ f_X6_pulled N x (nI nb) (nI np) (nI nd) dr bx = some (b, k) ∧ same k b out' := by
  unfold f_L_pulled f_X5_pulled f_X6_pulled
  rw [r01, r11]
  obtain ⟨a, c1, c2⟩ := pulled_sum hN (x := x) (th := 0) (bx := bx) hnp hnd hwr
  have m1 : (-1 : Int32).toInt = -1 := by decide
  have z0 : (0 : Int32).toInt = 0 := by decide
  by_cases h1 : x = -1
  · subst h1
    refine ⟨0, a, _, ?_, ?_, same0 a out⟩
    · rw [if_pos rfl, c1]; rfl
    · rw [if_neg (show ¬ (-1 : Int32) < -1 from by decide), if_neg (show ¬ nI nb ≤ (-1 : Int32) from by rw [fa_le, nI_toInt (by omega), m1]; omega), ob]
      exact c2
  · have hx : x.toInt ≠ -1 := fun e => h1 (Int32.toInt_inj.mp (by rw [e, m1]))
    rw [if_neg h1]
    rcases ix_or x (show nb < 2 ^ 31 by omega) with h | ⟨j, hj, rfl⟩
    · refine ⟨1, 0, out, ?_, ?_, same1 _ _⟩
      · rw [e_box_out h]; rfl
      · by_cases h2 : x < -1
        · rw [if_pos h2]; rfl
        · rw [if_neg h2]
          have h3 : nI nb ≤ x := h.resolve_left (fun h3 => by
            rw [fa_lt, z0] at h3
            rw [fa_lt, m1] at h2
            omega)
          rw [if_pos h3]; rfl
    · refine ⟨0, a, _, ?_, ?_, same0 a out⟩
      · rw [e_box_in hj (by omega), ob, i10, c1]; rfl
      · rw [if_neg (show ¬ nI j < (-1 : Int32) from by rw [fa_lt, nI_toInt (by omega), m1]; omega), if_neg (nI_ge hj (by omega)), ob]
        exact c2
theorem o_reading {N : Nat} (hN : 100010 ≤ N) {x y : Int32} {nr np : Nat} {ho hr hw : Nat → Int32} (out : Nat → Int64) (H : HO ho hr) (hnr : nr ≤ 5) (hnp : np ≤ 300) :
    ∃ (k b : Int32) (out' : Nat → Int64), f_L_reading x y (nI nr) (nI np) ho hw out = some (k, out') ∧ f_X6_reading N x y (nI nr) (nI np) hr hw = some (b, k) ∧ same k b out' := by
  unfold f_L_reading f_X5_reading f_X6_reading
  rcases ix_or x (show np < 2 ^ 31 by omega) with h | ⟨p, hp, rfl⟩
  · refine ⟨1, 0, out, ?_, ?_, same1 _ _⟩
    · rw [e_has1_out h]; rfl
    · rw [e_isPaper_out h]; rfl
  · rw [e_has1_in hp (by omega), e_isPaper_in hp (by omega), ob, ob, i10]
    show ∃ (k b : Int32) (out' : Nat → Int64), _ ∧ (if (1 : Int32) = 0 then _ else _) = _ ∧ _
    rw [i10, r01, r11]
    rcases ix_or y (show nr < 2 ^ 31 by omega) with h | ⟨r, hr5, rfl⟩
    · refine ⟨1, 0, out, ?_, ?_, same1 _ _⟩
      · rw [e_race_out h]; rfl
      · rw [has_out h]; rfl
    · rw [e_race_in hr5 (by omega), has_in hr5 (by omega), ob, i10, e_handsMark H (by omega) (by omega), ob]
      refine ⟨0, hk hr hw p r, vp_updL out (0 : Int32).toNatClampNeg (hk hr hw p r).toInt64, rfl, ?_, same0 _ _⟩
      rw [ob]
      show (if (1 : Int32) = 0 then _ else _) = _
      rw [i10, e_isRead (by omega), ob, bi_if, e_readingOf hN (by omega) (by omega)]
      unfold hk
      cases isr hr p <;> rfl
theorem o_count {N : Nat} (hN : 100010 ≤ N) {x : Int32} {nr nb np nd : Nat} {sl : Bool} {ho hr lo : Nat → Int32} (out : Nat → Int64) (H : HO ho hr) (hnp : np ≤ 300) :
    ∃ (k b : Int32) (out' : Nat → Int64), f_L_count N x (nI nr) (nI nb) (bi sl) (nI np) lo (nI nd) ho out = some (k, out') ∧ f_X6_count N x (nI nr) (nI nb) (nI np) (nI nd) (bi sl) lo hr = some (b, k) ∧ same k b out' := by
  have cl : f_X1_lostOnes N (nI np) lo = some (nI (fb_ct (fun p => decide (¬ lo p = 0)) np)) := by
    unfold f_X1_lostOnes
    refine lp (L := fun n i => f_X1_lostOnes_L4 (nI np) lo n (nI (fb_ct (fun p => decide (¬ lo p = 0)) i)) (nI i)) (hi := np) ?_ ?_ N 0 (Nat.zero_le _) (by omega)
    · intro n
      show f_X1_lostOnes_L4 (nI np) lo (n + 1) _ (nI np) = _
      rw [f_X1_lostOnes_L4, if_pos (nI_le (Nat.le_refl _) (by omega))]
    · intro n i hi
      show f_X1_lostOnes_L4 (nI np) lo (n + 1) (nI (fb_ct (fun p => decide (¬ lo p = 0)) i)) (nI i) = f_X1_lostOnes_L4 (nI np) lo n (nI (fb_ct (fun p => decide (¬ lo p = 0)) (i + 1))) (nI (i + 1))
      rw [f_X1_lostOnes_L4, if_neg (nI_ge hi (by omega)), gd_nI (j := i) (by omega) (by decide), cl_nI (j := i) (by omega), nI_1, nI_1]
      by_cases h : lo i = 0
      · rw [if_pos h, ct_n (by simp [h])]
      · rw [if_neg h, ct_y (by simp [h])]
  have ml : f_X6_count_L89 (nI np) lo N (0 : Int32) (0 : Int32) (0 : Int32) = some (nI (fb_ct (fun p => decide (¬ lo p = 0)) np), 0) := by
    refine lp (L := fun n i => f_X6_count_L89 (nI np) lo n (nI (fb_ct (fun p => decide (¬ lo p = 0)) i)) (nI i) (0 : Int32)) (hi := np) ?_ ?_ N 0 (Nat.zero_le _) (by omega)
    · intro n
      show f_X6_count_L89 (nI np) lo (n + 1) _ (nI np) (0 : Int32) = _
      rw [f_X6_count_L89, if_pos (nI_le (Nat.le_refl _) (by omega))]
    · intro n i hi
      show f_X6_count_L89 (nI np) lo (n + 1) (nI (fb_ct (fun p => decide (¬ lo p = 0)) i)) (nI i) (0 : Int32) = f_X6_count_L89 (nI np) lo n (nI (fb_ct (fun p => decide (¬ lo p = 0)) (i + 1))) (nI (i + 1)) (0 : Int32)
      rw [f_X6_count_L89, if_neg (nI_ge hi (by omega)), gd_nI (j := i) (by omega) (by decide), cl_nI (j := i) (by omega), nI_1, nI_1]
      by_cases h : lo i = 0
      · rw [if_pos h, ct_n (by simp [h])]
      · rw [if_neg h, ct_y (by simp [h])]
  have cr : f_X1_readOnes N (nI np) ho = some (nI (fb_ct (fun p => isr hr p) np)) := by
    unfold f_X1_readOnes
    refine lp (L := fun n i => f_X1_readOnes_L4 (nI np) ho n (nI (fb_ct (fun p => isr hr p) i)) (nI i)) (hi := np) ?_ ?_ N 0 (Nat.zero_le _) (by omega)
    · intro n
      show f_X1_readOnes_L4 (nI np) ho (n + 1) _ (nI np) = _
      rw [f_X1_readOnes_L4, if_pos (nI_le (Nat.le_refl _) (by omega))]
    · intro n i hi
      show f_X1_readOnes_L4 (nI np) ho (n + 1) (nI (fb_ct (fun p => isr hr p) i)) (nI i) = f_X1_readOnes_L4 (nI np) ho n (nI (fb_ct (fun p => isr hr p) (i + 1))) (nI (i + 1))
      rw [f_X1_readOnes_L4, if_neg (nI_ge hi (by omega)), e_isReadByHand H (by omega), ob, bi_if, nI_1, nI_1]
      cases h : isr hr i
      · rw [if_neg (by decide), ct_n h]
      · rw [if_pos rfl, ct_y h]
  have mr : f_X6_count_L124 (nI np) hr N (0 : Int32) (0 : Int32) (0 : Int32) = some (nI (fb_ct (fun p => isr hr p) np), 0) := by
    refine lp (L := fun n i => f_X6_count_L124 (nI np) hr n (nI (fb_ct (fun p => isr hr p) i)) (nI i) (0 : Int32)) (hi := np) ?_ ?_ N 0 (Nat.zero_le _) (by omega)
    · intro n
      show f_X6_count_L124 (nI np) hr (n + 1) _ (nI np) (0 : Int32) = _
      rw [f_X6_count_L124, if_pos (nI_le (Nat.le_refl _) (by omega))]
    · intro n i hi
      show f_X6_count_L124 (nI np) hr (n + 1) (nI (fb_ct (fun p => isr hr p) i)) (nI i) (0 : Int32) = f_X6_count_L124 (nI np) hr n (nI (fb_ct (fun p => isr hr p) (i + 1))) (nI (i + 1)) (0 : Int32)
      rw [f_X6_count_L124, if_neg (nI_ge hi (by omega)), e_isRead (by omega), ob, bi_if, nI_1, nI_1]
      cases h : isr hr i
      · rw [if_neg (by decide), ct_n h]
      · rw [if_pos rfl, ct_y h]
  unfold f_L_count f_X5_count f_X6_count
  rw [r01, r11]
  rcases ix_or x (show 7 < 2 ^ 31 by decide) with h | ⟨i, hi, rfl⟩
  · rw [sw_o (hi := 6) (by decide) h]
    refine ⟨1, 0, out, rfl, ?_, same1 _ _⟩
    by_cases h1 : x < 0
    · rw [if_pos h1]; rfl
    · have h2 : (6 : Int32) < x := by
        have := h.resolve_left h1
        rw [fa_le, nI_toInt (by decide)] at this
        rw [fa_lt, show (6 : Int32).toInt = 6 from by decide]
        omega
      rw [if_neg h1, if_pos h2]; rfl
  · rw [sw_i (hi := 6) (by decide) (show i ≤ 6 by omega), if_neg (nI_pos (by omega)), if_neg (show ¬ (6 : Int32) < nI i from nI_nlt (b := i) (a := 6) (by omega) (by decide)), ob]
    show ∃ (k b : Int32) (out' : Nat → Int64), _ ∧ (if (1 : Int32) = 0 then _ else _) = _ ∧ _
    rw [i10]
    rcases (show i = 0 ∨ i = 1 ∨ i = 2 ∨ i = 3 ∨ i = 4 ∨ i = 5 ∨ i = 6 by omega) with rfl | rfl | rfl | rfl | rfl | rfl | rfl
    · exact ⟨0, nI nr, _, rfl, sw_i (by decide) (by decide), same0 _ out⟩
    · exact ⟨0, nI nb, _, rfl, sw_i (by decide) (by decide), same0 _ out⟩
    · exact ⟨0, nI np, _, rfl, sw_i (by decide) (by decide), same0 _ out⟩
    · refine ⟨0, nI (fb_ct (fun p => decide (¬ lo p = 0)) np), _, ?_, (sw_i (by decide) (by decide)).trans ml, same0 _ out⟩
      show Option.bind (Option.bind (f_X1_lostOnes N (nI np) lo) _) _ = _
      rw [cl]; rfl
    · exact ⟨0, nI nd, _, rfl, sw_i (by decide) (by decide), same0 _ out⟩
    · refine ⟨0, nI (fb_ct (fun p => isr hr p) np), _, ?_, (sw_i (by decide) (by decide)).trans mr, same0 _ out⟩
      show Option.bind (Option.bind (f_X1_readOnes N (nI np) ho) _) _ = _
      rw [cr]; rfl
    · refine ⟨0, bi sl, _, ?_, (sw_o (hi := 5) (by decide) (Or.inr (nI_le (by decide) (by decide)))).trans ?_, same0 _ out⟩
      · show Option.bind (if bi sl = 0 then _ else _) _ = _
        rw [bi_if]
        cases sl <;> rfl
      · rw [bi_if]
        cases sl <;> rfl
end PURE8
