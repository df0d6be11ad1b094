/-! PURE, 6: the risk, draw by draw; the need. -/
section PURE6
theorem lN_of {x : Int64} {n : Nat} (hn : n < 2 ^ 63) (h : x.toInt = (n : Int)) : x = lN n := Int64.toInt_inj.mp (by rw [h, pk_lT hn])
theorem low {gap : Int32} {mm V : Nat} (h1 : -2 ≤ gap.toInt) (h2 : gap.toInt ≤ 2) (hV : 0 < V) (hVm : V ≤ mm) (hm : mm ≤ 300) : ∃ T : Nat, 0 < T ∧ T ≤ 12600 ∧ (gap.toInt = 0 → T = 22 * mm) ∧ (22 : Int64) * lN mm - ((10 : Int64) * gap.toInt64) * lN V = lN T := by
  have a1 : ((22 : Int64) * lN mm).toInt = 22 * (mm : Int) := by
    rw [show (22 : Int64) * lN mm = lN (22 * mm) from lN_mul 22 mm, lN_toInt (by omega)]; omega
  have g0 : gap.toInt64.toInt = gap.toInt := Int32.toInt_toInt64 gap
  have t10 : (10 : Int64).toInt = 10 := by decide
  have vI : (lN V).toInt = (V : Int) := lN_toInt (by omega)
  have a2 : ((10 : Int64) * gap.toInt64).toInt = 10 * gap.toInt := by
    rw [fb_mulL (by rw [t10, g0]; omega) (by rw [t10, g0]; omega), t10, g0]
  have a3 : (((10 : Int64) * gap.toInt64) * lN V).toInt = 10 * gap.toInt * (V : Int) ∧ -6000 ≤ 10 * gap.toInt * (V : Int) ∧ 10 * gap.toInt * (V : Int) ≤ 20 * (V : Int) := by
    have hb : -6000 ≤ 10 * gap.toInt * (V : Int) ∧ 10 * gap.toInt * (V : Int) ≤ 20 * (V : Int) := by
      rcases (show gap.toInt = -2 ∨ gap.toInt = -1 ∨ gap.toInt = 0 ∨ gap.toInt = 1 ∨ gap.toInt = 2 by omega) with e | e | e | e | e <;> rw [e] <;> omega
    exact ⟨by rw [fb_mulL (by rw [a2, vI]; omega) (by rw [a2, vI]; omega), a2, vI], hb⟩
  refine ⟨(22 * (mm : Int) - 10 * gap.toInt * (V : Int)).toNat, by omega, by omega, fun e => ?_, lN_of (by omega) ?_⟩
  · rw [e]; omega
  · rw [fb_subL (by rw [a1, a3.1]; omega) (by rw [a1, a3.1]; omega), a1, a3.1]; omega
/-- the next risk, in whole numbers -/
def cn (k s V mm T : Nat) : Nat := if 1000000000 < (k * (22 * s - 10 * V) * 22 * mm + 22 * s * T - 1) / (22 * s * T) then 1000000000 else (k * (22 * s - 10 * V) * 22 * mm + 22 * s * T - 1) / (22 * s * T)
theorem cn_le (k s V mm T : Nat) : cn k s V mm T ≤ 1000000000 := by unfold cn; split <;> omega
theorem cA {k s V : Nat} (h : 10 * V ≤ 22 * s) : lN k * ((22 : Int64) * lN s - (10 : Int64) * lN V) = lN (k * (22 * s - 10 * V)) := by
  rw [show (22 : Int64) * lN s = lN (22 * s) from lN_mul 22 s, show (10 : Int64) * lN V = lN (10 * V) from lN_mul 10 V, lN_sub h, lN_mul]
theorem cAb {k s V : Nat} (hk : k ≤ 1000000000) (hs : s ≤ 300) : k * (22 * s - 10 * V) ≤ 6600000000000 := by
  have := Nat.mul_le_mul hk (show 22 * s - 10 * V ≤ 6600 by omega)
  omega
theorem cD {A B : Nat} (hA : A < 2 ^ 62) (hB0 : 0 < B) (hB : B < 2 ^ 62) : ((lN A + lN B) - (1 : Int64)) / lN B = lN ((A + B - 1) / B) := by
  rw [lN_add, show (1 : Int64) = lN 1 from rfl, lN_sub (by omega), pk_lDiv (by omega) hB0 (by omega)]
theorem lN_ne0 {B : Nat} (h0 : 0 < B) (hB : B < 2 ^ 62) : ¬ lN B = 0 := fun e => by
  have := (pk_lEQ (a := B) (b := 0) (by omega) (by decide)).mp e
  omega
theorem cB {s T : Nat} (hs : s ≤ 300) (hT : T ≤ 12600) : 22 * s * T ≤ 83160000 := by
  have := Nat.mul_le_mul (show 22 * s ≤ 6600 by omega) hT
  omega
theorem e_carryC {k s V mm T : Nat} {gap : Int32} (hk : k ≤ 1000000000) (hV : 0 < V) (hVs : V ≤ s) (hs : s ≤ 300) (hm : mm ≤ 300) (hT0 : 0 < T) (hT : T ≤ 12600) (eT : (22 : Int64) * lN mm - ((10 : Int64) * gap.toInt64) * lN V = lN T) :
    f_X2_carryOn (nI k) gap (nI mm) (nI s) (nI V) = some (nI (cn k s V mm T)) := by
  have hB0 : 0 < 22 * s * T := Nat.mul_pos (by omega) hT0
  have hB := cB hs hT
  have hA1 := cAb (V := V) hk hs
  have hA : k * (22 * s - 10 * V) * 22 * mm ≤ 43560000000000000 := by
    have := Nat.mul_le_mul (Nat.mul_le_mul hA1 (Nat.le_refl 22)) hm
    omega
  unfold f_X2_carryOn
  rw [nI_l (n := k) (by omega), nI_l (n := mm) (by omega), nI_l (n := s) (by omega), nI_l (n := V) (by omega), cA (by omega), eT, show (22 : Int64) * lN s = lN (22 * s) from lN_mul 22 s, lN_mul (22 * s) T, show lN (k * (22 * s - 10 * V)) * (22 : Int64) = lN (k * (22 * s - 10 * V) * 22) from lN_mul _ 22, lN_mul, ob, ob]
  rw [if_pos (show 0 < lg_cmp (lN (22 * s * T)) (0 : Int64) from (lg_cmp_gt _ _).mpr ((pk_lLT (a := 0) (by decide) (by omega)).mpr hB0))]
  unfold gz
  rw [if_neg (lN_ne0 hB0 (by omega)), cD (by omega) hB0 (by omega)]
  unfold lmin cn
  have hD : (k * (22 * s - 10 * V) * 22 * mm + 22 * s * T - 1) / (22 * s * T) ≤ k * (22 * s - 10 * V) * 22 * mm + 22 * s * T - 1 := Nat.div_le_self _ _
  by_cases h : 1000000000 < (k * (22 * s - 10 * V) * 22 * mm + 22 * s * T - 1) / (22 * s * T)
  · rw [if_pos h, if_pos (show (1000000000 : Int64) < _ from (pk_lLT (a := 1000000000) (by decide) (by omega)).mpr h)]
    exact congrArg some (lN_i 1000000000)
  · rw [if_neg h, if_neg (show ¬ (1000000000 : Int64) < lN ((k * (22 * s - 10 * V) * 22 * mm + 22 * s * T - 1) / (22 * s * T)) from fun e => h ((pk_lLT (a := 1000000000) (by decide) (by omega)).mp e))]
    exact congrArg some (lN_i _)
theorem e_carryM {k s V mm T : Nat} {gap : Int32} (hk : k ≤ 1000000000) (hV : 0 < V) (hVs : V ≤ s) (hs : s ≤ 300) (hm : mm ≤ 300) (hT0 : 0 < T) (hT : T ≤ 12600) (eT : (22 : Int64) * lN mm - ((10 : Int64) * gap.toInt64) * lN V = lN T) :
    ∃ o, f_X6_divides (((lN k * (((22 : Int64) * (nI s).toInt64) - ((10 : Int64) * (nI V).toInt64))) * (22 : Int64)) * (nI mm).toInt64) (((22 : Int64) * (nI s).toInt64) * (((22 : Int64) * (nI mm).toInt64) - (((10 : Int64) * gap.toInt64) * (nI V).toInt64))) = some o ∧ ∀ {α : Type} (f : Int64 → α), (if (lg_cmp o (1000000000 : Int64)) ≤ 0 then f o else f (1000000000 : Int64)) = f (lN (cn k s V mm T)) := by
  have hB0 : 0 < 22 * s * T := Nat.mul_pos (by omega) hT0
  have hB := cB hs hT
  have hA1 := cAb (V := V) hk hs
  have hA : k * (22 * s - 10 * V) * 22 * mm ≤ 43560000000000000 := by
    have := Nat.mul_le_mul (Nat.mul_le_mul hA1 (Nat.le_refl 22)) hm
    omega
  have hD : (k * (22 * s - 10 * V) * 22 * mm + 22 * s * T - 1) / (22 * s * T) ≤ k * (22 * s - 10 * V) * 22 * mm + 22 * s * T - 1 := Nat.div_le_self _ _
  refine ⟨lN ((k * (22 * s - 10 * V) * 22 * mm + 22 * s * T - 1) / (22 * s * T)), ?_, ?_⟩
  · unfold f_X6_divides
    rw [nI_l (n := mm) (by omega), nI_l (n := s) (by omega), nI_l (n := V) (by omega), cA (by omega), eT, show (22 : Int64) * lN s = lN (22 * s) from lN_mul 22 s, lN_mul (22 * s) T, show lN (k * (22 * s - 10 * V)) * (22 : Int64) = lN (k * (22 * s - 10 * V) * 22) from lN_mul _ 22, lN_mul]
    unfold gz
    rw [if_neg (lN_ne0 hB0 (by omega)), cD (by omega) hB0 (by omega)]
  · intro α f
    unfold cn
    by_cases h : 1000000000 < (k * (22 * s - 10 * V) * 22 * mm + 22 * s * T - 1) / (22 * s * T)
    · rw [if_pos h, if_neg (show ¬ lg_cmp (lN ((k * (22 * s - 10 * V) * 22 * mm + 22 * s * T - 1) / (22 * s * T))) (1000000000 : Int64) ≤ 0 from fun e => Nat.not_le.mpr h ((pk_lLE (b := 1000000000) (by omega) (by decide)).mp ((lg_cmp_le _ _).mp e)))]; rfl
    · rw [if_neg h, if_pos (show lg_cmp (lN ((k * (22 * s - 10 * V) * 22 * mm + 22 * s * T - 1) / (22 * s * T))) (1000000000 : Int64) ≤ 0 from (lg_cmp_le _ _).mpr ((pk_lLE (b := 1000000000) (by omega) (by decide)).mpr (by omega)))]
/-- the paper of a draw -/
def pn (dr : Nat → Int32) (d : Nat) : Nat := (dr d).toNatClampNeg
theorem pn_of {dr : Nat → Int32} {np nd : Nat} (hnp : np ≤ 300) (hdr : ∀ d, d < nd → ∃ p, p < np ∧ dr d = nI p) {d : Nat} (hd : d < nd) : dr d = nI (pn dr d) ∧ pn dr d < np := by
  obtain ⟨p, hp, e⟩ := hdr d hd
  unfold pn
  rw [e, cl_nI (by omega)]
  exact ⟨rfl, hp⟩
/-- how many draws, from the first on, are read or lost -/
def stl (lo hr dr : Nat → Int32) (nd : Nat) : Nat := fa_first (fun d => !kn lo hr (pn dr d)) nd
theorem stl_le (lo hr dr : Nat → Int32) (nd : Nat) : stl lo hr dr nd ≤ nd := fa_first_le _ _
theorem stl_in {lo hr dr : Nat → Int32} {nd d : Nat} (h : d < stl lo hr dr nd) : kn lo hr (pn dr d) = true := by
  have := fa_first_no _ nd d h
  simpa using this
theorem stl_out {lo hr dr : Nat → Int32} {nd : Nat} (h : stl lo hr dr nd < nd) : kn lo hr (pn dr (stl lo hr dr nd)) = false := by
  have h2 : (!kn lo hr (pn dr (stl lo hr dr nd))) = true := fa_first_yes (fun d => !kn lo hr (pn dr d)) nd h
  simpa using h2
theorem e_settled {N : Nat} (hN : 100010 ≤ N) {lo ho hr dr : Nat → Int32} {np nd : Nat} (H : HO ho hr) (hnp : np ≤ 300) (hnd : nd ≤ 2000) (hdr : ∀ d, d < nd → ∃ p, p < np ∧ dr d = nI p) : f_X0_settled N (nI nd) dr lo ho = some (nI (stl lo hr dr nd)) := by
  have hle := stl_le lo hr dr nd
  unfold f_X0_settled
  refine lp (L := fun n i => f_X0_settled_L2 (nI nd) dr lo ho n (nI i)) (hi := stl lo hr dr nd) ?_ ?_ N 0 (Nat.zero_le _) (by omega)
  · intro n
    show f_X0_settled_L2 (nI nd) dr lo ho (n + 1) (nI (stl lo hr dr nd)) = _
    rw [f_X0_settled_L2]
    by_cases h : stl lo hr dr nd < nd
    · obtain ⟨e, hp⟩ := pn_of hnp hdr h
      rw [if_neg (nI_ge h (by omega)), gd_nI (by omega) (by decide), cl_nI (by omega), e, e_isSettled H (by omega), ob, bi_if, stl_out h]; rfl
    · rw [if_pos (nI_le (by omega) (by omega)), show stl lo hr dr nd = nd by omega]
  · intro n i hi
    show f_X0_settled_L2 (nI nd) dr lo ho (n + 1) (nI i) = f_X0_settled_L2 (nI nd) dr lo ho n (nI (i + 1))
    obtain ⟨e, hp⟩ := pn_of hnp hdr (show i < nd by omega)
    rw [f_X0_settled_L2, if_neg (nI_ge (by omega) (by omega)), gd_nI (by omega) (by decide), cl_nI (by omega), e, e_isSettled H (by omega), ob, bi_if, stl_in hi, if_pos rfl, nI_1]
theorem wg_ne {wd lo hr hd : Nat → Int32} {v : Nat → Nat} {ls : List (Nat × Nat)} {r p : Nat} {z : Int32 × Int32} (hz : tn (gq wd lo hr hd r p) (dq v) ls = some z) : ¬ z.1 = (-10 : Int32) := by
  obtain ⟨q, -, rfl⟩ := tn_mem hz
  intro e
  have := gq_rng wd lo hr hd r p q
  have e2 : gq wd lo hr hd r p q = -10 := e
  rw [e2] at this
  have e3 : (-10 : Int32).toInt = -10 := by decide
  omega
/-- class and model go the same way along the draws -/
theorem walk {N : Nat} (hN : 100010 ≤ N) {wd lo hr hd cs W Vv dr G M : Nat → Int32} {v : Nat → Nat} {win : Nat → Bool} {np nd r c s V : Nat} (hnp : np ≤ 300) (hnd : nd ≤ 2000) (hr5 : r < 5) (hc : c ≤ 6) (ecs : cs r = nI c) (hv : ∀ m, v m ≤ 300)
    (hge : ∀ x y, 1 ≤ x → x ≤ c → 1 ≤ y → y ≤ c → win x = true → win y = false → v y < v x) (hW : ∀ j, 1 ≤ j → j ≤ c → W j = bi (win j)) (hVv : ∀ j, 1 ≤ j → j ≤ c → Vv j = nI (v j)) (hne : prs win c ≠ []) (hV : 0 < V) (hVs : V ≤ s) (hs : s ≤ 300) (hVm : ∀ q ∈ prs win c, V ≤ v q.1 - v q.2)
    (hdr : ∀ d, d < nd → ∃ p, p < np ∧ dr d = nI p) (hG : ∀ p, p < np → G p = wg wd lo hr hd v (prs win c) r p) (hM : ∀ p, p < np → M p = wm wd lo hr hd v (prs win c) r p) :
    ∀ (rem n1 n2 d k : Nat) (t x m : Int32), d + rem = stl lo hr dr nd → rem < n1 → rem < n2 → k ≤ 1000000000 → ∃ (k' : Nat) (t' x' m' : Int32), k' ≤ 1000000000 ∧ f_X4_follow_L49 dr (nI s) (nI V) n1 (nI (stl lo hr dr nd)) (nI d) (nI k) t G M = some (nI k', t', G, M) ∧ f_X6_riskOf_L33 N (nI r) (nI nd) wd lo hr hd cs dr n2 (lN k) (nI d) (nI V) (nI s) x m t W Vv = some (nI k', nI V, nI s, x', m', t', W, Vv) := by
  have hle := stl_le lo hr dr nd
  intro rem
  induction rem with
  | zero =>
    intro n1 n2 d k t x m hdd h1 h2 hk
    obtain ⟨a, rfl⟩ : ∃ a, n1 = a + 1 := ⟨n1 - 1, by omega⟩
    obtain ⟨b, rfl⟩ : ∃ b, n2 = b + 1 := ⟨n2 - 1, by omega⟩
    refine ⟨k, t, x, m, hk, ?_, ?_⟩
    · rw [f_X4_follow_L49, if_pos (nI_le (by omega) (by omega))]
    · rw [f_X6_riskOf_L33]
      by_cases h : d < nd
      · obtain ⟨e, hp⟩ := pn_of hnp hdr h
        have hkn := stl_out (show stl lo hr dr nd < nd by omega)
        rw [if_neg (nI_ge h (by omega)), gd_nI (by omega) (by decide), cl_nI (by omega), e, e_isKnown (by omega), ob, bi_if, show d = stl lo hr dr nd by omega, hkn, if_neg (by decide), lN_i]
      · rw [if_pos (nI_le (by omega) (by omega)), lN_i]
  | succ rem ih =>
    intro n1 n2 d k t x m hdd h1 h2 hk
    obtain ⟨a, rfl⟩ : ∃ a, n1 = a + 1 := ⟨n1 - 1, by omega⟩
    obtain ⟨b, rfl⟩ : ∃ b, n2 = b + 1 := ⟨n2 - 1, by omega⟩
    have hdn : d < nd := by omega
    obtain ⟨e, hp⟩ := pn_of hnp hdr hdn
    have hkn := stl_in (show d < stl lo hr dr nd by omega)
    rw [f_X4_follow_L49, if_neg (nI_ge (by omega) (by omega)), gd_nI (j := d) (by omega) (by decide), cl_nI (j := d) (by omega), e, gd_nI (j := pn dr d) (n := 300) (by omega) (by decide), cl_nI (j := pn dr d) (by omega), hG _ hp, hM _ hp, gd_nI (j := pn dr d) (n := 300) (by omega) (by decide), gd_nI (j := pn dr d) (n := 300) (by omega) (by decide)]
    rw [f_X6_riskOf_L33, if_neg (nI_ge hdn (by omega)), gd_nI (j := d) (by omega) (by decide), cl_nI (j := d) (by omega), e, e_isKnown (by omega), ob, bi_if, hkn, if_pos rfl, gd_nI (j := d) (by omega) (by decide), e_isTakenM hN wd lo hr hd (by omega) hr5 hkn, ob, bi_if, gd_nI (j := d) (by omega) (by decide), nI_1]
    unfold wg wm
    cases ht : tq wd lo hr hd r (pn dr d)
    · simp only [Bool.false_eq_true, ↓reduceIte]
      exact ih a b (d + 1) k t x m (by omega) (by omega) (by omega) hk
    · obtain ⟨z, hz⟩ := tn_some (g := gq wd lo hr hd r (pn dr d)) (d := dq v) hne
      rw [if_pos rfl, if_pos rfl, if_pos rfl, hz, e_taints hN (by omega) hr5 hc ecs hv hge hW hVv x hz, ob]
      show ∃ (k' : Nat) (t' x' m' : Int32), k' ≤ 1000000000 ∧ (if z.1 = (-10 : Int32) then _ else _) = _ ∧ _
      rw [if_neg (wg_ne hz)]
      obtain ⟨q, hq, ez⟩ := tn_mem hz
      have hmm : v q.1 - v q.2 ≤ 300 := Nat.le_trans (Nat.sub_le _ _) (hv _)
      obtain ⟨g1, g2⟩ := gq_rng wd lo hr hd r (pn dr d) q
      obtain ⟨T, hT0, hT, -, eT⟩ := low g1 g2 hV (hVm q hq) hmm
      have ez1 : z.1 = gq wd lo hr hd r (pn dr d) q := by rw [ez]
      have ez2 : z.2 = nI (v q.1 - v q.2) := by rw [ez]; rfl
      obtain ⟨o, ho, hf⟩ := e_carryM hk hV hVs hs hmm hT0 hT eT
      obtain ⟨k', t', x', m', hk', c1, c2⟩ := ih a b (d + 1) (cn k s V (v q.1 - v q.2) T) (t + 1) z.1 z.2 (by omega) (by omega) (by omega) (cn_le _ _ _ _ _)
      refine ⟨k', t', x', m', hk', ?_, ?_⟩
      · show Option.bind (f_X2_carryOn (nI k) z.1 z.2 (nI s) (nI V)) _ = _
        rw [ez1, ez2, e_carryC hk hV hVs hs hmm hT0 hT eT, ob]
        exact c1
      · rw [ez1, ez2] at c2 ⊢
        rw [ho, ob, hf (fun y => f_X6_riskOf_L33 N (nI r) (nI nd) wd lo hr hd cs dr b y (nI (d + 1)) (nI V) (nI s) (gq wd lo hr hd r (pn dr d) q) (nI (v q.1 - v q.2)) (t + 1) W Vv)]
        exact c2
theorem nx_eq {A B c : Nat} (hB : 0 < B) (hc : 0 < c) : (A * c + B * c - 1) / (B * c) = (A + B - 1) / B := by
  rw [Nat.mul_comm B c, ← Nat.div_div_eq_div_mul]
  congr 1
  rw [show A * c + c * B - 1 = (A + B - 1) * c + (c - 1) by
    have : (A + B - 1 + 1) * c = (A + B) * c := by rw [show A + B - 1 + 1 = A + B by omega]
    rw [Nat.add_mul, Nat.one_mul, Nat.add_mul] at this
    rw [Nat.mul_comm c B]
    omega]
  rw [Nat.mul_comm, Nat.mul_add_div hc, Nat.div_eq_of_lt (by omega), Nat.add_zero]
def nx (k s V : Nat) : Nat := (k * (22 * s - 10 * V) + 22 * s - 1) / (22 * s)
theorem nx_le {k s V : Nat} (hs : 0 < s) : nx k s V ≤ k := by
  unfold nx
  refine Nat.le_of_lt_succ (Nat.div_lt_of_lt_mul ?_)
  have : k * (22 * s - 10 * V) ≤ k * (22 * s) := Nat.mul_le_mul (Nat.le_refl _) (by omega)
  rw [Nat.mul_succ, Nat.mul_comm (22 * s) k]
  omega
theorem cn_nx {k s V : Nat} (hk : k ≤ 1000000000) (hV : 0 < V) (hs : 0 < s) : cn k s V V (22 * V) = nx k s V := by
  have e : (k * (22 * s - 10 * V) * 22 * V + 22 * s * (22 * V) - 1) / (22 * s * (22 * V)) = nx k s V := by
    rw [Nat.mul_assoc (k * (22 * s - 10 * V)) 22 V]
    exact nx_eq (by omega) (by omega)
  have := nx_le (k := k) (V := V) hs
  unfold cn
  rw [e, if_neg (by omega)]
theorem e_nextM {k s V : Nat} (hk : k ≤ 1000000000) (hVs : V ≤ s) (hs0 : 0 < s) (hs : s ≤ 300) : f_X6_divides (lN k * (((22 : Int64) * (nI s).toInt64) - ((10 : Int64) * (nI V).toInt64))) ((22 : Int64) * (nI s).toInt64) = some (lN (nx k s V)) := by
  have hA1 := cAb (V := V) hk hs
  unfold f_X6_divides
  rw [nI_l (n := s) (by omega), nI_l (n := V) (by omega), cA (by omega), show (22 : Int64) * lN s = lN (22 * s) from lN_mul 22 s]
  unfold gz
  rw [if_neg (lN_ne0 (by omega) (by omega)), cD (by omega) (by omega) (by omega)]; rfl
theorem stay {s V lim k : Nat} (hk : k ≤ 1000000000) (hVs : V ≤ s) (hs0 : 0 < s) (hs : s ≤ 300) (hl : lim < k) (he : nx k s V = k) (th x m t : Int32) (W Vv : Nat → Int32) : ∀ (rem n j : Nat), j + rem = 100001 → rem < n → f_X6_need_L53 (nI lim) n (lN k) (nI j) th (nI V) (nI s) x m t W Vv = some (-1, th, nI V, nI s, x, m, t, W, Vv) := by
  have hgt : ¬ lg_cmp (lN k) (nI lim).toInt64 ≤ 0 := by
    rw [lg_cmp_le, nI_l (by omega), pk_lLE (by omega) (by omega)]; omega
  intro rem
  induction rem with
  | zero =>
    intro n j hj hn
    obtain ⟨a, rfl⟩ : ∃ a, n = a + 1 := ⟨n - 1, by omega⟩
    rw [f_X6_need_L53, if_neg hgt, if_pos (show (100000 : Int32) < nI j from nI_lt (a := 100000) (by omega) (by omega)), if_neg (show ¬ nI j ≤ (100000 : Int32) from nI_ge (a := 100000) (by omega) (by omega))]
  | succ rem ih =>
    intro n j hj hn
    obtain ⟨a, rfl⟩ : ∃ a, n = a + 1 := ⟨n - 1, by omega⟩
    rw [f_X6_need_L53, if_neg hgt, if_neg (show ¬ (100000 : Int32) < nI j from nI_nlt (b := j) (a := 100000) (by omega) (by omega)), e_nextM hk hVs hs0 hs, ob, he, nI_1]
    exact ih a (j + 1) (by omega) (by omega)
theorem e_need {s V lim : Nat} (hV : 0 < V) (hVs : V ≤ s) (hs : s ≤ 300) (hlim : lim ≤ 1000000000) (th x m t : Int32) (W Vv : Nat → Int32) : ∀ (rem n1 n2 j k : Nat), j + rem = 100001 → rem < n1 → rem < n2 → k ≤ 1000000000 → ∃ a, f_X2_cleanDrawsUntil_L5 (nI lim) (nI s) (nI V) n1 (nI k) (nI j) = some a ∧ f_X6_need_L53 (nI lim) n2 (lN k) (nI j) th (nI V) (nI s) x m t W Vv = some (a, th, nI V, nI s, x, m, t, W, Vv) := by
  intro rem
  induction rem with
  | zero =>
    intro n1 n2 j k hj h1 h2 hk
    obtain ⟨a, rfl⟩ : ∃ a, n1 = a + 1 := ⟨n1 - 1, by omega⟩
    obtain ⟨b, rfl⟩ : ∃ b, n2 = b + 1 := ⟨n2 - 1, by omega⟩
    refine ⟨-1, ?_, ?_⟩
    · rw [f_X2_cleanDrawsUntil_L5, if_pos (show (100000 : Int32) < nI j from nI_lt (a := 100000) (by omega) (by omega))]
    · rw [f_X6_need_L53, if_pos (show (100000 : Int32) < nI j from nI_lt (a := 100000) (by omega) (by omega)), if_neg (show ¬ nI j ≤ (100000 : Int32) from nI_ge (a := 100000) (by omega) (by omega)), ite_self]
  | succ rem ih =>
    intro n1 n2 j k hj h1 h2 hk
    obtain ⟨a, rfl⟩ : ∃ a, n1 = a + 1 := ⟨n1 - 1, by omega⟩
    obtain ⟨b, rfl⟩ : ∃ b, n2 = b + 1 := ⟨n2 - 1, by omega⟩
    rw [f_X2_cleanDrawsUntil_L5, if_neg (show ¬ (100000 : Int32) < nI j from nI_nlt (b := j) (a := 100000) (by omega) (by omega)), f_X6_need_L53, if_pos (show nI j ≤ (100000 : Int32) from nI_le (b := 100000) (by omega) (by decide)), if_neg (show ¬ (100000 : Int32) < nI j from nI_nlt (b := j) (a := 100000) (by omega) (by omega))]
    by_cases h : lim < k
    · have hgt : ¬ lg_cmp (lN k) (nI lim).toInt64 ≤ 0 := by
        rw [lg_cmp_le, nI_l (by omega), pk_lLE (by omega) (by omega)]; omega
      have g0 : (0 : Int32).toInt = 0 := by decide
      obtain ⟨T, hT0, hT, hT2, eT⟩ := low (gap := 0) (mm := V) (by rw [g0]; omega) (by rw [g0]; omega) hV (Nat.le_refl _) (by omega)
      rw [if_pos (nI_lt h (by omega)), e_carryC hk hV hVs hs (by omega) hT0 hT eT, ob, hT2 g0, cn_nx hk hV (by omega), if_neg hgt, e_nextM hk hVs (by omega) hs, ob, nI_1]
      have hnx := nx_le (k := k) (V := V) (show 0 < s by omega)
      by_cases he : nx k s V = k
      · rw [if_pos (by rw [he])]
        refine ⟨-1, rfl, ?_⟩
        rw [he]
        exact stay hk hVs (by omega) hs h he th x m t W Vv rem b (j + 1) (by omega) (by omega)
      · rw [if_neg (fun e => he ((nI_eq (by omega) (by omega)).mp e))]
        exact ih a b (j + 1) (nx k s V) (by omega) (by omega) (by omega) (by omega)
    · have hgt : lg_cmp (lN k) (nI lim).toInt64 ≤ 0 := by
        rw [lg_cmp_le, nI_l (by omega), pk_lLE (by omega) (by omega)]; omega
      rw [if_neg (nI_nlt (by omega) (by omega)), if_pos hgt]
      exact ⟨nI j, rfl, rfl⟩
end PURE6
