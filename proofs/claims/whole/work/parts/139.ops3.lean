/-! PURE, 10: risk, taken, taint, need. -/
section PURE10
theorem v_s {wd : Nat → Int32} {np j m : Nat} (hm : m ≠ 7) : wv wd np j m ≤ np - wv wd np j 7 := by
  have e := fb_ct_or (p := fun p => decide (mk (wd p) j = m)) (q := fun p => decide (mk (wd p) j = 7)) (n := np) (fun k _ h => by
    have h1 := of_decide_eq_true h.1
    have h2 := of_decide_eq_true h.2
    omega)
  have := fb_ct_le (fun k => decide (mk (wd k) j = m) || decide (mk (wd k) j = 7)) np
  show fb_ct (fun p => decide (mk (wd p) j = m)) np ≤ np - fb_ct (fun p => decide (mk (wd p) j = 7)) np
  omega
theorem e_weighs {N : Nat} (hN : 100010 ≤ N) {wd ho hw lo hr G M pm pw pl dr : Nat → Int32} {v : Nat → Nat} {ls : List (Nat × Nat)} {r np nd s V : Nat} {r0 t0 : Int32} (H : HO ho hr) (hr5 : r < 5) (hnp : np ≤ 300) (hnd : nd ≤ 2000) (hlen : ls.length ≤ 9) (hin : ∀ q ∈ ls, q.1 < 8 ∧ q.2 < 8)
    (hpw : ∀ i q, ls[i]? = some q → pw i = nI q.1 ∧ pl i = nI q.2 ∧ pm i = dq v q) (hdr : ∀ d, d < nd → ∃ p, p < np ∧ dr d = nI p) :
    f_X4_follow N (nI r) (nI np) r0 t0 (nI nd) dr lo ho G M (nI ls.length) (nI s) (nI V) wd hw pm pw pl = f_X4_follow_L49 dr (nI s) (nI V) N (nI (stl lo hr dr nd)) (0 : Int32) (1000000000 : Int32) (0 : Int32) (fa_fill (wg wd lo hr hw v ls r) G np) (fa_fill (wm wd lo hr hw v ls r) M np) := by
  unfold f_X4_follow
  have key := lp (L := fun n i => f_X4_follow_L3 N (nI r) (nI np) (nI nd) dr lo ho (nI ls.length) (nI s) (nI V) wd hw pm pw pl n (nI i) r0 t0 (fa_fill (wg wd lo hr hw v ls r) G i) (fa_fill (wm wd lo hr hw v ls r) M i)) (r := f_X4_follow_L49 dr (nI s) (nI V) N (nI (stl lo hr dr nd)) (0 : Int32) (1000000000 : Int32) (0 : Int32) (fa_fill (wg wd lo hr hw v ls r) G np) (fa_fill (wm wd lo hr hw v ls r) M np)) (hi := np) ?_ ?_ N 0 (Nat.zero_le _) (by omega)
  · rw [fa_fill_0, fa_fill_0] at key
    exact key
  · intro n
    show f_X4_follow_L3 N (nI r) (nI np) (nI nd) dr lo ho (nI ls.length) (nI s) (nI V) wd hw pm pw pl (n + 1) (nI np) r0 t0 (fa_fill (wg wd lo hr hw v ls r) G np) (fa_fill (wm wd lo hr hw v ls r) M np) = _
    rw [f_X4_follow_L3, if_pos (nI_le (Nat.le_refl _) (by omega)), e_settled hN (lo := lo) H hnp hnd hdr, ob]
  · intro n i hi
    show f_X4_follow_L3 N (nI r) (nI np) (nI nd) dr lo ho (nI ls.length) (nI s) (nI V) wd hw pm pw pl (n + 1) (nI i) r0 t0 (fa_fill (wg wd lo hr hw v ls r) G i) (fa_fill (wm wd lo hr hw v ls r) M i) = f_X4_follow_L3 N (nI r) (nI np) (nI nd) dr lo ho (nI ls.length) (nI s) (nI V) wd hw pm pw pl n (nI (i + 1)) r0 t0 (fa_fill (wg wd lo hr hw v ls r) G (i + 1)) (fa_fill (wm wd lo hr hw v ls r) M (i + 1))
    rw [f_X4_follow_L3, if_neg (nI_ge hi (by omega)), e_weigh hN H (by omega) hr5 hlen hin hpw, ob, nI_1, fa_fill_succ, fa_fill_succ]
/-- what a race's numbers give, where it has a risk -/
theorem RR_risk {j nr np : Nat} {wd cs ws : Nat → Int32} {P C Z Sz Mg : Int32} {tl pw pl pm : Nat → Int32} (h : RR j nr np wd cs ws P C Z Sz Mg tl pw pl pm) (hj : j < nr) (hnp : np ≤ 300) (hV : ¬ Mg = 0) :
    ∃ (c w V s : Nat), c ≤ 6 ∧ 0 < w ∧ w < c ∧ cs j = nI c ∧ ws j = nI w ∧ V = mgN (wv wd np j) (prs (wn (wv wd np j) c w) c) ∧ s = np - wv wd np j 7 ∧ Sz = nI s ∧ Mg = nI V ∧ P = nI (prs (wn (wv wd np j) c w) c).length ∧ 0 < V ∧ V ≤ s ∧ s ≤ 300 ∧ (∀ q ∈ prs (wn (wv wd np j) c w) c, V ≤ wv wd np j q.1 - wv wd np j q.2) ∧ prs (wn (wv wd np j) c w) c ≠ [] ∧ (∀ q ∈ prs (wn (wv wd np j) c w) c, q.1 < 8 ∧ q.2 < 8) ∧ (prs (wn (wv wd np j) c w) c).length ≤ 9 ∧
      (∀ x y, 1 ≤ x → x ≤ c → 1 ≤ y → y ≤ c → wn (wv wd np j) c w x = true → wn (wv wd np j) c w y = false → wv wd np j y < wv wd np j x) ∧ ∀ i q, (prs (wn (wv wd np j) c w) c)[i]? = some q → pw i = nI q.1 ∧ pl i = nI q.2 ∧ pm i = dq (wv wd np j) q := by
  obtain ⟨c, w, hc, hw1, hw, eC, eZ, e1, e2, ht, eS, eP, eM, hr⟩ := h.1 hj
  have hne := prs_ne (v := wv wd np j) hw1 hw
  have hV0 : 0 < mgN (wv wd np j) (prs (wn (wv wd np j) c w) c) := by
    refine Nat.pos_of_ne_zero (fun e => hV ?_)
    rw [eM, e]; rfl
  have hle : ∀ q ∈ prs (wn (wv wd np j) c w) c, mgN (wv wd np j) (prs (wn (wv wd np j) c w) c) ≤ wv wd np j q.1 - wv wd np j q.2 := fun q hq => mgN_le hq
  refine ⟨c, w, _, _, hc, hw1, hw, e1, e2, rfl, rfl, eS, eM, eP, hV0, ?_, by omega, hle, hne, fun q hq => ?_, prs_len hc, fun x y a1 a2 b1 b2 hx hy => ?_, hr⟩
  · obtain ⟨q, hq⟩ := List.exists_mem_of_ne_nil _ hne
    have h1 := hle q hq
    have h2 := prW_mem hq
    have h3 := v_s (wd := wd) (np := np) (j := j) (m := q.1) (by omega)
    omega
  · have := prW_mem hq; omega
  · have := hle (x, y) (prW_in b1 b2 hy hx a1 a2)
    have h2 : wv wd np j (x, y).1 = wv wd np j x := rfl
    have h3 : wv wd np j (x, y).2 = wv wd np j y := rfl
    omega
/-- class and model come to the same risk and as many draws taken -/
theorem risk_core {N : Nat} (hN : 100010 ≤ N) {j nr np nd : Nat} {wd cs ws lo ho hr hw dr G M iw vv : Nat → Int32} {P C Z Sz Mg r0 t0 m0 x0 m1 : Int32} {tl pw pl pm : Nat → Int32} (hR : RR j nr np wd cs ws P C Z Sz Mg tl pw pl pm) (H : HO ho hr) (hj : j < nr) (hnr : nr ≤ 5) (hnp : np ≤ 300) (hnd : nd ≤ 2000) (hdr : ∀ d, d < nd → ∃ p, p < np ∧ dr d = nI p) (hV : ¬ Mg = 0) :
    ∃ (k : Nat) (t x m : Int32) (G' M' W Vv : Nat → Int32), k ≤ 1000000000 ∧ f_X4_follow N (nI j) (nI np) r0 t0 (nI nd) dr lo ho G M P Sz Mg wd hw pm pw pl = some (nI k, t, G', M') ∧ f_X6_riskOf N (nI j) (nI np) (nI nd) (bi true) m0 x0 m1 wd lo hr hw cs iw vv ws dr = some (nI k, Mg, Sz, x, m, t, W, Vv) ∧
      ∃ (c w : Nat), c ≤ 6 ∧ cs j = nI c ∧ (∀ i, 1 ≤ i → i ≤ c → W i = bi (wn (wv wd np j) c w i)) ∧ (∀ i, 1 ≤ i → i ≤ c → Vv i = nI (wv wd np j i)) ∧ (∀ x y, 1 ≤ x → x ≤ c → 1 ≤ y → y ≤ c → wn (wv wd np j) c w x = true → wn (wv wd np j) c w y = false → wv wd np j y < wv wd np j x) ∧ prs (wn (wv wd np j) c w) c ≠ [] ∧ (prs (wn (wv wd np j) c w) c).length ≤ 9 ∧ P = nI (prs (wn (wv wd np j) c w) c).length ∧ (∀ q ∈ prs (wn (wv wd np j) c w) c, q.1 < 8 ∧ q.2 < 8) ∧ ∀ i q, (prs (wn (wv wd np j) c w) c)[i]? = some q → pw i = nI q.1 ∧ pl i = nI q.2 ∧ pm i = dq (wv wd np j) q := by
  obtain ⟨c, w, V, s, hc, hw1, hwc, e1, e2, eV, es, eS, eM, eP, hV0, hVs, hs, hVm, hne, hin, hlen, hlt, hrow⟩ := RR_risk hR hj hnp hV
  have hv : ∀ m, wv wd np j m ≤ 300 := fun m => Nat.le_trans (wv_le _ _ _ _) hnp
  have hW : ∀ i, 1 ≤ i → i ≤ c → wrw (wn (wv wd np j) c w) iw c i = bi (wn (wv wd np j) c w i) := fun i a b => wrw_in a b
  have hVv : ∀ i, 1 ≤ i → i ≤ c → vrw (wv wd np j) vv c i = nI (wv wd np j i) := fun i a b => vrw_in a b
  have hle := stl_le lo hr dr nd
  obtain ⟨k, t, x, m, hk, c1, c2⟩ := walk hN (wd := wd) (lo := lo) (hr := hr) (hd := hw) (cs := cs) (W := wrw (wn (wv wd np j) c w) iw c) (Vv := vrw (wv wd np j) vv c) (dr := dr) (G := fa_fill (wg wd lo hr hw (wv wd np j) (prs (wn (wv wd np j) c w) c) j) G np) (M := fa_fill (wm wd lo hr hw (wv wd np j) (prs (wn (wv wd np j) c w) c) j) M np) (v := wv wd np j) (win := wn (wv wd np j) c w) (np := np) (nd := nd) (r := j) (c := c) (s := s) (V := V) hnp hnd (by omega) hc e1 hv hlt hW hVv hne hV0 hVs hs hVm hdr (fun p hp => fa_fill_in hp) (fun p hp => fa_fill_in hp) (stl lo hr dr nd) N N 0 1000000000 0 x0 m1 (by omega) (by omega) (by omega) (Nat.le_refl _)
  refine ⟨k, t, x, m, fa_fill (wg wd lo hr hw (wv wd np j) (prs (wn (wv wd np j) c w) c) j) G np, fa_fill (wm wd lo hr hw (wv wd np j) (prs (wn (wv wd np j) c w) c) j) M np, wrw (wn (wv wd np j) c w) iw c, vrw (wv wd np j) vv c, hk, ?_, ?_, c, w, hc, e1, hW, hVv, hlt, hne, hlen, eP, hin, hrow⟩
  · rw [eP, eS, eM, e_weighs hN H (by omega) hnp hnd hlen hin hrow hdr]
    exact c1
  · unfold f_X6_riskOf
    rw [e_knows hN wd lo hr hw cs ws iw vv hnp (by omega) hc hw1 hwc e1 e2 (wv_vt wd lo hr hw np j).symm, ob, if_neg (show ¬ bi true = 0 from by decide), ← eV, ← es, if_neg (nI_ne0 hV0 (by omega)), eM, eS]
    exact c2
/-- .. and where there is none -/
theorem risk_none {N : Nat} (hN : 100010 ≤ N) {j nr np nd : Nat} {sl : Bool} {wd cs ws lo hr hw dr iw vv : Nat → Int32} {P C Z Sz Mg m0 x0 m1 : Int32} {tl pw pl pm : Nat → Int32} (hR : RR j nr np wd cs ws P C Z Sz Mg tl pw pl pm) (hj : j < nr) (hnr : nr ≤ 5) (hnp : np ≤ 300) (h : sl = false ∨ Mg = 0) :
    ∃ (a b : Int32) (W Vv : Nat → Int32), f_X6_riskOf N (nI j) (nI np) (nI nd) (bi sl) m0 x0 m1 wd lo hr hw cs iw vv ws dr = some (-1, a, b, x0, m1, 0, W, Vv) ∧ f_X5_hasRisk (nI j) (bi sl) Mg = some 0 := by
  obtain ⟨c, w, hc, hw1, hwc, eC, eZ, e1, e2, ht, eS, eP, eM, hrow⟩ := hR.1 hj
  refine ⟨nI (mgN (wv wd np j) (prs (wn (wv wd np j) c w) c)), nI (np - wv wd np j 7), wrw (wn (wv wd np j) c w) iw c, vrw (wv wd np j) vv c, ?_, ?_⟩
  · unfold f_X6_riskOf
    rw [e_knows hN wd lo hr hw cs ws iw vv hnp (by omega) hc hw1 hwc e1 e2 (wv_vt wd lo hr hw np j).symm, ob, bi_if]
    rcases h with h | h
    · rw [h]; rfl
    · rw [eM] at h
      rw [if_pos h, ite_self]
  · unfold f_X5_hasRisk
    rw [bi_if, gd_nI (by omega) (by decide)]
    rcases h with h | h
    · rw [h]; rfl
    · rw [h, if_pos (show (0 : Int32) ≤ 0 from by decide), ite_self]
theorem hasRisk_yes {j nr np : Nat} {wd cs ws : Nat → Int32} {P C Z Sz Mg : Int32} {tl pw pl pm : Nat → Int32} (hR : RR j nr np wd cs ws P C Z Sz Mg tl pw pl pm) (hj : j < nr) (hnr : nr ≤ 5) (hnp : np ≤ 300) (hV : ¬ Mg = 0) : f_X5_hasRisk (nI j) (bi true) Mg = some 1 := by
  obtain ⟨c, w, V, s, hc, hw1, hw, e1, e2, eV, es, eS, eM, eP, hV0, hVs, hs, -⟩ := RR_risk hR hj hnp hV
  unfold f_X5_hasRisk
  rw [bi_if, if_pos rfl, gd_nI (by omega) (by decide), eM, if_neg (nI_nle hV0 (by omega))]
theorem o_risk_out {N : Nat} {x sl P Sz Mg np r0 t0 nd : Int32} {nr : Nat} {dr lo ho G M wd hw pm pw pl : Nat → Int32} {out : Nat → Int64} (h : outOf x nr) : f_L_risk N x (nI nr) sl P Sz Mg np r0 t0 nd dr lo ho G M wd hw pm pw pl out = some (1, r0, t0, G, M, out) := by
  unfold f_L_risk f_X5_risk
  rw [e_race_out h]; rfl
theorem m_risk_out {N : Nat} {x np nd sl mg hv x0 m0 t0 : Int32} {nr : Nat} {wd lo hr hd cs iw vv ws dr : Nat → Int32} (h : outOf x nr) : f_X6_risk N x (nI nr) np nd sl mg hv x0 m0 t0 wd lo hr hd cs iw vv ws dr = some (0, 1, mg, hv, x0, m0, t0, iw, vv) := by
  unfold f_X6_risk
  rw [e_isRace_out h]; rfl
theorem o_taken_out {N : Nat} {x sl P Sz Mg np r0 t0 nd : Int32} {nr : Nat} {dr lo ho G M wd hw pm pw pl : Nat → Int32} {out : Nat → Int64} (h : outOf x nr) : f_L_taken N x (nI nr) sl P Sz Mg np r0 t0 nd dr lo ho G M wd hw pm pw pl out = some (1, r0, t0, G, M, out) := by
  unfold f_L_taken f_X5_taken
  rw [e_race_out h]; rfl
theorem m_taken_out {N : Nat} {x np nd sl mg hv x0 m0 t0 : Int32} {nr : Nat} {wd lo hr hd cs iw vv ws dr : Nat → Int32} (h : outOf x nr) : f_X6_taken N x (nI nr) np nd sl mg hv x0 m0 t0 wd lo hr hd cs iw vv ws dr = some (0, 1, mg, hv, x0, m0, t0, iw, vv) := by
  unfold f_X6_taken
  rw [e_isRace_out h]; rfl
theorem o_need_out {N : Nat} {x y sl P Sz Mg np r0 t0 nd : Int32} {nr : Nat} {dr lo ho G M wd hw pm pw pl : Nat → Int32} {out : Nat → Int64} (h : outOf x nr) : f_L_need N x y (nI nr) sl P Sz Mg np r0 t0 nd dr lo ho G M wd hw pm pw pl out = some (1, r0, t0, G, M, out) := by
  unfold f_L_need f_X5_need
  rw [e_race_out h]; rfl
theorem m_need_out {N : Nat} {x y np nd sl mg hv x0 m0 t0 : Int32} {nr : Nat} {wd lo hr hd cs iw vv ws dr : Nat → Int32} (h : outOf x nr) : f_X6_need N x y (nI nr) np nd sl mg hv x0 m0 t0 wd lo hr hd cs iw vv ws dr = some (0, 1, mg, hv, x0, m0, t0, iw, vv) := by
  unfold f_X6_need
  rw [e_isRace_out h]; rfl
theorem o_taint_out {N : Nat} {x y sl P Mg nd : Int32} {nr : Nat} {dr lo ho G M wd hw pm pw pl : Nat → Int32} {out : Nat → Int64} (h : outOf x nr) : f_L_taint N x y (nI nr) sl nd P Mg dr lo ho wd hw G M pm pw pl out = some (1, G, M, out) := by
  unfold f_L_taint f_X5_taint
  rw [e_race_out h]; rfl
theorem m_taint_out {N : Nat} {x y np nd sl mg hv x0 m0 t0 : Int32} {nr : Nat} {wd lo hr hd cs iw vv ws dr : Nat → Int32} (h : outOf x nr) : f_X6_taint N x y (nI nr) np nd sl mg hv x0 m0 t0 wd lo hr hd cs iw vv ws dr = some (0, 1, mg, hv, x0, m0, t0, iw, vv) := by
  unfold f_X6_taint
  rw [e_isRace_out h]; rfl
theorem o_risk {N : Nat} (hN : 100010 ≤ N) {j nr np nd : Nat} {sl : Bool} {wd cs ws lo ho hr hw dr G M iw vv : Nat → Int32} {P C Z Sz Mg r0 t0 m0 h0 x0 m1 k1 : Int32} {tl pw pl pm : Nat → Int32} (out : Nat → Int64) (hR : RR j nr np wd cs ws P C Z Sz Mg tl pw pl pm) (H : HO ho hr) (hj : j < nr) (hnr : nr ≤ 5) (hnp : np ≤ 300) (hnd : nd ≤ 2000) (hdr : ∀ d, d < nd → ∃ p, p < np ∧ dr d = nI p) :
    ∃ (k b r' t' mg hv x m tk : Int32) (G' M' W Vv : Nat → Int32) (out' : Nat → Int64), f_L_risk N (nI j) (nI nr) (bi sl) P Sz Mg (nI np) r0 t0 (nI nd) dr lo ho G M wd hw pm pw pl out = some (k, r', t', G', M', out') ∧ f_X6_risk N (nI j) (nI nr) (nI np) (nI nd) (bi sl) m0 h0 x0 m1 k1 wd lo hr hw cs iw vv ws dr = some (b, k, mg, hv, x, m, tk, W, Vv) ∧ same k b out' := by
  unfold f_L_risk f_X5_risk f_X6_risk
  rw [e_race_in hj (by omega), ob, i10, e_isRace_in hj (by omega), ob]
  show ∃ (k b r' t' mg hv x m tk : Int32) (G' M' W Vv : Nat → Int32) (out' : Nat → Int64), _ ∧ (if (1 : Int32) = 0 then _ else _) = _ ∧ _
  rw [i10]
  by_cases h : sl = false ∨ Mg = 0
  · obtain ⟨a, b, W, Vv, c1, c2⟩ := risk_none hN (nd := nd) (lo := lo) (hr := hr) (hw := hw) (dr := dr) (iw := iw) (vv := vv) (m0 := m0) (x0 := x0) (m1 := m1) hR hj hnr hnp h
    rw [c1, c2]
    exact ⟨0, -1, r0, t0, a, b, x0, m1, 0, G, M, W, Vv, _, rfl, rfl, same0 _ out⟩
  · have hs : sl = true := by cases sl; exact absurd (Or.inl rfl) h; rfl
    subst hs
    have hV : ¬ Mg = 0 := fun e => h (Or.inr e)
    obtain ⟨k, t, x, m, G', M', W, Vv, hk, c1, c2, -⟩ := risk_core hN (lo := lo) (hw := hw) (dr := dr) (G := G) (M := M) (iw := iw) (vv := vv) (r0 := r0) (t0 := t0) (m0 := m0) (x0 := x0) (m1 := m1) hR H hj hnr hnp hnd hdr hV
    rw [hasRisk_yes hR hj hnr hnp hV, ob, i10, gd_nI (by omega) (by decide), c1, c2]
    exact ⟨0, nI k, nI k, t, Mg, Sz, x, m, t, G', M', W, Vv, _, rfl, rfl, same0 _ out⟩
theorem o_taken {N : Nat} (hN : 100010 ≤ N) {j nr np nd : Nat} {sl : Bool} {wd cs ws lo ho hr hw dr G M iw vv : Nat → Int32} {P C Z Sz Mg r0 t0 m0 h0 x0 m1 k1 : Int32} {tl pw pl pm : Nat → Int32} (out : Nat → Int64) (hR : RR j nr np wd cs ws P C Z Sz Mg tl pw pl pm) (H : HO ho hr) (hj : j < nr) (hnr : nr ≤ 5) (hnp : np ≤ 300) (hnd : nd ≤ 2000) (hdr : ∀ d, d < nd → ∃ p, p < np ∧ dr d = nI p) :
    ∃ (k b r' t' mg hv x m tk : Int32) (G' M' W Vv : Nat → Int32) (out' : Nat → Int64), f_L_taken N (nI j) (nI nr) (bi sl) P Sz Mg (nI np) r0 t0 (nI nd) dr lo ho G M wd hw pm pw pl out = some (k, r', t', G', M', out') ∧ f_X6_taken N (nI j) (nI nr) (nI np) (nI nd) (bi sl) m0 h0 x0 m1 k1 wd lo hr hw cs iw vv ws dr = some (b, k, mg, hv, x, m, tk, W, Vv) ∧ same k b out' := by
  unfold f_L_taken f_X5_taken f_X6_taken
  rw [e_race_in hj (by omega), ob, i10, e_isRace_in hj (by omega), ob]
  show ∃ (k b r' t' mg hv x m tk : Int32) (G' M' W Vv : Nat → Int32) (out' : Nat → Int64), _ ∧ (if (1 : Int32) = 0 then _ else _) = _ ∧ _
  rw [i10]
  by_cases h : sl = false ∨ Mg = 0
  · obtain ⟨a, b, W, Vv, c1, c2⟩ := risk_none hN (nd := nd) (lo := lo) (hr := hr) (hw := hw) (dr := dr) (iw := iw) (vv := vv) (m0 := m0) (x0 := x0) (m1 := m1) hR hj hnr hnp h
    rw [c1, c2]
    exact ⟨0, 0, r0, t0, a, b, x0, m1, 0, G, M, W, Vv, _, rfl, rfl, same0 _ out⟩
  · have hs : sl = true := by cases sl; exact absurd (Or.inl rfl) h; rfl
    subst hs
    have hV : ¬ Mg = 0 := fun e => h (Or.inr e)
    obtain ⟨k, t, x, m, G', M', W, Vv, hk, c1, c2, -⟩ := risk_core hN (lo := lo) (hw := hw) (dr := dr) (G := G) (M := M) (iw := iw) (vv := vv) (r0 := r0) (t0 := t0) (m0 := m0) (x0 := x0) (m1 := m1) hR H hj hnr hnp hnd hdr hV
    rw [hasRisk_yes hR hj hnr hnp hV, ob, i10, gd_nI (by omega) (by decide), c1, c2]
    exact ⟨0, t, nI k, t, Mg, Sz, x, m, t, G', M', W, Vv, _, rfl, rfl, same0 _ out⟩
theorem o_need {N : Nat} (hN : 100010 ≤ N) {y : Int32} {j nr np nd : Nat} {sl : Bool} {wd cs ws lo ho hr hw dr G M iw vv : Nat → Int32} {P C Z Sz Mg r0 t0 m0 h0 x0 m1 k1 : Int32} {tl pw pl pm : Nat → Int32} (out : Nat → Int64) (hR : RR j nr np wd cs ws P C Z Sz Mg tl pw pl pm) (H : HO ho hr) (hj : j < nr) (hnr : nr ≤ 5) (hnp : np ≤ 300) (hnd : nd ≤ 2000) (hdr : ∀ d, d < nd → ∃ p, p < np ∧ dr d = nI p) :
    ∃ (k b r' t' mg hv x m tk : Int32) (G' M' W Vv : Nat → Int32) (out' : Nat → Int64), f_L_need N (nI j) y (nI nr) (bi sl) P Sz Mg (nI np) r0 t0 (nI nd) dr lo ho G M wd hw pm pw pl out = some (k, r', t', G', M', out') ∧ f_X6_need N (nI j) y (nI nr) (nI np) (nI nd) (bi sl) m0 h0 x0 m1 k1 wd lo hr hw cs iw vv ws dr = some (b, k, mg, hv, x, m, tk, W, Vv) ∧ same k b out' := by
  unfold f_L_need f_X5_need f_X6_need
  rw [e_race_in hj (by omega), ob, i10, e_isRace_in hj (by omega), ob]
  show ∃ (k b r' t' mg hv x m tk : Int32) (G' M' W Vv : Nat → Int32) (out' : Nat → Int64), _ ∧ (if (1 : Int32) = 0 then _ else _) = _ ∧ _
  rw [i10, r02, r12]
  rcases ix_or y (show 1000000001 < 2 ^ 31 by decide) with h | ⟨lim, hl, rfl⟩
  · refine ⟨2, 0, r0, t0, m0, h0, x0, m1, k1, G, M, iw, vv, out, ?_, ?_, same2 _ _⟩
    · by_cases e1 : y < 0
      · rw [if_pos e1]; rfl
      · have e2 : ¬ y ≤ (1000000000 : Int32) := by
          have := h.resolve_left e1
          rw [fa_le, nI_toInt (by decide)] at this
          rw [fa_le, show (1000000000 : Int32).toInt = 1000000000 from by decide]
          omega
        rw [if_neg e1, if_neg e2]; rfl
    · by_cases e1 : y < 0
      · rw [if_pos e1]; rfl
      · have e2 : (1000000000 : Int32) < y := by
          have := h.resolve_left e1
          rw [fa_le, nI_toInt (by decide)] at this
          rw [fa_lt, show (1000000000 : Int32).toInt = 1000000000 from by decide]
          omega
        rw [if_neg e1, if_pos e2]; rfl
  · rw [if_neg (nI_pos (by omega)), if_neg (nI_pos (by omega)), if_pos (show nI lim ≤ (1000000000 : Int32) from nI_le (b := 1000000000) (by omega) (by decide)), if_neg (show ¬ (1000000000 : Int32) < nI lim from nI_nlt (b := lim) (a := 1000000000) (by omega) (by decide)), ob]
    show ∃ (k b r' t' mg hv x m tk : Int32) (G' M' W Vv : Nat → Int32) (out' : Nat → Int64), _ ∧ (if (1 : Int32) = 0 then _ else _) = _ ∧ _
    rw [i10]
    by_cases h : sl = false ∨ Mg = 0
    · obtain ⟨a, b, W, Vv, c1, c2⟩ := risk_none hN (nd := nd) (lo := lo) (hr := hr) (hw := hw) (dr := dr) (iw := iw) (vv := vv) (m0 := m0) (x0 := x0) (m1 := m1) hR hj hnr hnp h
      rw [c1, c2]
      refine ⟨0, -1, r0, t0, a, b, x0, m1, 0, G, M, W, Vv, _, rfl, ?_, same0 _ out⟩
      rw [ob]
      exact if_pos (show lg_cmp (-1 : Int32).toInt64 (-1 : Int64) = 0 from by decide)
    · have hs : sl = true := by cases sl; exact absurd (Or.inl rfl) h; rfl
      subst hs
      have hV : ¬ Mg = 0 := fun e => h (Or.inr e)
      obtain ⟨k, t, x, m, G', M', W, Vv, hk, c1, c2, -⟩ := risk_core hN (lo := lo) (hw := hw) (dr := dr) (G := G) (M := M) (iw := iw) (vv := vv) (r0 := r0) (t0 := t0) (m0 := m0) (x0 := x0) (m1 := m1) hR H hj hnr hnp hnd hdr hV
      obtain ⟨c, w, V, s, hc, hw1, hw2, e1, e2, eV, es, eS, eM, eP, hV0, hVs, hs, -⟩ := RR_risk hR hj hnp hV
      obtain ⟨a, d1, d2⟩ := e_need (lim := lim) hV0 hVs hs (by omega) (0 : Int32) x m t W Vv 100001 N N 0 k (by omega) (by omega) (by omega) hk
      rw [hasRisk_yes hR hj hnr hnp hV, ob, i10, gd_nI (by omega) (by decide), c1, c2, ob, ob, gd_nI (by omega) (by decide)]
      refine ⟨0, a, nI k, t, Mg, Sz, x, m, t, G', M', W, Vv, vp_updL out (0 : Int32).toNatClampNeg a.toInt64, ?_, ?_, same0 _ out⟩
      · unfold f_X2_cleanDrawsUntil
        rw [eS, eM]
        show Option.bind (Option.bind (f_X2_cleanDrawsUntil_L5 (nI lim) (nI s) (nI V) N (nI k) (0 : Int32)) _) _ = _
        rw [show f_X2_cleanDrawsUntil_L5 (nI lim) (nI s) (nI V) N (nI k) (0 : Int32) = _ from d1]; rfl
      · show (if lg_cmp (nI k).toInt64 (-1 : Int64) = 0 then _ else f_X6_need_L53 (nI lim) N (nI k).toInt64 (0 : Int32) (0 : Int32) Mg Sz x m t W Vv) = _
        rw [nI_l (by omega), if_neg (by
          rw [lg_cmp_eq]
          intro e
          have := congrArg Int64.toInt e
          rw [pk_lT (by omega), show (-1 : Int64).toInt = -1 from by decide] at this
          omega), eM, eS]
        exact d2
/-- the model's look ahead: are draws 0 to d all read or lost -/
theorem ahead_loop {N : Nat} (hN : 100010 ≤ N) {lo hr dr wd hw cs : Nat → Int32} {np nd r d : Nat} (hnp : np ≤ 300) (hnd : nd ≤ 2000) (hdr : ∀ i, i < nd → ∃ p, p < np ∧ dr i = nI p) (hd : d < nd) (th mg hv x m tk : Int32) (W Vv : Nat → Int32) :
    f_X6_taint_L66 N (nI r) (nI d) wd lo hr hw cs dr N (1 : Int32) (0 : Int32) th mg hv x m tk W Vv = if d < stl lo hr dr nd then Option.bind (f_X6_taints N (dr d) (nI r) x cs W wd lo hr hw Vv) (fun o7 => some (o7.1, th, mg, hv, o7.1, o7.2, tk, W, Vv)) else some (-10, th, mg, hv, x, m, tk, W, Vv) := by
  have fin : ∀ (n : Nat) (b : Bool), f_X6_taint_L66 N (nI r) (nI d) wd lo hr hw cs dr (n + 1) (bi b) (nI (d + 1)) th mg hv x m tk W Vv = if b then Option.bind (f_X6_taints N (dr d) (nI r) x cs W wd lo hr hw Vv) (fun o7 => some (o7.1, th, mg, hv, o7.1, o7.2, tk, W, Vv)) else some (-10, th, mg, hv, x, m, tk, W, Vv) := by
    intro n b
    rw [f_X6_taint_L66, if_pos (nI_lt (by omega) (by omega)), bi_if, gd_nI (by omega) (by decide), cl_nI (by omega)]
  have no : ∀ (n i : Nat), i ≤ d + 1 → d + 1 - i < n → f_X6_taint_L66 N (nI r) (nI d) wd lo hr hw cs dr n (0 : Int32) (nI i) th mg hv x m tk W Vv = some (-10, th, mg, hv, x, m, tk, W, Vv) := by
    refine lp (L := fun n i => f_X6_taint_L66 N (nI r) (nI d) wd lo hr hw cs dr n (0 : Int32) (nI i) th mg hv x m tk W Vv) (hi := d + 1) (fun n => fin n false) ?_
    intro n i hi
    show f_X6_taint_L66 N (nI r) (nI d) wd lo hr hw cs dr (n + 1) (0 : Int32) (nI i) th mg hv x m tk W Vv = f_X6_taint_L66 N (nI r) (nI d) wd lo hr hw cs dr n (0 : Int32) (nI (i + 1)) th mg hv x m tk W Vv
    rw [f_X6_taint_L66, if_neg (nI_nlt (by omega) (by omega)), if_pos rfl, nI_1]
  have step : ∀ (n i : Nat), i ≤ d → f_X6_taint_L66 N (nI r) (nI d) wd lo hr hw cs dr (n + 1) (1 : Int32) (nI i) th mg hv x m tk W Vv = f_X6_taint_L66 N (nI r) (nI d) wd lo hr hw cs dr n (bi (kn lo hr (pn dr i))) (nI (i + 1)) th mg hv x m tk W Vv := by
    intro n i hi
    obtain ⟨e, hp⟩ := pn_of hnp hdr (show i < nd by omega)
    rw [f_X6_taint_L66, if_neg (nI_nlt hi (by omega)), i10, gd_nI (by omega) (by decide), cl_nI (by omega), e, e_isKnown (by omega), ob, bi_if, nI_1]
    cases kn lo hr (pn dr i) <;> rfl
  have hle := stl_le lo hr dr nd
  by_cases h : d < stl lo hr dr nd
  · rw [if_pos h]
    refine lp (L := fun n i => f_X6_taint_L66 N (nI r) (nI d) wd lo hr hw cs dr n (1 : Int32) (nI i) th mg hv x m tk W Vv) (hi := d + 1) (fun n => fin n true) ?_ N 0 (Nat.zero_le _) (by omega)
    intro n i hi
    show f_X6_taint_L66 N (nI r) (nI d) wd lo hr hw cs dr (n + 1) (1 : Int32) (nI i) th mg hv x m tk W Vv = f_X6_taint_L66 N (nI r) (nI d) wd lo hr hw cs dr n (1 : Int32) (nI (i + 1)) th mg hv x m tk W Vv
    rw [step n i (by omega), stl_in (show i < stl lo hr dr nd by omega)]; rfl
  · rw [if_neg h]
    have go : ∀ (n i : Nat), i ≤ stl lo hr dr nd → 3000 - i < n → f_X6_taint_L66 N (nI r) (nI d) wd lo hr hw cs dr n (1 : Int32) (nI i) th mg hv x m tk W Vv = some (-10, th, mg, hv, x, m, tk, W, Vv) := by
      intro n
      induction n with
      | zero => intro i _ h2; omega
      | succ n ih =>
        intro i h1 h2
        rw [step n i (by omega)]
        by_cases e : i = stl lo hr dr nd
        · rw [e, stl_out (by omega)]
          exact no n _ (by omega) (by omega)
        · rw [stl_in (show i < stl lo hr dr nd by omega)]
          exact ih (i + 1) (by omega) (by omega)
    exact go N 0 (Nat.zero_le _) (by omega)
theorem e_isTakenX {N : Nat} (hN : 100010 ≤ N) (wd lo hr hd : Nat → Int32) {r p : Nat} (hp : p < 300) (hr5 : r < 5) : ∃ b, f_X6_isTaken N (nI p) (nI r) wd lo hr hd = some (bi b) ∧ (kn lo hr p = true → b = tq wd lo hr hd r p) := by
  by_cases hk : kn lo hr p = true
  · exact ⟨_, e_isTakenM hN wd lo hr hd hp hr5 hk, fun _ => rfl⟩
  · have h1 := n7 (mk_lt (wd p) r)
    have h2 := n7 (rg_lt hr hd p r)
    refine ⟨decide (mk (wd p) r ≠ 7) || (decide (lo p = 0) && decide (rg hr hd p r ≠ 7)), ?_, fun h => absurd h hk⟩
    unfold f_X6_isTaken
    rw [gd_nI (j := p) hp (by decide), cl_nI (j := p) (by omega), e_of _ hr5, ob, gd_nI (j := p) hp (by decide), e_readingOf hN hp hr5, ob]
    simp only [h1, h2]
    by_cases hl : lo p = 0 <;> by_cases a : mk (wd p) r = 7 <;> by_cases b : rg hr hd p r = 7 <;> simp [a, b, bi, hl]
theorem o_taint {N : Nat} (hN : 100010 ≤ N) {y : Int32} {j nr np nd : Nat} {sl : Bool} {wd cs ws lo ho hr hw dr G M iw vv : Nat → Int32} {P C Z Sz Mg m0 h0 x0 m1 k1 : Int32} {tl pw pl pm : Nat → Int32} (out : Nat → Int64) (hR : RR j nr np wd cs ws P C Z Sz Mg tl pw pl pm) (H : HO ho hr) (hj : j < nr) (hnr : nr ≤ 5) (hnp : np ≤ 300) (hnd : nd ≤ 2000) (hdr : ∀ d, d < nd → ∃ p, p < np ∧ dr d = nI p) :
    ∃ (k b mg hv x m tk : Int32) (G' M' W Vv : Nat → Int32) (out' : Nat → Int64), f_L_taint N (nI j) y (nI nr) (bi sl) (nI nd) P Mg dr lo ho wd hw G M pm pw pl out = some (k, G', M', out') ∧ f_X6_taint N (nI j) y (nI nr) (nI np) (nI nd) (bi sl) m0 h0 x0 m1 k1 wd lo hr hw cs iw vv ws dr = some (b, k, mg, hv, x, m, tk, W, Vv) ∧ same k b out' := by
  unfold f_L_taint f_X5_taint f_X6_taint
  rw [e_race_in hj (by omega), ob, i10, e_isRace_in hj (by omega), ob]
  show ∃ (k b mg hv x m tk : Int32) (G' M' W Vv : Nat → Int32) (out' : Nat → Int64), _ ∧ (if (1 : Int32) = 0 then _ else _) = _ ∧ _
  rw [i10, r01, r11]
  rcases ix_or y (show nd < 2 ^ 31 by omega) with h | ⟨d, hd, rfl⟩
  · refine ⟨1, 0, m0, h0, x0, m1, k1, G, M, iw, vv, out, ?_, ?_, same1 _ _⟩
    · rw [e_has0_out h]; rfl
    · rw [has_out h]; rfl
  · rw [e_has0_in hd (by omega), has_in hd (by omega), ob, i10, ob]
    show ∃ (k b mg hv x m tk : Int32) (G' M' W Vv : Nat → Int32) (out' : Nat → Int64), _ ∧ (if (1 : Int32) = 0 then _ else _) = _ ∧ _
    rw [i10]
    by_cases h : sl = false ∨ Mg = 0
    · obtain ⟨a, b, W, Vv, c1, c2⟩ := risk_none hN (nd := nd) (lo := lo) (hr := hr) (hw := hw) (dr := dr) (iw := iw) (vv := vv) (m0 := m0) (x0 := x0) (m1 := m1) hR hj hnr hnp h
      rw [c1, c2]
      exact ⟨0, -10, a, b, x0, m1, 0, G, M, W, Vv, _, rfl, rfl, same0 _ out⟩
    · have hs : sl = true := by cases sl; exact absurd (Or.inl rfl) h; rfl
      subst hs
      have hV : ¬ Mg = 0 := fun e => h (Or.inr e)
      obtain ⟨k, t, x, m, G', M', W, Vv, hk, c1, c2, c, w, hc, ecs, hW, hVv, hlt, hne, hlen, eP, hin, hrow⟩ := risk_core hN (lo := lo) (hw := hw) (dr := dr) (G := G) (M := M) (iw := iw) (vv := vv) (r0 := 0) (t0 := 0) (m0 := m0) (x0 := x0) (m1 := m1) hR H hj hnr hnp hnd hdr hV
      obtain ⟨e, hp⟩ := pn_of hnp hdr hd
      obtain ⟨tb, ht1, ht2⟩ := e_isTakenX hN wd lo hr hw (r := j) (show pn dr d < 300 by omega) (by omega)
      have hle := stl_le lo hr dr nd
      rw [hasRisk_yes hR hj hnr hnp hV, ob, i10, e_settled hN (lo := lo) H hnp hnd hdr, ob, c2, ob]
      show ∃ (k' b mg hv x m tk : Int32) (G' M' W Vv : Nat → Int32) (out' : Nat → Int64), _ ∧ (if nI k = (-1 : Int32) then _ else _) = _ ∧ _
      rw [if_neg (show ¬ nI k = (-1 : Int32) from fun q => by
        have := congrArg Int32.toInt q
        rw [nI_toInt (by omega), show (-1 : Int32).toInt = -1 from by decide] at this
        omega), gd_nI (j := d) (n := 2000) (by omega) (by decide), gd_nI (j := d) (n := 2000) (by omega) (by decide), cl_nI (j := d) (by omega), e, gd_nI (j := j) (n := 5) (by omega) (by decide), ht1, ob, bi_if, eP, e_weigh hN H (by omega) (by omega) hlen hin hrow, ob, gd_nI (j := pn dr d) (n := 300) (by omega) (by decide), cl_nI (j := pn dr d) (by omega)]
      simp only [pk_us]
      show ∃ (k' b' mg' hv' x' m' tk' : Int32) (G2 M2 W2 V2 : Nat → Int32) (out' : Nat → Int64), _ ∧ (if tb = true then f_X6_taint_L66 N (nI j) (nI d) wd lo hr hw cs dr N (1 : Int32) (0 : Int32) (0 : Int32) Mg Sz x m t W Vv else some (-10, (0 : Int32), Mg, Sz, x, m, t, W, Vv)) = _ ∧ _
      rw [ahead_loop hN hnp hnd hdr hd]
      by_cases hst : d < stl lo hr dr nd
      · have htb := ht2 (stl_in hst)
        rw [if_pos (nI_lt hst (by omega)), if_pos hst, htb, e]
        unfold wg
        cases hq : tq wd lo hr hw j (pn dr d)
        · exact ⟨0, -10, Mg, Sz, x, m, t, _, _, W, Vv, _, rfl, rfl, same0 _ out⟩
        · obtain ⟨z, hz⟩ := tn_some (g := gq wd lo hr hw j (pn dr d)) (d := dq (wv wd np j)) hne
          rw [if_pos rfl, if_pos rfl, hz, e_taints hN (by omega) (by omega) hc ecs (fun m => Nat.le_trans (wv_le _ _ _ _) hnp) hlt hW hVv x hz]
          exact ⟨0, z.1, Mg, Sz, z.1, z.2, t, _, _, W, Vv, _, rfl, rfl, same0 _ out⟩
      · rw [if_neg (nI_nlt (by omega) (by omega)), if_neg hst, ite_self]
        exact ⟨0, -10, Mg, Sz, x, m, t, G, M, W, Vv, _, rfl, rfl, same0 _ out⟩
end PURE10
