/-! PURE, 11: what holds of the whole state between two calls; each call keeps it. -/
section PURE11
def IA (nr nb np nd : Nat) (sl : Bool) (s : Nat → Int32) : Prop := (nr ≤ 5 ∧ nb ≤ 10 ∧ np ≤ 300 ∧ nd ≤ 2000 ∧ (sl = true → 0 < np)) ∧ s 0 = nI nr ∧ s 1 = nI nb ∧ s 2 = bi sl ∧ s 28 = nI np ∧ s 29 = nI nd ∧ s 33 = nI nr ∧ s 34 = nI nb ∧ s 35 = nI np ∧ s 36 = nI nd ∧ s 37 = bi sl
def IB (np nd : Nat) (R : Nat → Nat → Int32) : Prop := R 37 = R 25 ∧ R 38 = R 26 ∧ R 39 = R 31 ∧ R 40 = R 27 ∧ R 42 = R 30 ∧ HO (R 29) (R 41) ∧ (∀ p, p < 300 → R 27 p = 0 ∨ R 27 p = 1) ∧ (∀ p, p < 300 → ¬ R 27 p = 0 → isr (R 41) p = false) ∧ (∀ d, d < nd → ∃ p, p < np ∧ R 31 d = nI p) ∧ (∀ p, p < 300 → R 28 p = bi (dw (R 31) nd p))
def IR (nr np : Nat) (s : Nat → Int32) (R : Nat → Nat → Int32) : Prop := RR 0 nr np (R 26) (R 35) (R 36) (s 3) (s 4) (s 5) (s 6) (s 7) (R 0) (R 2) (R 3) (R 4) ∧ RR 1 nr np (R 26) (R 35) (R 36) (s 8) (s 9) (s 10) (s 11) (s 12) (R 5) (R 7) (R 8) (R 9) ∧ RR 2 nr np (R 26) (R 35) (R 36) (s 13) (s 14) (s 15) (s 16) (s 17) (R 10) (R 12) (R 13) (R 14) ∧ RR 3 nr np (R 26) (R 35) (R 36) (s 18) (s 19) (s 20) (s 21) (s 22) (R 15) (R 17) (R 18) (R 19) ∧ RR 4 nr np (R 26) (R 35) (R 36) (s 23) (s 24) (s 25) (s 26) (s 27) (R 20) (R 22) (R 23) (R 24)
def Inv (S : LSt9) : Prop := ∃ (nr nb np nd : Nat) (sl : Bool), IA nr nb np nd sl S.1 ∧ IB np nd S.2.1 ∧ IR nr np S.1 S.2.1 ∧ S.2.2.1 = S.2.2.2.1
theorem s_lose {N : Nat} (hN : 100010 ≤ N) {S : LSt9} (hI : Inv S) (x u : Int32) (hu : u = 0 ∨ u = 1) : ∃ (k b : Int32) (S1 S2 : LSt9), g_L_lose N S x u = some (k, S1) ∧ g_X6_lose N S1 x u = some (b, S2) ∧ S2.1 32 = k ∧ same k b S2.2.2.2.2 ∧ (b = 0 ∨ b = 1) ∧ Inv S2 := by
  obtain ⟨nr, nb, np, nd, sl, hA, hB, hR, hD⟩ := hI
  obtain ⟨⟨b1, b2, b3, b4, b5⟩, a0, a1, a2, a28, a29, a33, a34, a35, a36, a37⟩ := id hA
  obtain ⟨e37, e38, e39, e40, e42, H, hlo, hlr, hdr, hwr⟩ := id hB
  obtain ⟨R0, R1, R2, R3, R4⟩ := id hR
  obtain ⟨k, b, lo', out', c1, c2, c3, c4, c5, c6⟩ := o_lose (x := x) S.2.2.2.2 H b3 hu hlo hlr
  refine ⟨k, b, (S.1, (va_up S.2.1 27 (lo')), S.2.2.1, S.2.2.2.1, (out')), ((va_up S.1 32 (k)), (va_up (va_up S.2.1 27 (lo')) 40 (lo')), S.2.2.1, S.2.2.2.1, (out')), ?_, ?_, rfl, c3, c4, ⟨nr, nb, np, nd, sl, hA, ⟨e37, e38, e39, rfl, e42, H, c5, c6, hdr, hwr⟩, hR, hD⟩⟩
  · unfold g_L_lose
    rw [a28, c1]; rfl
  · unfold g_X6_lose
    show Option.map _ (f_X6_lose x u (S.1 35) (S.2.1 41) (S.2.1 40)) = _
    rw [a35, e40, c2]; rfl
theorem s_draw {N : Nat} (hN : 100010 ≤ N) {S : LSt9} (hI : Inv S) (x : Int32) : ∃ (k b : Int32) (S1 S2 : LSt9), g_L_draw N S x = some (k, S1) ∧ g_X6_draw N S1 x = some (b, S2) ∧ S2.1 32 = k ∧ same k b S2.2.2.2.2 ∧ Inv S2 := by
  obtain ⟨nr, nb, np, nd, sl, hA, hB, hR, hD⟩ := hI
  obtain ⟨⟨b1, b2, b3, b4, b5⟩, a0, a1, a2, a28, a29, a33, a34, a35, a36, a37⟩ := id hA
  obtain ⟨e37, e38, e39, e40, e42, H, hlo, hlr, hdr, hwr⟩ := id hB
  obtain ⟨R0, R1, R2, R3, R4⟩ := id hR
  obtain ⟨k, b, nd', dice', dr', wr', out', c1, c2, c3, c4, c5, c6⟩ := o_draw hN (x := x) (dice := S.2.2.1) S.2.2.2.2 b3 b4 b5 hdr hwr
  refine ⟨k, b, ((va_up S.1 29 ((nI nd'))), (va_up (va_up S.2.1 31 (dr')) 28 (wr')), (dice'), S.2.2.2.1, (out')), ((va_up (va_up (va_up S.1 29 ((nI nd'))) 32 (k)) 36 ((nI nd'))), (va_up (va_up (va_up S.2.1 31 (dr')) 28 (wr')) 39 (dr')), (dice'), (dice'), (out')), ?_, ?_, rfl, c3, ⟨nr, nb, np, nd', sl, ⟨⟨b1, b2, b3, c4, b5⟩, a0, a1, a2, a28, rfl, a33, a34, a35, rfl, a37⟩, ⟨e37, e38, rfl, e40, e42, H, hlo, hlr, c5, c6⟩, hR, rfl⟩⟩
  · unfold g_L_draw
    rw [a2, a29, a28, c1]; rfl
  · unfold g_X6_draw
    show Option.map _ (f_X6_draw N x (S.1 35) (S.1 36) (S.1 37) S.2.2.2.1 (S.2.1 39)) = _
    rw [a35, a36, a37, ← hD, e39, c2]; rfl
theorem s_drawn {N : Nat} (hN : 100010 ≤ N) {S : LSt9} (hI : Inv S) (x : Int32) : ∃ (k b : Int32) (S1 S2 : LSt9), g_L_drawn N S x = some (k, S1) ∧ g_X6_drawn N S1 x = some (b, S2) ∧ S2.1 32 = k ∧ same k b S2.2.2.2.2 ∧ Inv S2 := by
  obtain ⟨nr, nb, np, nd, sl, hA, hB, hR, hD⟩ := hI
  obtain ⟨⟨b1, b2, b3, b4, b5⟩, a0, a1, a2, a28, a29, a33, a34, a35, a36, a37⟩ := id hA
  obtain ⟨e37, e38, e39, e40, e42, H, hlo, hlr, hdr, hwr⟩ := id hB
  obtain ⟨R0, R1, R2, R3, R4⟩ := id hR
  obtain ⟨k, b, out', c1, c2, c3⟩ := o_drawn (x := x) (dr := S.2.1 31) S.2.2.2.2 b4
  refine ⟨k, b, (S.1, S.2.1, S.2.2.1, S.2.2.2.1, (out')), ((va_up S.1 32 (k)), S.2.1, S.2.2.1, S.2.2.2.1, (out')), ?_, ?_, rfl, c3, ⟨nr, nb, np, nd, sl, hA, hB, hR, hD⟩⟩
  · unfold g_L_drawn
    rw [a29, c1]; rfl
  · unfold g_X6_drawn
    show Option.map _ (f_X6_drawn x (S.1 36) (S.2.1 39)) = _
    rw [a36, e39, c2]; rfl
theorem s_pulled {N : Nat} (hN : 100010 ≤ N) {S : LSt9} (hI : Inv S) (x : Int32) : ∃ (k b : Int32) (S1 S2 : LSt9), g_L_pulled N S x = some (k, S1) ∧ g_X6_pulled N S1 x = some (b, S2) ∧ S2.1 32 = k ∧ same k b S2.2.2.2.2 ∧ Inv S2 := by
  obtain ⟨nr, nb, np, nd, sl, hA, hB, hR, hD⟩ := hI
  obtain ⟨⟨b1, b2, b3, b4, b5⟩, a0, a1, a2, a28, a29, a33, a34, a35, a36, a37⟩ := id hA
  obtain ⟨e37, e38, e39, e40, e42, H, hlo, hlr, hdr, hwr⟩ := id hB
  obtain ⟨R0, R1, R2, R3, R4⟩ := id hR
  obtain ⟨k, b, out', c1, c2, c3⟩ := o_pulled hN (x := x) (bx := S.2.1 25) S.2.2.2.2 b2 b3 b4 hwr
  refine ⟨k, b, (S.1, S.2.1, S.2.2.1, S.2.2.2.1, (out')), ((va_up S.1 32 (k)), S.2.1, S.2.2.1, S.2.2.2.1, (out')), ?_, ?_, rfl, c3, ⟨nr, nb, np, nd, sl, hA, hB, hR, hD⟩⟩
  · unfold g_L_pulled
    rw [a1, a28, c1]; rfl
  · unfold g_X6_pulled
    show Option.map _ (f_X6_pulled N x (S.1 34) (S.1 35) (S.1 36) (S.2.1 39) (S.2.1 37)) = _
    rw [a34, a35, a36, e39, e37, c2]; rfl
theorem s_reading {N : Nat} (hN : 100010 ≤ N) {S : LSt9} (hI : Inv S) (x y : Int32) : ∃ (k b : Int32) (S1 S2 : LSt9), g_L_reading N S x y = some (k, S1) ∧ g_X6_reading N S1 x y = some (b, S2) ∧ S2.1 32 = k ∧ same k b S2.2.2.2.2 ∧ Inv S2 := by
  obtain ⟨nr, nb, np, nd, sl, hA, hB, hR, hD⟩ := hI
  obtain ⟨⟨b1, b2, b3, b4, b5⟩, a0, a1, a2, a28, a29, a33, a34, a35, a36, a37⟩ := id hA
  obtain ⟨e37, e38, e39, e40, e42, H, hlo, hlr, hdr, hwr⟩ := id hB
  obtain ⟨R0, R1, R2, R3, R4⟩ := id hR
  obtain ⟨k, b, out', c1, c2, c3⟩ := o_reading hN (x := x) (y := y) (hw := S.2.1 30) S.2.2.2.2 H b1 b3
  refine ⟨k, b, (S.1, S.2.1, S.2.2.1, S.2.2.2.1, (out')), ((va_up S.1 32 (k)), S.2.1, S.2.2.1, S.2.2.2.1, (out')), ?_, ?_, rfl, c3, ⟨nr, nb, np, nd, sl, hA, hB, hR, hD⟩⟩
  · unfold g_L_reading
    rw [a0, a28, c1]; rfl
  · unfold g_X6_reading
    show Option.map _ (f_X6_reading N x y (S.1 33) (S.1 35) (S.2.1 41) (S.2.1 42)) = _
    rw [a33, a35, e42, c2]; rfl
theorem s_count {N : Nat} (hN : 100010 ≤ N) {S : LSt9} (hI : Inv S) (x : Int32) : ∃ (k b : Int32) (S1 S2 : LSt9), g_L_count N S x = some (k, S1) ∧ g_X6_count N S1 x = some (b, S2) ∧ S2.1 32 = k ∧ same k b S2.2.2.2.2 ∧ Inv S2 := by
  obtain ⟨nr, nb, np, nd, sl, hA, hB, hR, hD⟩ := hI
  obtain ⟨⟨b1, b2, b3, b4, b5⟩, a0, a1, a2, a28, a29, a33, a34, a35, a36, a37⟩ := id hA
  obtain ⟨e37, e38, e39, e40, e42, H, hlo, hlr, hdr, hwr⟩ := id hB
  obtain ⟨R0, R1, R2, R3, R4⟩ := id hR
  obtain ⟨k, b, out', c1, c2, c3⟩ := o_count hN (x := x) (nr := nr) (nb := nb) (nd := nd) (sl := sl) (lo := S.2.1 27) S.2.2.2.2 H b3
  refine ⟨k, b, (S.1, S.2.1, S.2.2.1, S.2.2.2.1, (out')), ((va_up S.1 32 (k)), S.2.1, S.2.2.1, S.2.2.2.1, (out')), ?_, ?_, rfl, c3, ⟨nr, nb, np, nd, sl, hA, hB, hR, hD⟩⟩
  · unfold g_L_count
    rw [a0, a1, a2, a28, a29, c1]; rfl
  · unfold g_X6_count
    show Option.map _ (f_X6_count N x (S.1 33) (S.1 34) (S.1 35) (S.1 36) (S.1 37) (S.2.1 40) (S.2.1 41)) = _
    rw [a33, a34, a35, a36, a37, e40, c2]; rfl
theorem cfs {nr np : Nat} {s : Nat → Int32} {R : Nat → Nat → Int32} (hR : IR nr np s R) (h5 : nr ≤ 5) : ∃ cf : Nat → Nat, (∀ r, r < nr → R 35 r = nI (cf r) ∧ cf r ≤ 6) ∧ (0 < nr → s 4 = nI (cf 0)) ∧ (1 < nr → s 9 = nI (cf 1)) ∧ (2 < nr → s 14 = nI (cf 2)) ∧ (3 < nr → s 19 = nI (cf 3)) ∧ (4 < nr → s 24 = nI (cf 4)) := by
  obtain ⟨R0, R1, R2, R3, R4⟩ := hR
  have g : ∀ {j : Nat} {P C Z Sz Mg : Int32} {tl pw pl pm : Nat → Int32}, RR j nr np (R 26) (R 35) (R 36) P C Z Sz Mg tl pw pl pm → j < nr → R 35 j = nI (R 35 j).toNatClampNeg ∧ (R 35 j).toNatClampNeg ≤ 6 ∧ C = nI (R 35 j).toNatClampNeg := by
    intro j P C Z Sz Mg tl pw pl pm h hj
    obtain ⟨c, w, hc, -, -, eC, -, e1, -⟩ := h.1 hj
    rw [e1, cl_nI (by omega)]
    exact ⟨rfl, hc, eC⟩
  refine ⟨fun r => (R 35 r).toNatClampNeg, fun r hr => ?_, fun h => (g R0 h).2.2, fun h => (g R1 h).2.2, fun h => (g R2 h).2.2, fun h => (g R3 h).2.2, fun h => (g R4 h).2.2⟩
  rcases (show r = 0 ∨ r = 1 ∨ r = 2 ∨ r = 3 ∨ r = 4 by omega) with rfl | rfl | rfl | rfl | rfl
  · exact ⟨(g R0 hr).1, (g R0 hr).2.1⟩
  · exact ⟨(g R1 hr).1, (g R1 hr).2.1⟩
  · exact ⟨(g R2 hr).1, (g R2 hr).2.1⟩
  · exact ⟨(g R3 hr).1, (g R3 hr).2.1⟩
  · exact ⟨(g R4 hr).1, (g R4 hr).2.1⟩
theorem s_read {N : Nat} (hN : 100010 ≤ N) {S : LSt9} (hI : Inv S) (x y z : Int32) : ∃ (k b : Int32) (S1 S2 : LSt9), g_L_read N S x y z = some (k, S1) ∧ g_X6_read N S1 x y z = some (b, S2) ∧ S2.1 32 = k ∧ same k b S2.2.2.2.2 ∧ (b = 0 ∨ b = 1) ∧ Inv S2 := by
  obtain ⟨nr, nb, np, nd, sl, hA, hB, hR, hD⟩ := hI
  obtain ⟨⟨b1, b2, b3, b4, b5⟩, a0, a1, a2, a28, a29, a33, a34, a35, a36, a37⟩ := id hA
  obtain ⟨e37, e38, e39, e40, e42, H, hlo, hlr, hdr, hwr⟩ := id hB
  obtain ⟨R0, R1, R2, R3, R4⟩ := id hR
  obtain ⟨cf, f1, f2, f3, f4, f5, f6⟩ := cfs hR b1
  obtain ⟨k, b, ho', hw', hr', out', c1, c2, c3, c4, c5, c6⟩ := o_read hN (x := x) (y := y) (w := z) (sl := sl) (hw := S.2.1 30) S.2.2.2.2 H b1 b3 f1 f2 f3 f4 f5 f6 hlr
  refine ⟨k, b, (S.1, (va_up (va_up S.2.1 29 (ho')) 30 (hw')), S.2.2.1, S.2.2.2.1, (out')), ((va_up S.1 32 (k)), (va_up (va_up (va_up (va_up S.2.1 29 (ho')) 30 (hw')) 41 (hr')) 42 (hw')), S.2.2.1, S.2.2.2.1, (out')), ?_, ?_, rfl, c3, c4, ⟨nr, nb, np, nd, sl, hA, ⟨e37, e38, e39, e40, rfl, c5, hlo, c6, hdr, hwr⟩, hR, hD⟩⟩
  · unfold g_L_read
    rw [a0, a2, a28, c1]; rfl
  · unfold g_X6_read
    show Option.map _ (f_X6_read N x y z (S.1 33) (S.1 35) (S.1 37) (S.2.1 40) (S.2.1 41) (S.2.1 35) (S.2.1 42)) = _
    rw [a33, a35, a37, e40, e42, c2]; rfl
theorem s_votes {N : Nat} (hN : 100010 ≤ N) {S : LSt9} (hI : Inv S) (x y z : Int32) : ∃ (k b : Int32) (S1 S2 : LSt9), g_L_votes N S x y z = some (k, S1) ∧ g_X6_votes N S1 x y z = some (b, S2) ∧ S2.1 32 = k ∧ same k b S2.2.2.2.2 ∧ Inv S2 := by
  obtain ⟨nr, nb, np, nd, sl, hA, hB, hR, hD⟩ := hI
  obtain ⟨⟨b1, b2, b3, b4, b5⟩, a0, a1, a2, a28, a29, a33, a34, a35, a36, a37⟩ := id hA
  obtain ⟨e37, e38, e39, e40, e42, H, hlo, hlr, hdr, hwr⟩ := id hB
  obtain ⟨R0, R1, R2, R3, R4⟩ := id hR
  rcases ix_or x (show nr < 2 ^ 31 by omega) with h | ⟨j, hj, rfl⟩
  · refine ⟨1, 0, (S.1, (va_up S.2.1 34 ((S.2.1 34))), S.2.2.1, S.2.2.2.1, (S.2.2.2.2)), ((va_up S.1 32 (1)), (va_up S.2.1 34 ((S.2.1 34))), S.2.2.1, S.2.2.2.1, (S.2.2.2.2)), ?_, ?_, rfl, same1 _ _, ⟨nr, nb, np, nd, sl, hA, hB, hR, hD⟩⟩
    · unfold g_L_votes
      rw [a0]
      simp only [o_votes_out h]
      repeat' split
      all_goals rfl
    · unfold g_X6_votes
      show Option.map _ (f_X6_votes N x y z (S.1 33) (S.1 35) (S.2.1 35) (S.2.1 38) (S.2.1 40) (S.2.1 41) (S.2.1 42)) = _
      rw [a33, m_votes_out h]; rfl
  · rcases (show j = 0 ∨ j = 1 ∨ j = 2 ∨ j = 3 ∨ j = 4 by omega) with rfl | rfl | rfl | rfl | rfl
    · obtain ⟨c, w, hc, hw1, hw, eC, eZ, e1, e2, ht, eS, eP, eM, hrow⟩ := R0.1 hj
      obtain ⟨k, b, hT', out', c1, c2, c3⟩ := o_votes hN (y := y) (u := z) (hT := S.2.1 34) (hw := S.2.1 30) S.2.2.2.2 H hj b1 b3 hc e1 ht (fun p hp => hlr p (by omega))
      refine ⟨k, b, (S.1, (va_up S.2.1 34 (hT')), S.2.2.1, S.2.2.2.1, (out')), ((va_up S.1 32 (k)), (va_up S.2.1 34 (hT')), S.2.2.1, S.2.2.2.1, (out')), ?_, ?_, rfl, c3, ⟨nr, nb, np, nd, sl, hA, hB, hR, hD⟩⟩
      · unfold g_L_votes
        rw [if_neg (show ¬ nI 0 = (1 : Int32) from by decide), if_neg (show ¬ nI 0 = (2 : Int32) from by decide), if_neg (show ¬ nI 0 = (3 : Int32) from by decide), if_neg (show ¬ nI 0 = (4 : Int32) from by decide), a0, a28, eC, c1]; rfl
      · unfold g_X6_votes
        show Option.map _ (f_X6_votes N (nI 0) y z (S.1 33) (S.1 35) (S.2.1 35) (S.2.1 38) (S.2.1 40) (S.2.1 41) (S.2.1 42)) = _
        rw [a33, a35, e38, e40, e42, c2]; rfl
    · obtain ⟨c, w, hc, hw1, hw, eC, eZ, e1, e2, ht, eS, eP, eM, hrow⟩ := R1.1 hj
      obtain ⟨k, b, hT', out', c1, c2, c3⟩ := o_votes hN (y := y) (u := z) (hT := S.2.1 34) (hw := S.2.1 30) S.2.2.2.2 H hj b1 b3 hc e1 ht (fun p hp => hlr p (by omega))
      refine ⟨k, b, (S.1, (va_up S.2.1 34 (hT')), S.2.2.1, S.2.2.2.1, (out')), ((va_up S.1 32 (k)), (va_up S.2.1 34 (hT')), S.2.2.1, S.2.2.2.1, (out')), ?_, ?_, rfl, c3, ⟨nr, nb, np, nd, sl, hA, hB, hR, hD⟩⟩
      · unfold g_L_votes
        rw [if_pos (show nI 1 = (1 : Int32) from by decide), a0, a28, eC, c1]; rfl
      · unfold g_X6_votes
        show Option.map _ (f_X6_votes N (nI 1) y z (S.1 33) (S.1 35) (S.2.1 35) (S.2.1 38) (S.2.1 40) (S.2.1 41) (S.2.1 42)) = _
        rw [a33, a35, e38, e40, e42, c2]; rfl
    · obtain ⟨c, w, hc, hw1, hw, eC, eZ, e1, e2, ht, eS, eP, eM, hrow⟩ := R2.1 hj
      obtain ⟨k, b, hT', out', c1, c2, c3⟩ := o_votes hN (y := y) (u := z) (hT := S.2.1 34) (hw := S.2.1 30) S.2.2.2.2 H hj b1 b3 hc e1 ht (fun p hp => hlr p (by omega))
      refine ⟨k, b, (S.1, (va_up S.2.1 34 (hT')), S.2.2.1, S.2.2.2.1, (out')), ((va_up S.1 32 (k)), (va_up S.2.1 34 (hT')), S.2.2.1, S.2.2.2.1, (out')), ?_, ?_, rfl, c3, ⟨nr, nb, np, nd, sl, hA, hB, hR, hD⟩⟩
      · unfold g_L_votes
        rw [if_neg (show ¬ nI 2 = (1 : Int32) from by decide), if_pos (show nI 2 = (2 : Int32) from by decide), a0, a28, eC, c1]; rfl
      · unfold g_X6_votes
        show Option.map _ (f_X6_votes N (nI 2) y z (S.1 33) (S.1 35) (S.2.1 35) (S.2.1 38) (S.2.1 40) (S.2.1 41) (S.2.1 42)) = _
        rw [a33, a35, e38, e40, e42, c2]; rfl
    · obtain ⟨c, w, hc, hw1, hw, eC, eZ, e1, e2, ht, eS, eP, eM, hrow⟩ := R3.1 hj
      obtain ⟨k, b, hT', out', c1, c2, c3⟩ := o_votes hN (y := y) (u := z) (hT := S.2.1 34) (hw := S.2.1 30) S.2.2.2.2 H hj b1 b3 hc e1 ht (fun p hp => hlr p (by omega))
      refine ⟨k, b, (S.1, (va_up S.2.1 34 (hT')), S.2.2.1, S.2.2.2.1, (out')), ((va_up S.1 32 (k)), (va_up S.2.1 34 (hT')), S.2.2.1, S.2.2.2.1, (out')), ?_, ?_, rfl, c3, ⟨nr, nb, np, nd, sl, hA, hB, hR, hD⟩⟩
      · unfold g_L_votes
        rw [if_neg (show ¬ nI 3 = (1 : Int32) from by decide), if_neg (show ¬ nI 3 = (2 : Int32) from by decide), if_pos (show nI 3 = (3 : Int32) from by decide), a0, a28, eC, c1]; rfl
      · unfold g_X6_votes
        show Option.map _ (f_X6_votes N (nI 3) y z (S.1 33) (S.1 35) (S.2.1 35) (S.2.1 38) (S.2.1 40) (S.2.1 41) (S.2.1 42)) = _
        rw [a33, a35, e38, e40, e42, c2]; rfl
    · obtain ⟨c, w, hc, hw1, hw, eC, eZ, e1, e2, ht, eS, eP, eM, hrow⟩ := R4.1 hj
      obtain ⟨k, b, hT', out', c1, c2, c3⟩ := o_votes hN (y := y) (u := z) (hT := S.2.1 34) (hw := S.2.1 30) S.2.2.2.2 H hj b1 b3 hc e1 ht (fun p hp => hlr p (by omega))
      refine ⟨k, b, (S.1, (va_up S.2.1 34 (hT')), S.2.2.1, S.2.2.2.1, (out')), ((va_up S.1 32 (k)), (va_up S.2.1 34 (hT')), S.2.2.1, S.2.2.2.1, (out')), ?_, ?_, rfl, c3, ⟨nr, nb, np, nd, sl, hA, hB, hR, hD⟩⟩
      · unfold g_L_votes
        rw [if_neg (show ¬ nI 4 = (1 : Int32) from by decide), if_neg (show ¬ nI 4 = (2 : Int32) from by decide), if_neg (show ¬ nI 4 = (3 : Int32) from by decide), if_pos (show nI 4 = (4 : Int32) from by decide), a0, a28, eC, c1]; rfl
      · unfold g_X6_votes
        show Option.map _ (f_X6_votes N (nI 4) y z (S.1 33) (S.1 35) (S.2.1 35) (S.2.1 38) (S.2.1 40) (S.2.1 41) (S.2.1 42)) = _
        rw [a33, a35, e38, e40, e42, c2]; rfl
theorem s_wins {N : Nat} (hN : 100010 ≤ N) {S : LSt9} (hI : Inv S) (x y z : Int32) : ∃ (k b : Int32) (S1 S2 : LSt9), g_L_wins N S x y z = some (k, S1) ∧ g_X6_wins N S1 x y z = some (b, S2) ∧ S2.1 32 = k ∧ same k b S2.2.2.2.2 ∧ (b = 0 ∨ b = 1) ∧ Inv S2 := by
  obtain ⟨nr, nb, np, nd, sl, hA, hB, hR, hD⟩ := hI
  obtain ⟨⟨b1, b2, b3, b4, b5⟩, a0, a1, a2, a28, a29, a33, a34, a35, a36, a37⟩ := id hA
  obtain ⟨e37, e38, e39, e40, e42, H, hlo, hlr, hdr, hwr⟩ := id hB
  obtain ⟨R0, R1, R2, R3, R4⟩ := id hR
  rcases ix_or x (show nr < 2 ^ 31 by omega) with h | ⟨j, hj, rfl⟩
  · refine ⟨1, 0, (S.1, (va_up S.2.1 34 ((S.2.1 34))), S.2.2.1, S.2.2.2.1, (S.2.2.2.2)), ((va_up S.1 32 (1)), (va_up S.2.1 34 ((S.2.1 34))), S.2.2.1, S.2.2.2.1, (S.2.2.2.2)), ?_, ?_, rfl, same1 _ _, Or.inl rfl, ⟨nr, nb, np, nd, sl, hA, hB, hR, hD⟩⟩
    · unfold g_L_wins
      rw [a0]
      simp only [o_wins_out h]
      repeat' split
      all_goals rfl
    · unfold g_X6_wins
      show Option.map _ (f_X6_wins N x y z (S.1 33) (S.1 35) (S.2.1 35) (S.2.1 38) (S.2.1 40) (S.2.1 41) (S.2.1 42) (S.2.1 36)) = _
      rw [a33, m_wins_out h]; rfl
  · rcases (show j = 0 ∨ j = 1 ∨ j = 2 ∨ j = 3 ∨ j = 4 by omega) with rfl | rfl | rfl | rfl | rfl
    · obtain ⟨c, w, hc, hw1, hw, eC, eZ, e1, e2, ht, eS, eP, eM, hrow⟩ := R0.1 hj
      obtain ⟨k, b, hT', out', c1, c2, c3, c4⟩ := o_wins hN (y := y) (u := z) (hT := S.2.1 34) (hw := S.2.1 30) S.2.2.2.2 H hj b1 b3 hc hw e1 e2 ht (fun p hp => hlr p (by omega))
      refine ⟨k, b, (S.1, (va_up S.2.1 34 (hT')), S.2.2.1, S.2.2.2.1, (out')), ((va_up S.1 32 (k)), (va_up S.2.1 34 (hT')), S.2.2.1, S.2.2.2.1, (out')), ?_, ?_, rfl, c3, c4, ⟨nr, nb, np, nd, sl, hA, hB, hR, hD⟩⟩
      · unfold g_L_wins
        rw [if_neg (show ¬ nI 0 = (1 : Int32) from by decide), if_neg (show ¬ nI 0 = (2 : Int32) from by decide), if_neg (show ¬ nI 0 = (3 : Int32) from by decide), if_neg (show ¬ nI 0 = (4 : Int32) from by decide), a0, a28, eC, eZ, c1]; rfl
      · unfold g_X6_wins
        show Option.map _ (f_X6_wins N (nI 0) y z (S.1 33) (S.1 35) (S.2.1 35) (S.2.1 38) (S.2.1 40) (S.2.1 41) (S.2.1 42) (S.2.1 36)) = _
        rw [a33, a35, e38, e40, e42, c2]; rfl
    · obtain ⟨c, w, hc, hw1, hw, eC, eZ, e1, e2, ht, eS, eP, eM, hrow⟩ := R1.1 hj
      obtain ⟨k, b, hT', out', c1, c2, c3, c4⟩ := o_wins hN (y := y) (u := z) (hT := S.2.1 34) (hw := S.2.1 30) S.2.2.2.2 H hj b1 b3 hc hw e1 e2 ht (fun p hp => hlr p (by omega))
      refine ⟨k, b, (S.1, (va_up S.2.1 34 (hT')), S.2.2.1, S.2.2.2.1, (out')), ((va_up S.1 32 (k)), (va_up S.2.1 34 (hT')), S.2.2.1, S.2.2.2.1, (out')), ?_, ?_, rfl, c3, c4, ⟨nr, nb, np, nd, sl, hA, hB, hR, hD⟩⟩
      · unfold g_L_wins
        rw [if_pos (show nI 1 = (1 : Int32) from by decide), a0, a28, eC, eZ, c1]; rfl
      · unfold g_X6_wins
        show Option.map _ (f_X6_wins N (nI 1) y z (S.1 33) (S.1 35) (S.2.1 35) (S.2.1 38) (S.2.1 40) (S.2.1 41) (S.2.1 42) (S.2.1 36)) = _
        rw [a33, a35, e38, e40, e42, c2]; rfl
    · obtain ⟨c, w, hc, hw1, hw, eC, eZ, e1, e2, ht, eS, eP, eM, hrow⟩ := R2.1 hj
      obtain ⟨k, b, hT', out', c1, c2, c3, c4⟩ := o_wins hN (y := y) (u := z) (hT := S.2.1 34) (hw := S.2.1 30) S.2.2.2.2 H hj b1 b3 hc hw e1 e2 ht (fun p hp => hlr p (by omega))
      refine ⟨k, b, (S.1, (va_up S.2.1 34 (hT')), S.2.2.1, S.2.2.2.1, (out')), ((va_up S.1 32 (k)), (va_up S.2.1 34 (hT')), S.2.2.1, S.2.2.2.1, (out')), ?_, ?_, rfl, c3, c4, ⟨nr, nb, np, nd, sl, hA, hB, hR, hD⟩⟩
      · unfold g_L_wins
        rw [if_neg (show ¬ nI 2 = (1 : Int32) from by decide), if_pos (show nI 2 = (2 : Int32) from by decide), a0, a28, eC, eZ, c1]; rfl
      · unfold g_X6_wins
        show Option.map _ (f_X6_wins N (nI 2) y z (S.1 33) (S.1 35) (S.2.1 35) (S.2.1 38) (S.2.1 40) (S.2.1 41) (S.2.1 42) (S.2.1 36)) = _
        rw [a33, a35, e38, e40, e42, c2]; rfl
    · obtain ⟨c, w, hc, hw1, hw, eC, eZ, e1, e2, ht, eS, eP, eM, hrow⟩ := R3.1 hj
      obtain ⟨k, b, hT', out', c1, c2, c3, c4⟩ := o_wins hN (y := y) (u := z) (hT := S.2.1 34) (hw := S.2.1 30) S.2.2.2.2 H hj b1 b3 hc hw e1 e2 ht (fun p hp => hlr p (by omega))
      refine ⟨k, b, (S.1, (va_up S.2.1 34 (hT')), S.2.2.1, S.2.2.2.1, (out')), ((va_up S.1 32 (k)), (va_up S.2.1 34 (hT')), S.2.2.1, S.2.2.2.1, (out')), ?_, ?_, rfl, c3, c4, ⟨nr, nb, np, nd, sl, hA, hB, hR, hD⟩⟩
      · unfold g_L_wins
        rw [if_neg (show ¬ nI 3 = (1 : Int32) from by decide), if_neg (show ¬ nI 3 = (2 : Int32) from by decide), if_pos (show nI 3 = (3 : Int32) from by decide), a0, a28, eC, eZ, c1]; rfl
      · unfold g_X6_wins
        show Option.map _ (f_X6_wins N (nI 3) y z (S.1 33) (S.1 35) (S.2.1 35) (S.2.1 38) (S.2.1 40) (S.2.1 41) (S.2.1 42) (S.2.1 36)) = _
        rw [a33, a35, e38, e40, e42, c2]; rfl
    · obtain ⟨c, w, hc, hw1, hw, eC, eZ, e1, e2, ht, eS, eP, eM, hrow⟩ := R4.1 hj
      obtain ⟨k, b, hT', out', c1, c2, c3, c4⟩ := o_wins hN (y := y) (u := z) (hT := S.2.1 34) (hw := S.2.1 30) S.2.2.2.2 H hj b1 b3 hc hw e1 e2 ht (fun p hp => hlr p (by omega))
      refine ⟨k, b, (S.1, (va_up S.2.1 34 (hT')), S.2.2.1, S.2.2.2.1, (out')), ((va_up S.1 32 (k)), (va_up S.2.1 34 (hT')), S.2.2.1, S.2.2.2.1, (out')), ?_, ?_, rfl, c3, c4, ⟨nr, nb, np, nd, sl, hA, hB, hR, hD⟩⟩
      · unfold g_L_wins
        rw [if_neg (show ¬ nI 4 = (1 : Int32) from by decide), if_neg (show ¬ nI 4 = (2 : Int32) from by decide), if_neg (show ¬ nI 4 = (3 : Int32) from by decide), if_pos (show nI 4 = (4 : Int32) from by decide), a0, a28, eC, eZ, c1]; rfl
      · unfold g_X6_wins
        show Option.map _ (f_X6_wins N (nI 4) y z (S.1 33) (S.1 35) (S.2.1 35) (S.2.1 38) (S.2.1 40) (S.2.1 41) (S.2.1 42) (S.2.1 36)) = _
        rw [a33, a35, e38, e40, e42, c2]; rfl
theorem s_about {N : Nat} (hN : 100010 ≤ N) {S : LSt9} (hI : Inv S) (x y : Int32) : ∃ (k b : Int32) (S1 S2 : LSt9), g_L_about N S x y = some (k, S1) ∧ g_X6_about N S1 x y = some (b, S2) ∧ S2.1 32 = k ∧ same k b S2.2.2.2.2 ∧ Inv S2 := by
  obtain ⟨nr, nb, np, nd, sl, hA, hB, hR, hD⟩ := hI
  obtain ⟨⟨b1, b2, b3, b4, b5⟩, a0, a1, a2, a28, a29, a33, a34, a35, a36, a37⟩ := id hA
  obtain ⟨e37, e38, e39, e40, e42, H, hlo, hlr, hdr, hwr⟩ := id hB
  obtain ⟨R0, R1, R2, R3, R4⟩ := id hR
  rcases ix_or x (show nr < 2 ^ 31 by omega) with h | ⟨j, hj, rfl⟩
  · refine ⟨1, 0, (S.1, S.2.1, S.2.2.1, S.2.2.2.1, (S.2.2.2.2)), ((va_up (va_up (va_up S.1 32 (1)) 38 ((S.1 38))) 39 ((S.1 39))), (va_up (va_up S.2.1 44 ((S.2.1 44))) 43 ((S.2.1 43))), S.2.2.1, S.2.2.2.1, (S.2.2.2.2)), ?_, ?_, rfl, same1 _ _, ⟨nr, nb, np, nd, sl, hA, hB, hR, hD⟩⟩
    · unfold g_L_about
      rw [a0]
      simp only [o_about_out h]
      repeat' split
      all_goals rfl
    · unfold g_X6_about
      show Option.map _ (f_X6_about N x y (S.1 33) (S.1 35) (S.1 38) (S.1 39) (S.2.1 38) (S.2.1 40) (S.2.1 41) (S.2.1 42) (S.2.1 35) (S.2.1 44) (S.2.1 43) (S.2.1 36)) = _
      rw [a33, m_about_out h]; rfl
  · rcases (show j = 0 ∨ j = 1 ∨ j = 2 ∨ j = 3 ∨ j = 4 by omega) with rfl | rfl | rfl | rfl | rfl
    · obtain ⟨c, w, hc, hw1, hw, eC, eZ, e1, e2, ht, eS, eP, eM, hrow⟩ := R0.1 hj
      obtain ⟨k, b, mg', hv', iw', vv', out', c1, c2, c3⟩ := o_about hN (y := y) (mg := S.1 38) (hv := S.1 39) (lo := S.2.1 27) (hr := S.2.1 41) (hd := S.2.1 30) (iw := S.2.1 44) (vv := S.2.1 43) (np := np) (wd := S.2.1 26) S.2.2.2.2 hj b1 b3 hc hw1 hw e1 e2
      refine ⟨k, b, (S.1, S.2.1, S.2.2.1, S.2.2.2.1, (out')), ((va_up (va_up (va_up S.1 32 (k)) 38 (mg')) 39 (hv')), (va_up (va_up S.2.1 44 (iw')) 43 (vv')), S.2.2.1, S.2.2.2.1, (out')), ?_, ?_, rfl, c3, ⟨nr, nb, np, nd, sl, hA, hB, hR, hD⟩⟩
      · unfold g_L_about
        rw [if_neg (show ¬ nI 0 = (1 : Int32) from by decide), if_neg (show ¬ nI 0 = (2 : Int32) from by decide), if_neg (show ¬ nI 0 = (3 : Int32) from by decide), if_neg (show ¬ nI 0 = (4 : Int32) from by decide), a0, eC, eZ, eS, eM, c1]; rfl
      · unfold g_X6_about
        show Option.map _ (f_X6_about N (nI 0) y (S.1 33) (S.1 35) (S.1 38) (S.1 39) (S.2.1 38) (S.2.1 40) (S.2.1 41) (S.2.1 42) (S.2.1 35) (S.2.1 44) (S.2.1 43) (S.2.1 36)) = _
        rw [a33, a35, e38, e40, e42, c2]; rfl
    · obtain ⟨c, w, hc, hw1, hw, eC, eZ, e1, e2, ht, eS, eP, eM, hrow⟩ := R1.1 hj
      obtain ⟨k, b, mg', hv', iw', vv', out', c1, c2, c3⟩ := o_about hN (y := y) (mg := S.1 38) (hv := S.1 39) (lo := S.2.1 27) (hr := S.2.1 41) (hd := S.2.1 30) (iw := S.2.1 44) (vv := S.2.1 43) (np := np) (wd := S.2.1 26) S.2.2.2.2 hj b1 b3 hc hw1 hw e1 e2
      refine ⟨k, b, (S.1, S.2.1, S.2.2.1, S.2.2.2.1, (out')), ((va_up (va_up (va_up S.1 32 (k)) 38 (mg')) 39 (hv')), (va_up (va_up S.2.1 44 (iw')) 43 (vv')), S.2.2.1, S.2.2.2.1, (out')), ?_, ?_, rfl, c3, ⟨nr, nb, np, nd, sl, hA, hB, hR, hD⟩⟩
      · unfold g_L_about
        rw [if_pos (show nI 1 = (1 : Int32) from by decide), a0, eC, eZ, eS, eM, c1]; rfl
      · unfold g_X6_about
        show Option.map _ (f_X6_about N (nI 1) y (S.1 33) (S.1 35) (S.1 38) (S.1 39) (S.2.1 38) (S.2.1 40) (S.2.1 41) (S.2.1 42) (S.2.1 35) (S.2.1 44) (S.2.1 43) (S.2.1 36)) = _
        rw [a33, a35, e38, e40, e42, c2]; rfl
    · obtain ⟨c, w, hc, hw1, hw, eC, eZ, e1, e2, ht, eS, eP, eM, hrow⟩ := R2.1 hj
      obtain ⟨k, b, mg', hv', iw', vv', out', c1, c2, c3⟩ := o_about hN (y := y) (mg := S.1 38) (hv := S.1 39) (lo := S.2.1 27) (hr := S.2.1 41) (hd := S.2.1 30) (iw := S.2.1 44) (vv := S.2.1 43) (np := np) (wd := S.2.1 26) S.2.2.2.2 hj b1 b3 hc hw1 hw e1 e2
      refine ⟨k, b, (S.1, S.2.1, S.2.2.1, S.2.2.2.1, (out')), ((va_up (va_up (va_up S.1 32 (k)) 38 (mg')) 39 (hv')), (va_up (va_up S.2.1 44 (iw')) 43 (vv')), S.2.2.1, S.2.2.2.1, (out')), ?_, ?_, rfl, c3, ⟨nr, nb, np, nd, sl, hA, hB, hR, hD⟩⟩
      · unfold g_L_about
        rw [if_neg (show ¬ nI 2 = (1 : Int32) from by decide), if_pos (show nI 2 = (2 : Int32) from by decide), a0, eC, eZ, eS, eM, c1]; rfl
      · unfold g_X6_about
        show Option.map _ (f_X6_about N (nI 2) y (S.1 33) (S.1 35) (S.1 38) (S.1 39) (S.2.1 38) (S.2.1 40) (S.2.1 41) (S.2.1 42) (S.2.1 35) (S.2.1 44) (S.2.1 43) (S.2.1 36)) = _
        rw [a33, a35, e38, e40, e42, c2]; rfl
    · obtain ⟨c, w, hc, hw1, hw, eC, eZ, e1, e2, ht, eS, eP, eM, hrow⟩ := R3.1 hj
      obtain ⟨k, b, mg', hv', iw', vv', out', c1, c2, c3⟩ := o_about hN (y := y) (mg := S.1 38) (hv := S.1 39) (lo := S.2.1 27) (hr := S.2.1 41) (hd := S.2.1 30) (iw := S.2.1 44) (vv := S.2.1 43) (np := np) (wd := S.2.1 26) S.2.2.2.2 hj b1 b3 hc hw1 hw e1 e2
      refine ⟨k, b, (S.1, S.2.1, S.2.2.1, S.2.2.2.1, (out')), ((va_up (va_up (va_up S.1 32 (k)) 38 (mg')) 39 (hv')), (va_up (va_up S.2.1 44 (iw')) 43 (vv')), S.2.2.1, S.2.2.2.1, (out')), ?_, ?_, rfl, c3, ⟨nr, nb, np, nd, sl, hA, hB, hR, hD⟩⟩
      · unfold g_L_about
        rw [if_neg (show ¬ nI 3 = (1 : Int32) from by decide), if_neg (show ¬ nI 3 = (2 : Int32) from by decide), if_pos (show nI 3 = (3 : Int32) from by decide), a0, eC, eZ, eS, eM, c1]; rfl
      · unfold g_X6_about
        show Option.map _ (f_X6_about N (nI 3) y (S.1 33) (S.1 35) (S.1 38) (S.1 39) (S.2.1 38) (S.2.1 40) (S.2.1 41) (S.2.1 42) (S.2.1 35) (S.2.1 44) (S.2.1 43) (S.2.1 36)) = _
        rw [a33, a35, e38, e40, e42, c2]; rfl
    · obtain ⟨c, w, hc, hw1, hw, eC, eZ, e1, e2, ht, eS, eP, eM, hrow⟩ := R4.1 hj
      obtain ⟨k, b, mg', hv', iw', vv', out', c1, c2, c3⟩ := o_about hN (y := y) (mg := S.1 38) (hv := S.1 39) (lo := S.2.1 27) (hr := S.2.1 41) (hd := S.2.1 30) (iw := S.2.1 44) (vv := S.2.1 43) (np := np) (wd := S.2.1 26) S.2.2.2.2 hj b1 b3 hc hw1 hw e1 e2
      refine ⟨k, b, (S.1, S.2.1, S.2.2.1, S.2.2.2.1, (out')), ((va_up (va_up (va_up S.1 32 (k)) 38 (mg')) 39 (hv')), (va_up (va_up S.2.1 44 (iw')) 43 (vv')), S.2.2.1, S.2.2.2.1, (out')), ?_, ?_, rfl, c3, ⟨nr, nb, np, nd, sl, hA, hB, hR, hD⟩⟩
      · unfold g_L_about
        rw [if_neg (show ¬ nI 4 = (1 : Int32) from by decide), if_neg (show ¬ nI 4 = (2 : Int32) from by decide), if_neg (show ¬ nI 4 = (3 : Int32) from by decide), if_pos (show nI 4 = (4 : Int32) from by decide), a0, eC, eZ, eS, eM, c1]; rfl
      · unfold g_X6_about
        show Option.map _ (f_X6_about N (nI 4) y (S.1 33) (S.1 35) (S.1 38) (S.1 39) (S.2.1 38) (S.2.1 40) (S.2.1 41) (S.2.1 42) (S.2.1 35) (S.2.1 44) (S.2.1 43) (S.2.1 36)) = _
        rw [a33, a35, e38, e40, e42, c2]; rfl
theorem s_risk {N : Nat} (hN : 100010 ≤ N) {S : LSt9} (hI : Inv S) (x : Int32) : ∃ (k b : Int32) (S1 S2 : LSt9), g_L_risk N S x = some (k, S1) ∧ g_X6_risk N S1 x = some (b, S2) ∧ S2.1 32 = k ∧ same k b S2.2.2.2.2 ∧ Inv S2 := by
  obtain ⟨nr, nb, np, nd, sl, hA, hB, hR, hD⟩ := hI
  obtain ⟨⟨b1, b2, b3, b4, b5⟩, a0, a1, a2, a28, a29, a33, a34, a35, a36, a37⟩ := id hA
  obtain ⟨e37, e38, e39, e40, e42, H, hlo, hlr, hdr, hwr⟩ := id hB
  obtain ⟨R0, R1, R2, R3, R4⟩ := id hR
  rcases ix_or x (show nr < 2 ^ 31 by omega) with h | ⟨j, hj, rfl⟩
  · refine ⟨1, 0, ((va_up (va_up S.1 30 ((S.1 30))) 31 ((S.1 31))), (va_up (va_up S.2.1 32 ((S.2.1 32))) 33 ((S.2.1 33))), S.2.2.1, S.2.2.2.1, (S.2.2.2.2)), ((va_up (va_up (va_up (va_up (va_up (va_up (va_up (va_up S.1 30 ((S.1 30))) 31 ((S.1 31))) 32 (1)) 38 (((va_up (va_up S.1 30 ((S.1 30))) 31 ((S.1 31))) 38))) 39 (((va_up (va_up S.1 30 ((S.1 30))) 31 ((S.1 31))) 39))) 40 (((va_up (va_up S.1 30 ((S.1 30))) 31 ((S.1 31))) 40))) 41 (((va_up (va_up S.1 30 ((S.1 30))) 31 ((S.1 31))) 41))) 42 (((va_up (va_up S.1 30 ((S.1 30))) 31 ((S.1 31))) 42))), (va_up (va_up (va_up (va_up S.2.1 32 ((S.2.1 32))) 33 ((S.2.1 33))) 44 (((va_up (va_up S.2.1 32 ((S.2.1 32))) 33 ((S.2.1 33))) 44))) 43 (((va_up (va_up S.2.1 32 ((S.2.1 32))) 33 ((S.2.1 33))) 43))), S.2.2.1, S.2.2.2.1, (S.2.2.2.2)), ?_, ?_, rfl, same1 _ _, ⟨nr, nb, np, nd, sl, hA, hB, hR, hD⟩⟩
    · unfold g_L_risk
      rw [a0]
      simp only [o_risk_out h]
      repeat' split
      all_goals rfl
    · unfold g_X6_risk
      show Option.map _ (f_X6_risk N x (S.1 33) (S.1 35) (S.1 36) (S.1 37) (S.1 38) (S.1 39) (S.1 40) (S.1 41) (S.1 42) (S.2.1 38) (S.2.1 40) (S.2.1 41) (S.2.1 42) (S.2.1 35) (S.2.1 44) (S.2.1 43) (S.2.1 36) (S.2.1 39)) = _
      rw [a33, m_risk_out h]; rfl
  · rcases (show j = 0 ∨ j = 1 ∨ j = 2 ∨ j = 3 ∨ j = 4 by omega) with rfl | rfl | rfl | rfl | rfl
    · obtain ⟨c, w, hc, hw1, hw, eC, eZ, e1, e2, ht, eS, eP, eM, hrow⟩ := R0.1 hj
      obtain ⟨k, b, r', t', mg, hv, xx, mm, tk, G', M', W, Vv, out', c1, c2, c3⟩ := o_risk hN (lo := S.2.1 27) (hw := S.2.1 30) (dr := S.2.1 31) (G := S.2.1 32) (M := S.2.1 33) (iw := S.2.1 44) (vv := S.2.1 43) (sl := sl) (r0 := S.1 30) (t0 := S.1 31) (m0 := S.1 38) (h0 := S.1 39) (x0 := S.1 40) (m1 := S.1 41) (k1 := S.1 42) S.2.2.2.2 R0 H hj b1 b3 b4 hdr
      refine ⟨k, b, ((va_up (va_up S.1 30 (r')) 31 (t')), (va_up (va_up S.2.1 32 (G')) 33 (M')), S.2.2.1, S.2.2.2.1, (out')), ((va_up (va_up (va_up (va_up (va_up (va_up (va_up (va_up S.1 30 (r')) 31 (t')) 32 (k)) 38 (mg)) 39 (hv)) 40 (xx)) 41 (mm)) 42 (tk)), (va_up (va_up (va_up (va_up S.2.1 32 (G')) 33 (M')) 44 (W)) 43 (Vv)), S.2.2.1, S.2.2.2.1, (out')), ?_, ?_, rfl, c3, ⟨nr, nb, np, nd, sl, hA, hB, hR, hD⟩⟩
      · unfold g_L_risk
        rw [if_neg (show ¬ nI 0 = (1 : Int32) from by decide), if_neg (show ¬ nI 0 = (2 : Int32) from by decide), if_neg (show ¬ nI 0 = (3 : Int32) from by decide), if_neg (show ¬ nI 0 = (4 : Int32) from by decide), a0, a2, a28, a29, c1]; rfl
      · unfold g_X6_risk
        show Option.map _ (f_X6_risk N (nI 0) (S.1 33) (S.1 35) (S.1 36) (S.1 37) (S.1 38) (S.1 39) (S.1 40) (S.1 41) (S.1 42) (S.2.1 38) (S.2.1 40) (S.2.1 41) (S.2.1 42) (S.2.1 35) (S.2.1 44) (S.2.1 43) (S.2.1 36) (S.2.1 39)) = _
        rw [a33, a35, a36, a37, e38, e39, e40, e42, c2]; rfl
    · obtain ⟨c, w, hc, hw1, hw, eC, eZ, e1, e2, ht, eS, eP, eM, hrow⟩ := R1.1 hj
      obtain ⟨k, b, r', t', mg, hv, xx, mm, tk, G', M', W, Vv, out', c1, c2, c3⟩ := o_risk hN (lo := S.2.1 27) (hw := S.2.1 30) (dr := S.2.1 31) (G := S.2.1 32) (M := S.2.1 33) (iw := S.2.1 44) (vv := S.2.1 43) (sl := sl) (r0 := S.1 30) (t0 := S.1 31) (m0 := S.1 38) (h0 := S.1 39) (x0 := S.1 40) (m1 := S.1 41) (k1 := S.1 42) S.2.2.2.2 R1 H hj b1 b3 b4 hdr
      refine ⟨k, b, ((va_up (va_up S.1 30 (r')) 31 (t')), (va_up (va_up S.2.1 32 (G')) 33 (M')), S.2.2.1, S.2.2.2.1, (out')), ((va_up (va_up (va_up (va_up (va_up (va_up (va_up (va_up S.1 30 (r')) 31 (t')) 32 (k)) 38 (mg)) 39 (hv)) 40 (xx)) 41 (mm)) 42 (tk)), (va_up (va_up (va_up (va_up S.2.1 32 (G')) 33 (M')) 44 (W)) 43 (Vv)), S.2.2.1, S.2.2.2.1, (out')), ?_, ?_, rfl, c3, ⟨nr, nb, np, nd, sl, hA, hB, hR, hD⟩⟩
      · unfold g_L_risk
        rw [if_pos (show nI 1 = (1 : Int32) from by decide), a0, a2, a28, a29, c1]; rfl
      · unfold g_X6_risk
        show Option.map _ (f_X6_risk N (nI 1) (S.1 33) (S.1 35) (S.1 36) (S.1 37) (S.1 38) (S.1 39) (S.1 40) (S.1 41) (S.1 42) (S.2.1 38) (S.2.1 40) (S.2.1 41) (S.2.1 42) (S.2.1 35) (S.2.1 44) (S.2.1 43) (S.2.1 36) (S.2.1 39)) = _
        rw [a33, a35, a36, a37, e38, e39, e40, e42, c2]; rfl
    · obtain ⟨c, w, hc, hw1, hw, eC, eZ, e1, e2, ht, eS, eP, eM, hrow⟩ := R2.1 hj
      obtain ⟨k, b, r', t', mg, hv, xx, mm, tk, G', M', W, Vv, out', c1, c2, c3⟩ := o_risk hN (lo := S.2.1 27) (hw := S.2.1 30) (dr := S.2.1 31) (G := S.2.1 32) (M := S.2.1 33) (iw := S.2.1 44) (vv := S.2.1 43) (sl := sl) (r0 := S.1 30) (t0 := S.1 31) (m0 := S.1 38) (h0 := S.1 39) (x0 := S.1 40) (m1 := S.1 41) (k1 := S.1 42) S.2.2.2.2 R2 H hj b1 b3 b4 hdr
      refine ⟨k, b, ((va_up (va_up S.1 30 (r')) 31 (t')), (va_up (va_up S.2.1 32 (G')) 33 (M')), S.2.2.1, S.2.2.2.1, (out')), ((va_up (va_up (va_up (va_up (va_up (va_up (va_up (va_up S.1 30 (r')) 31 (t')) 32 (k)) 38 (mg)) 39 (hv)) 40 (xx)) 41 (mm)) 42 (tk)), (va_up (va_up (va_up (va_up S.2.1 32 (G')) 33 (M')) 44 (W)) 43 (Vv)), S.2.2.1, S.2.2.2.1, (out')), ?_, ?_, rfl, c3, ⟨nr, nb, np, nd, sl, hA, hB, hR, hD⟩⟩
      · unfold g_L_risk
        rw [if_neg (show ¬ nI 2 = (1 : Int32) from by decide), if_pos (show nI 2 = (2 : Int32) from by decide), a0, a2, a28, a29, c1]; rfl
      · unfold g_X6_risk
        show Option.map _ (f_X6_risk N (nI 2) (S.1 33) (S.1 35) (S.1 36) (S.1 37) (S.1 38) (S.1 39) (S.1 40) (S.1 41) (S.1 42) (S.2.1 38) (S.2.1 40) (S.2.1 41) (S.2.1 42) (S.2.1 35) (S.2.1 44) (S.2.1 43) (S.2.1 36) (S.2.1 39)) = _
        rw [a33, a35, a36, a37, e38, e39, e40, e42, c2]; rfl
    · obtain ⟨c, w, hc, hw1, hw, eC, eZ, e1, e2, ht, eS, eP, eM, hrow⟩ := R3.1 hj
      obtain ⟨k, b, r', t', mg, hv, xx, mm, tk, G', M', W, Vv, out', c1, c2, c3⟩ := o_risk hN (lo := S.2.1 27) (hw := S.2.1 30) (dr := S.2.1 31) (G := S.2.1 32) (M := S.2.1 33) (iw := S.2.1 44) (vv := S.2.1 43) (sl := sl) (r0 := S.1 30) (t0 := S.1 31) (m0 := S.1 38) (h0 := S.1 39) (x0 := S.1 40) (m1 := S.1 41) (k1 := S.1 42) S.2.2.2.2 R3 H hj b1 b3 b4 hdr
      refine ⟨k, b, ((va_up (va_up S.1 30 (r')) 31 (t')), (va_up (va_up S.2.1 32 (G')) 33 (M')), S.2.2.1, S.2.2.2.1, (out')), ((va_up (va_up (va_up (va_up (va_up (va_up (va_up (va_up S.1 30 (r')) 31 (t')) 32 (k)) 38 (mg)) 39 (hv)) 40 (xx)) 41 (mm)) 42 (tk)), (va_up (va_up (va_up (va_up S.2.1 32 (G')) 33 (M')) 44 (W)) 43 (Vv)), S.2.2.1, S.2.2.2.1, (out')), ?_, ?_, rfl, c3, ⟨nr, nb, np, nd, sl, hA, hB, hR, hD⟩⟩
      · unfold g_L_risk
        rw [if_neg (show ¬ nI 3 = (1 : Int32) from by decide), if_neg (show ¬ nI 3 = (2 : Int32) from by decide), if_pos (show nI 3 = (3 : Int32) from by decide), a0, a2, a28, a29, c1]; rfl
      · unfold g_X6_risk
        show Option.map _ (f_X6_risk N (nI 3) (S.1 33) (S.1 35) (S.1 36) (S.1 37) (S.1 38) (S.1 39) (S.1 40) (S.1 41) (S.1 42) (S.2.1 38) (S.2.1 40) (S.2.1 41) (S.2.1 42) (S.2.1 35) (S.2.1 44) (S.2.1 43) (S.2.1 36) (S.2.1 39)) = _
        rw [a33, a35, a36, a37, e38, e39, e40, e42, c2]; rfl
    · obtain ⟨c, w, hc, hw1, hw, eC, eZ, e1, e2, ht, eS, eP, eM, hrow⟩ := R4.1 hj
      obtain ⟨k, b, r', t', mg, hv, xx, mm, tk, G', M', W, Vv, out', c1, c2, c3⟩ := o_risk hN (lo := S.2.1 27) (hw := S.2.1 30) (dr := S.2.1 31) (G := S.2.1 32) (M := S.2.1 33) (iw := S.2.1 44) (vv := S.2.1 43) (sl := sl) (r0 := S.1 30) (t0 := S.1 31) (m0 := S.1 38) (h0 := S.1 39) (x0 := S.1 40) (m1 := S.1 41) (k1 := S.1 42) S.2.2.2.2 R4 H hj b1 b3 b4 hdr
      refine ⟨k, b, ((va_up (va_up S.1 30 (r')) 31 (t')), (va_up (va_up S.2.1 32 (G')) 33 (M')), S.2.2.1, S.2.2.2.1, (out')), ((va_up (va_up (va_up (va_up (va_up (va_up (va_up (va_up S.1 30 (r')) 31 (t')) 32 (k)) 38 (mg)) 39 (hv)) 40 (xx)) 41 (mm)) 42 (tk)), (va_up (va_up (va_up (va_up S.2.1 32 (G')) 33 (M')) 44 (W)) 43 (Vv)), S.2.2.1, S.2.2.2.1, (out')), ?_, ?_, rfl, c3, ⟨nr, nb, np, nd, sl, hA, hB, hR, hD⟩⟩
      · unfold g_L_risk
        rw [if_neg (show ¬ nI 4 = (1 : Int32) from by decide), if_neg (show ¬ nI 4 = (2 : Int32) from by decide), if_neg (show ¬ nI 4 = (3 : Int32) from by decide), if_pos (show nI 4 = (4 : Int32) from by decide), a0, a2, a28, a29, c1]; rfl
      · unfold g_X6_risk
        show Option.map _ (f_X6_risk N (nI 4) (S.1 33) (S.1 35) (S.1 36) (S.1 37) (S.1 38) (S.1 39) (S.1 40) (S.1 41) (S.1 42) (S.2.1 38) (S.2.1 40) (S.2.1 41) (S.2.1 42) (S.2.1 35) (S.2.1 44) (S.2.1 43) (S.2.1 36) (S.2.1 39)) = _
        rw [a33, a35, a36, a37, e38, e39, e40, e42, c2]; rfl
theorem s_taken {N : Nat} (hN : 100010 ≤ N) {S : LSt9} (hI : Inv S) (x : Int32) : ∃ (k b : Int32) (S1 S2 : LSt9), g_L_taken N S x = some (k, S1) ∧ g_X6_taken N S1 x = some (b, S2) ∧ S2.1 32 = k ∧ same k b S2.2.2.2.2 ∧ Inv S2 := by
  obtain ⟨nr, nb, np, nd, sl, hA, hB, hR, hD⟩ := hI
  obtain ⟨⟨b1, b2, b3, b4, b5⟩, a0, a1, a2, a28, a29, a33, a34, a35, a36, a37⟩ := id hA
  obtain ⟨e37, e38, e39, e40, e42, H, hlo, hlr, hdr, hwr⟩ := id hB
  obtain ⟨R0, R1, R2, R3, R4⟩ := id hR
  rcases ix_or x (show nr < 2 ^ 31 by omega) with h | ⟨j, hj, rfl⟩
  · refine ⟨1, 0, ((va_up (va_up S.1 30 ((S.1 30))) 31 ((S.1 31))), (va_up (va_up S.2.1 32 ((S.2.1 32))) 33 ((S.2.1 33))), S.2.2.1, S.2.2.2.1, (S.2.2.2.2)), ((va_up (va_up (va_up (va_up (va_up (va_up (va_up (va_up S.1 30 ((S.1 30))) 31 ((S.1 31))) 32 (1)) 38 (((va_up (va_up S.1 30 ((S.1 30))) 31 ((S.1 31))) 38))) 39 (((va_up (va_up S.1 30 ((S.1 30))) 31 ((S.1 31))) 39))) 40 (((va_up (va_up S.1 30 ((S.1 30))) 31 ((S.1 31))) 40))) 41 (((va_up (va_up S.1 30 ((S.1 30))) 31 ((S.1 31))) 41))) 42 (((va_up (va_up S.1 30 ((S.1 30))) 31 ((S.1 31))) 42))), (va_up (va_up (va_up (va_up S.2.1 32 ((S.2.1 32))) 33 ((S.2.1 33))) 44 (((va_up (va_up S.2.1 32 ((S.2.1 32))) 33 ((S.2.1 33))) 44))) 43 (((va_up (va_up S.2.1 32 ((S.2.1 32))) 33 ((S.2.1 33))) 43))), S.2.2.1, S.2.2.2.1, (S.2.2.2.2)), ?_, ?_, rfl, same1 _ _, ⟨nr, nb, np, nd, sl, hA, hB, hR, hD⟩⟩
    · unfold g_L_taken
      rw [a0]
      simp only [o_taken_out h]
      repeat' split
      all_goals rfl
    · unfold g_X6_taken
      show Option.map _ (f_X6_taken N x (S.1 33) (S.1 35) (S.1 36) (S.1 37) (S.1 38) (S.1 39) (S.1 40) (S.1 41) (S.1 42) (S.2.1 38) (S.2.1 40) (S.2.1 41) (S.2.1 42) (S.2.1 35) (S.2.1 44) (S.2.1 43) (S.2.1 36) (S.2.1 39)) = _
      rw [a33, m_taken_out h]; rfl
  · rcases (show j = 0 ∨ j = 1 ∨ j = 2 ∨ j = 3 ∨ j = 4 by omega) with rfl | rfl | rfl | rfl | rfl
    · obtain ⟨c, w, hc, hw1, hw, eC, eZ, e1, e2, ht, eS, eP, eM, hrow⟩ := R0.1 hj
      obtain ⟨k, b, r', t', mg, hv, xx, mm, tk, G', M', W, Vv, out', c1, c2, c3⟩ := o_taken hN (lo := S.2.1 27) (hw := S.2.1 30) (dr := S.2.1 31) (G := S.2.1 32) (M := S.2.1 33) (iw := S.2.1 44) (vv := S.2.1 43) (sl := sl) (r0 := S.1 30) (t0 := S.1 31) (m0 := S.1 38) (h0 := S.1 39) (x0 := S.1 40) (m1 := S.1 41) (k1 := S.1 42) S.2.2.2.2 R0 H hj b1 b3 b4 hdr
      refine ⟨k, b, ((va_up (va_up S.1 30 (r')) 31 (t')), (va_up (va_up S.2.1 32 (G')) 33 (M')), S.2.2.1, S.2.2.2.1, (out')), ((va_up (va_up (va_up (va_up (va_up (va_up (va_up (va_up S.1 30 (r')) 31 (t')) 32 (k)) 38 (mg)) 39 (hv)) 40 (xx)) 41 (mm)) 42 (tk)), (va_up (va_up (va_up (va_up S.2.1 32 (G')) 33 (M')) 44 (W)) 43 (Vv)), S.2.2.1, S.2.2.2.1, (out')), ?_, ?_, rfl, c3, ⟨nr, nb, np, nd, sl, hA, hB, hR, hD⟩⟩
      · unfold g_L_taken
        rw [if_neg (show ¬ nI 0 = (1 : Int32) from by decide), if_neg (show ¬ nI 0 = (2 : Int32) from by decide), if_neg (show ¬ nI 0 = (3 : Int32) from by decide), if_neg (show ¬ nI 0 = (4 : Int32) from by decide), a0, a2, a28, a29, c1]; rfl
      · unfold g_X6_taken
        show Option.map _ (f_X6_taken N (nI 0) (S.1 33) (S.1 35) (S.1 36) (S.1 37) (S.1 38) (S.1 39) (S.1 40) (S.1 41) (S.1 42) (S.2.1 38) (S.2.1 40) (S.2.1 41) (S.2.1 42) (S.2.1 35) (S.2.1 44) (S.2.1 43) (S.2.1 36) (S.2.1 39)) = _
        rw [a33, a35, a36, a37, e38, e39, e40, e42, c2]; rfl
    · obtain ⟨c, w, hc, hw1, hw, eC, eZ, e1, e2, ht, eS, eP, eM, hrow⟩ := R1.1 hj
      obtain ⟨k, b, r', t', mg, hv, xx, mm, tk, G', M', W, Vv, out', c1, c2, c3⟩ := o_taken hN (lo := S.2.1 27) (hw := S.2.1 30) (dr := S.2.1 31) (G := S.2.1 32) (M := S.2.1 33) (iw := S.2.1 44) (vv := S.2.1 43) (sl := sl) (r0 := S.1 30) (t0 := S.1 31) (m0 := S.1 38) (h0 := S.1 39) (x0 := S.1 40) (m1 := S.1 41) (k1 := S.1 42) S.2.2.2.2 R1 H hj b1 b3 b4 hdr
      refine ⟨k, b, ((va_up (va_up S.1 30 (r')) 31 (t')), (va_up (va_up S.2.1 32 (G')) 33 (M')), S.2.2.1, S.2.2.2.1, (out')), ((va_up (va_up (va_up (va_up (va_up (va_up (va_up (va_up S.1 30 (r')) 31 (t')) 32 (k)) 38 (mg)) 39 (hv)) 40 (xx)) 41 (mm)) 42 (tk)), (va_up (va_up (va_up (va_up S.2.1 32 (G')) 33 (M')) 44 (W)) 43 (Vv)), S.2.2.1, S.2.2.2.1, (out')), ?_, ?_, rfl, c3, ⟨nr, nb, np, nd, sl, hA, hB, hR, hD⟩⟩
      · unfold g_L_taken
        rw [if_pos (show nI 1 = (1 : Int32) from by decide), a0, a2, a28, a29, c1]; rfl
      · unfold g_X6_taken
        show Option.map _ (f_X6_taken N (nI 1) (S.1 33) (S.1 35) (S.1 36) (S.1 37) (S.1 38) (S.1 39) (S.1 40) (S.1 41) (S.1 42) (S.2.1 38) (S.2.1 40) (S.2.1 41) (S.2.1 42) (S.2.1 35) (S.2.1 44) (S.2.1 43) (S.2.1 36) (S.2.1 39)) = _
        rw [a33, a35, a36, a37, e38, e39, e40, e42, c2]; rfl
    · obtain ⟨c, w, hc, hw1, hw, eC, eZ, e1, e2, ht, eS, eP, eM, hrow⟩ := R2.1 hj
      obtain ⟨k, b, r', t', mg, hv, xx, mm, tk, G', M', W, Vv, out', c1, c2, c3⟩ := o_taken hN (lo := S.2.1 27) (hw := S.2.1 30) (dr := S.2.1 31) (G := S.2.1 32) (M := S.2.1 33) (iw := S.2.1 44) (vv := S.2.1 43) (sl := sl) (r0 := S.1 30) (t0 := S.1 31) (m0 := S.1 38) (h0 := S.1 39) (x0 := S.1 40) (m1 := S.1 41) (k1 := S.1 42) S.2.2.2.2 R2 H hj b1 b3 b4 hdr
      refine ⟨k, b, ((va_up (va_up S.1 30 (r')) 31 (t')), (va_up (va_up S.2.1 32 (G')) 33 (M')), S.2.2.1, S.2.2.2.1, (out')), ((va_up (va_up (va_up (va_up (va_up (va_up (va_up (va_up S.1 30 (r')) 31 (t')) 32 (k)) 38 (mg)) 39 (hv)) 40 (xx)) 41 (mm)) 42 (tk)), (va_up (va_up (va_up (va_up S.2.1 32 (G')) 33 (M')) 44 (W)) 43 (Vv)), S.2.2.1, S.2.2.2.1, (out')), ?_, ?_, rfl, c3, ⟨nr, nb, np, nd, sl, hA, hB, hR, hD⟩⟩
      · unfold g_L_taken
        rw [if_neg (show ¬ nI 2 = (1 : Int32) from by decide), if_pos (show nI 2 = (2 : Int32) from by decide), a0, a2, a28, a29, c1]; rfl
      · unfold g_X6_taken
        show Option.map _ (f_X6_taken N (nI 2) (S.1 33) (S.1 35) (S.1 36) (S.1 37) (S.1 38) (S.1 39) (S.1 40) (S.1 41) (S.1 42) (S.2.1 38) (S.2.1 40) (S.2.1 41) (S.2.1 42) (S.2.1 35) (S.2.1 44) (S.2.1 43) (S.2.1 36) (S.2.1 39)) = _
        rw [a33, a35, a36, a37, e38, e39, e40, e42, c2]; rfl
    · obtain ⟨c, w, hc, hw1, hw, eC, eZ, e1, e2, ht, eS, eP, eM, hrow⟩ := R3.1 hj
      obtain ⟨k, b, r', t', mg, hv, xx, mm, tk, G', M', W, Vv, out', c1, c2, c3⟩ := o_taken hN (lo := S.2.1 27) (hw := S.2.1 30) (dr := S.2.1 31) (G := S.2.1 32) (M := S.2.1 33) (iw := S.2.1 44) (vv := S.2.1 43) (sl := sl) (r0 := S.1 30) (t0 := S.1 31) (m0 := S.1 38) (h0 := S.1 39) (x0 := S.1 40) (m1 := S.1 41) (k1 := S.1 42) S.2.2.2.2 R3 H hj b1 b3 b4 hdr
      refine ⟨k, b, ((va_up (va_up S.1 30 (r')) 31 (t')), (va_up (va_up S.2.1 32 (G')) 33 (M')), S.2.2.1, S.2.2.2.1, (out')), ((va_up (va_up (va_up (va_up (va_up (va_up (va_up (va_up S.1 30 (r')) 31 (t')) 32 (k)) 38 (mg)) 39 (hv)) 40 (xx)) 41 (mm)) 42 (tk)), (va_up (va_up (va_up (va_up S.2.1 32 (G')) 33 (M')) 44 (W)) 43 (Vv)), S.2.2.1, S.2.2.2.1, (out')), ?_, ?_, rfl, c3, ⟨nr, nb, np, nd, sl, hA, hB, hR, hD⟩⟩
      · unfold g_L_taken
        rw [if_neg (show ¬ nI 3 = (1 : Int32) from by decide), if_neg (show ¬ nI 3 = (2 : Int32) from by decide), if_pos (show nI 3 = (3 : Int32) from by decide), a0, a2, a28, a29, c1]; rfl
      · unfold g_X6_taken
        show Option.map _ (f_X6_taken N (nI 3) (S.1 33) (S.1 35) (S.1 36) (S.1 37) (S.1 38) (S.1 39) (S.1 40) (S.1 41) (S.1 42) (S.2.1 38) (S.2.1 40) (S.2.1 41) (S.2.1 42) (S.2.1 35) (S.2.1 44) (S.2.1 43) (S.2.1 36) (S.2.1 39)) = _
        rw [a33, a35, a36, a37, e38, e39, e40, e42, c2]; rfl
    · obtain ⟨c, w, hc, hw1, hw, eC, eZ, e1, e2, ht, eS, eP, eM, hrow⟩ := R4.1 hj
      obtain ⟨k, b, r', t', mg, hv, xx, mm, tk, G', M', W, Vv, out', c1, c2, c3⟩ := o_taken hN (lo := S.2.1 27) (hw := S.2.1 30) (dr := S.2.1 31) (G := S.2.1 32) (M := S.2.1 33) (iw := S.2.1 44) (vv := S.2.1 43) (sl := sl) (r0 := S.1 30) (t0 := S.1 31) (m0 := S.1 38) (h0 := S.1 39) (x0 := S.1 40) (m1 := S.1 41) (k1 := S.1 42) S.2.2.2.2 R4 H hj b1 b3 b4 hdr
      refine ⟨k, b, ((va_up (va_up S.1 30 (r')) 31 (t')), (va_up (va_up S.2.1 32 (G')) 33 (M')), S.2.2.1, S.2.2.2.1, (out')), ((va_up (va_up (va_up (va_up (va_up (va_up (va_up (va_up S.1 30 (r')) 31 (t')) 32 (k)) 38 (mg)) 39 (hv)) 40 (xx)) 41 (mm)) 42 (tk)), (va_up (va_up (va_up (va_up S.2.1 32 (G')) 33 (M')) 44 (W)) 43 (Vv)), S.2.2.1, S.2.2.2.1, (out')), ?_, ?_, rfl, c3, ⟨nr, nb, np, nd, sl, hA, hB, hR, hD⟩⟩
      · unfold g_L_taken
        rw [if_neg (show ¬ nI 4 = (1 : Int32) from by decide), if_neg (show ¬ nI 4 = (2 : Int32) from by decide), if_neg (show ¬ nI 4 = (3 : Int32) from by decide), if_pos (show nI 4 = (4 : Int32) from by decide), a0, a2, a28, a29, c1]; rfl
      · unfold g_X6_taken
        show Option.map _ (f_X6_taken N (nI 4) (S.1 33) (S.1 35) (S.1 36) (S.1 37) (S.1 38) (S.1 39) (S.1 40) (S.1 41) (S.1 42) (S.2.1 38) (S.2.1 40) (S.2.1 41) (S.2.1 42) (S.2.1 35) (S.2.1 44) (S.2.1 43) (S.2.1 36) (S.2.1 39)) = _
        rw [a33, a35, a36, a37, e38, e39, e40, e42, c2]; rfl
theorem s_need {N : Nat} (hN : 100010 ≤ N) {S : LSt9} (hI : Inv S) (x y : Int32) : ∃ (k b : Int32) (S1 S2 : LSt9), g_L_need N S x y = some (k, S1) ∧ g_X6_need N S1 x y = some (b, S2) ∧ S2.1 32 = k ∧ same k b S2.2.2.2.2 ∧ Inv S2 := by
  obtain ⟨nr, nb, np, nd, sl, hA, hB, hR, hD⟩ := hI
  obtain ⟨⟨b1, b2, b3, b4, b5⟩, a0, a1, a2, a28, a29, a33, a34, a35, a36, a37⟩ := id hA
  obtain ⟨e37, e38, e39, e40, e42, H, hlo, hlr, hdr, hwr⟩ := id hB
  obtain ⟨R0, R1, R2, R3, R4⟩ := id hR
  rcases ix_or x (show nr < 2 ^ 31 by omega) with h | ⟨j, hj, rfl⟩
  · refine ⟨1, 0, ((va_up (va_up S.1 30 ((S.1 30))) 31 ((S.1 31))), (va_up (va_up S.2.1 32 ((S.2.1 32))) 33 ((S.2.1 33))), S.2.2.1, S.2.2.2.1, (S.2.2.2.2)), ((va_up (va_up (va_up (va_up (va_up (va_up (va_up (va_up S.1 30 ((S.1 30))) 31 ((S.1 31))) 32 (1)) 38 (((va_up (va_up S.1 30 ((S.1 30))) 31 ((S.1 31))) 38))) 39 (((va_up (va_up S.1 30 ((S.1 30))) 31 ((S.1 31))) 39))) 40 (((va_up (va_up S.1 30 ((S.1 30))) 31 ((S.1 31))) 40))) 41 (((va_up (va_up S.1 30 ((S.1 30))) 31 ((S.1 31))) 41))) 42 (((va_up (va_up S.1 30 ((S.1 30))) 31 ((S.1 31))) 42))), (va_up (va_up (va_up (va_up S.2.1 32 ((S.2.1 32))) 33 ((S.2.1 33))) 44 (((va_up (va_up S.2.1 32 ((S.2.1 32))) 33 ((S.2.1 33))) 44))) 43 (((va_up (va_up S.2.1 32 ((S.2.1 32))) 33 ((S.2.1 33))) 43))), S.2.2.1, S.2.2.2.1, (S.2.2.2.2)), ?_, ?_, rfl, same1 _ _, ⟨nr, nb, np, nd, sl, hA, hB, hR, hD⟩⟩
    · unfold g_L_need
      rw [a0]
      simp only [o_need_out h]
      repeat' split
      all_goals rfl
    · unfold g_X6_need
      show Option.map _ (f_X6_need N x y (S.1 33) (S.1 35) (S.1 36) (S.1 37) (S.1 38) (S.1 39) (S.1 40) (S.1 41) (S.1 42) (S.2.1 38) (S.2.1 40) (S.2.1 41) (S.2.1 42) (S.2.1 35) (S.2.1 44) (S.2.1 43) (S.2.1 36) (S.2.1 39)) = _
      rw [a33, m_need_out h]; rfl
  · rcases (show j = 0 ∨ j = 1 ∨ j = 2 ∨ j = 3 ∨ j = 4 by omega) with rfl | rfl | rfl | rfl | rfl
    · obtain ⟨c, w, hc, hw1, hw, eC, eZ, e1, e2, ht, eS, eP, eM, hrow⟩ := R0.1 hj
      obtain ⟨k, b, r', t', mg, hv, xx, mm, tk, G', M', W, Vv, out', c1, c2, c3⟩ := o_need hN (y := y) (lo := S.2.1 27) (hw := S.2.1 30) (dr := S.2.1 31) (G := S.2.1 32) (M := S.2.1 33) (iw := S.2.1 44) (vv := S.2.1 43) (sl := sl) (r0 := S.1 30) (t0 := S.1 31) (m0 := S.1 38) (h0 := S.1 39) (x0 := S.1 40) (m1 := S.1 41) (k1 := S.1 42) S.2.2.2.2 R0 H hj b1 b3 b4 hdr
      refine ⟨k, b, ((va_up (va_up S.1 30 (r')) 31 (t')), (va_up (va_up S.2.1 32 (G')) 33 (M')), S.2.2.1, S.2.2.2.1, (out')), ((va_up (va_up (va_up (va_up (va_up (va_up (va_up (va_up S.1 30 (r')) 31 (t')) 32 (k)) 38 (mg)) 39 (hv)) 40 (xx)) 41 (mm)) 42 (tk)), (va_up (va_up (va_up (va_up S.2.1 32 (G')) 33 (M')) 44 (W)) 43 (Vv)), S.2.2.1, S.2.2.2.1, (out')), ?_, ?_, rfl, c3, ⟨nr, nb, np, nd, sl, hA, hB, hR, hD⟩⟩
      · unfold g_L_need
        rw [if_neg (show ¬ nI 0 = (1 : Int32) from by decide), if_neg (show ¬ nI 0 = (2 : Int32) from by decide), if_neg (show ¬ nI 0 = (3 : Int32) from by decide), if_neg (show ¬ nI 0 = (4 : Int32) from by decide), a0, a2, a28, a29, c1]; rfl
      · unfold g_X6_need
        show Option.map _ (f_X6_need N (nI 0) y (S.1 33) (S.1 35) (S.1 36) (S.1 37) (S.1 38) (S.1 39) (S.1 40) (S.1 41) (S.1 42) (S.2.1 38) (S.2.1 40) (S.2.1 41) (S.2.1 42) (S.2.1 35) (S.2.1 44) (S.2.1 43) (S.2.1 36) (S.2.1 39)) = _
        rw [a33, a35, a36, a37, e38, e39, e40, e42, c2]; rfl
    · obtain ⟨c, w, hc, hw1, hw, eC, eZ, e1, e2, ht, eS, eP, eM, hrow⟩ := R1.1 hj
      obtain ⟨k, b, r', t', mg, hv, xx, mm, tk, G', M', W, Vv, out', c1, c2, c3⟩ := o_need hN (y := y) (lo := S.2.1 27) (hw := S.2.1 30) (dr := S.2.1 31) (G := S.2.1 32) (M := S.2.1 33) (iw := S.2.1 44) (vv := S.2.1 43) (sl := sl) (r0 := S.1 30) (t0 := S.1 31) (m0 := S.1 38) (h0 := S.1 39) (x0 := S.1 40) (m1 := S.1 41) (k1 := S.1 42) S.2.2.2.2 R1 H hj b1 b3 b4 hdr
      refine ⟨k, b, ((va_up (va_up S.1 30 (r')) 31 (t')), (va_up (va_up S.2.1 32 (G')) 33 (M')), S.2.2.1, S.2.2.2.1, (out')), ((va_up (va_up (va_up (va_up (va_up (va_up (va_up (va_up S.1 30 (r')) 31 (t')) 32 (k)) 38 (mg)) 39 (hv)) 40 (xx)) 41 (mm)) 42 (tk)), (va_up (va_up (va_up (va_up S.2.1 32 (G')) 33 (M')) 44 (W)) 43 (Vv)), S.2.2.1, S.2.2.2.1, (out')), ?_, ?_, rfl, c3, ⟨nr, nb, np, nd, sl, hA, hB, hR, hD⟩⟩
      · unfold g_L_need
        rw [if_pos (show nI 1 = (1 : Int32) from by decide), a0, a2, a28, a29, c1]; rfl
      · unfold g_X6_need
        show Option.map _ (f_X6_need N (nI 1) y (S.1 33) (S.1 35) (S.1 36) (S.1 37) (S.1 38) (S.1 39) (S.1 40) (S.1 41) (S.1 42) (S.2.1 38) (S.2.1 40) (S.2.1 41) (S.2.1 42) (S.2.1 35) (S.2.1 44) (S.2.1 43) (S.2.1 36) (S.2.1 39)) = _
        rw [a33, a35, a36, a37, e38, e39, e40, e42, c2]; rfl
    · obtain ⟨c, w, hc, hw1, hw, eC, eZ, e1, e2, ht, eS, eP, eM, hrow⟩ := R2.1 hj
      obtain ⟨k, b, r', t', mg, hv, xx, mm, tk, G', M', W, Vv, out', c1, c2, c3⟩ := o_need hN (y := y) (lo := S.2.1 27) (hw := S.2.1 30) (dr := S.2.1 31) (G := S.2.1 32) (M := S.2.1 33) (iw := S.2.1 44) (vv := S.2.1 43) (sl := sl) (r0 := S.1 30) (t0 := S.1 31) (m0 := S.1 38) (h0 := S.1 39) (x0 := S.1 40) (m1 := S.1 41) (k1 := S.1 42) S.2.2.2.2 R2 H hj b1 b3 b4 hdr
      refine ⟨k, b, ((va_up (va_up S.1 30 (r')) 31 (t')), (va_up (va_up S.2.1 32 (G')) 33 (M')), S.2.2.1, S.2.2.2.1, (out')), ((va_up (va_up (va_up (va_up (va_up (va_up (va_up (va_up S.1 30 (r')) 31 (t')) 32 (k)) 38 (mg)) 39 (hv)) 40 (xx)) 41 (mm)) 42 (tk)), (va_up (va_up (va_up (va_up S.2.1 32 (G')) 33 (M')) 44 (W)) 43 (Vv)), S.2.2.1, S.2.2.2.1, (out')), ?_, ?_, rfl, c3, ⟨nr, nb, np, nd, sl, hA, hB, hR, hD⟩⟩
      · unfold g_L_need
        rw [if_neg (show ¬ nI 2 = (1 : Int32) from by decide), if_pos (show nI 2 = (2 : Int32) from by decide), a0, a2, a28, a29, c1]; rfl
      · unfold g_X6_need
        show Option.map _ (f_X6_need N (nI 2) y (S.1 33) (S.1 35) (S.1 36) (S.1 37) (S.1 38) (S.1 39) (S.1 40) (S.1 41) (S.1 42) (S.2.1 38) (S.2.1 40) (S.2.1 41) (S.2.1 42) (S.2.1 35) (S.2.1 44) (S.2.1 43) (S.2.1 36) (S.2.1 39)) = _
        rw [a33, a35, a36, a37, e38, e39, e40, e42, c2]; rfl
    · obtain ⟨c, w, hc, hw1, hw, eC, eZ, e1, e2, ht, eS, eP, eM, hrow⟩ := R3.1 hj
      obtain ⟨k, b, r', t', mg, hv, xx, mm, tk, G', M', W, Vv, out', c1, c2, c3⟩ := o_need hN (y := y) (lo := S.2.1 27) (hw := S.2.1 30) (dr := S.2.1 31) (G := S.2.1 32) (M := S.2.1 33) (iw := S.2.1 44) (vv := S.2.1 43) (sl := sl) (r0 := S.1 30) (t0 := S.1 31) (m0 := S.1 38) (h0 := S.1 39) (x0 := S.1 40) (m1 := S.1 41) (k1 := S.1 42) S.2.2.2.2 R3 H hj b1 b3 b4 hdr
      refine ⟨k, b, ((va_up (va_up S.1 30 (r')) 31 (t')), (va_up (va_up S.2.1 32 (G')) 33 (M')), S.2.2.1, S.2.2.2.1, (out')), ((va_up (va_up (va_up (va_up (va_up (va_up (va_up (va_up S.1 30 (r')) 31 (t')) 32 (k)) 38 (mg)) 39 (hv)) 40 (xx)) 41 (mm)) 42 (tk)), (va_up (va_up (va_up (va_up S.2.1 32 (G')) 33 (M')) 44 (W)) 43 (Vv)), S.2.2.1, S.2.2.2.1, (out')), ?_, ?_, rfl, c3, ⟨nr, nb, np, nd, sl, hA, hB, hR, hD⟩⟩
      · unfold g_L_need
        rw [if_neg (show ¬ nI 3 = (1 : Int32) from by decide), if_neg (show ¬ nI 3 = (2 : Int32) from by decide), if_pos (show nI 3 = (3 : Int32) from by decide), a0, a2, a28, a29, c1]; rfl
      · unfold g_X6_need
        show Option.map _ (f_X6_need N (nI 3) y (S.1 33) (S.1 35) (S.1 36) (S.1 37) (S.1 38) (S.1 39) (S.1 40) (S.1 41) (S.1 42) (S.2.1 38) (S.2.1 40) (S.2.1 41) (S.2.1 42) (S.2.1 35) (S.2.1 44) (S.2.1 43) (S.2.1 36) (S.2.1 39)) = _
        rw [a33, a35, a36, a37, e38, e39, e40, e42, c2]; rfl
    · obtain ⟨c, w, hc, hw1, hw, eC, eZ, e1, e2, ht, eS, eP, eM, hrow⟩ := R4.1 hj
      obtain ⟨k, b, r', t', mg, hv, xx, mm, tk, G', M', W, Vv, out', c1, c2, c3⟩ := o_need hN (y := y) (lo := S.2.1 27) (hw := S.2.1 30) (dr := S.2.1 31) (G := S.2.1 32) (M := S.2.1 33) (iw := S.2.1 44) (vv := S.2.1 43) (sl := sl) (r0 := S.1 30) (t0 := S.1 31) (m0 := S.1 38) (h0 := S.1 39) (x0 := S.1 40) (m1 := S.1 41) (k1 := S.1 42) S.2.2.2.2 R4 H hj b1 b3 b4 hdr
      refine ⟨k, b, ((va_up (va_up S.1 30 (r')) 31 (t')), (va_up (va_up S.2.1 32 (G')) 33 (M')), S.2.2.1, S.2.2.2.1, (out')), ((va_up (va_up (va_up (va_up (va_up (va_up (va_up (va_up S.1 30 (r')) 31 (t')) 32 (k)) 38 (mg)) 39 (hv)) 40 (xx)) 41 (mm)) 42 (tk)), (va_up (va_up (va_up (va_up S.2.1 32 (G')) 33 (M')) 44 (W)) 43 (Vv)), S.2.2.1, S.2.2.2.1, (out')), ?_, ?_, rfl, c3, ⟨nr, nb, np, nd, sl, hA, hB, hR, hD⟩⟩
      · unfold g_L_need
        rw [if_neg (show ¬ nI 4 = (1 : Int32) from by decide), if_neg (show ¬ nI 4 = (2 : Int32) from by decide), if_neg (show ¬ nI 4 = (3 : Int32) from by decide), if_pos (show nI 4 = (4 : Int32) from by decide), a0, a2, a28, a29, c1]; rfl
      · unfold g_X6_need
        show Option.map _ (f_X6_need N (nI 4) y (S.1 33) (S.1 35) (S.1 36) (S.1 37) (S.1 38) (S.1 39) (S.1 40) (S.1 41) (S.1 42) (S.2.1 38) (S.2.1 40) (S.2.1 41) (S.2.1 42) (S.2.1 35) (S.2.1 44) (S.2.1 43) (S.2.1 36) (S.2.1 39)) = _
        rw [a33, a35, a36, a37, e38, e39, e40, e42, c2]; rfl
theorem s_taint {N : Nat} (hN : 100010 ≤ N) {S : LSt9} (hI : Inv S) (x y : Int32) : ∃ (k b : Int32) (S1 S2 : LSt9), g_L_taint N S x y = some (k, S1) ∧ g_X6_taint N S1 x y = some (b, S2) ∧ S2.1 32 = k ∧ same k b S2.2.2.2.2 ∧ Inv S2 := by
  obtain ⟨nr, nb, np, nd, sl, hA, hB, hR, hD⟩ := hI
  obtain ⟨⟨b1, b2, b3, b4, b5⟩, a0, a1, a2, a28, a29, a33, a34, a35, a36, a37⟩ := id hA
  obtain ⟨e37, e38, e39, e40, e42, H, hlo, hlr, hdr, hwr⟩ := id hB
  obtain ⟨R0, R1, R2, R3, R4⟩ := id hR
  rcases ix_or x (show nr < 2 ^ 31 by omega) with h | ⟨j, hj, rfl⟩
  · refine ⟨1, 0, (S.1, (va_up (va_up S.2.1 32 ((S.2.1 32))) 33 ((S.2.1 33))), S.2.2.1, S.2.2.2.1, (S.2.2.2.2)), ((va_up (va_up (va_up (va_up (va_up (va_up S.1 32 (1)) 38 ((S.1 38))) 39 ((S.1 39))) 40 ((S.1 40))) 41 ((S.1 41))) 42 ((S.1 42))), (va_up (va_up (va_up (va_up S.2.1 32 ((S.2.1 32))) 33 ((S.2.1 33))) 44 (((va_up (va_up S.2.1 32 ((S.2.1 32))) 33 ((S.2.1 33))) 44))) 43 (((va_up (va_up S.2.1 32 ((S.2.1 32))) 33 ((S.2.1 33))) 43))), S.2.2.1, S.2.2.2.1, (S.2.2.2.2)), ?_, ?_, rfl, same1 _ _, ⟨nr, nb, np, nd, sl, hA, hB, hR, hD⟩⟩
    · unfold g_L_taint
      rw [a0]
      simp only [o_taint_out h]
      repeat' split
      all_goals rfl
    · unfold g_X6_taint
      show Option.map _ (f_X6_taint N x y (S.1 33) (S.1 35) (S.1 36) (S.1 37) (S.1 38) (S.1 39) (S.1 40) (S.1 41) (S.1 42) (S.2.1 38) (S.2.1 40) (S.2.1 41) (S.2.1 42) (S.2.1 35) (S.2.1 44) (S.2.1 43) (S.2.1 36) (S.2.1 39)) = _
      rw [a33, m_taint_out h]; rfl
  · rcases (show j = 0 ∨ j = 1 ∨ j = 2 ∨ j = 3 ∨ j = 4 by omega) with rfl | rfl | rfl | rfl | rfl
    · obtain ⟨c, w, hc, hw1, hw, eC, eZ, e1, e2, ht, eS, eP, eM, hrow⟩ := R0.1 hj
      obtain ⟨k, b, mg, hv, xx, mm, tk, G', M', W, Vv, out', c1, c2, c3⟩ := o_taint hN (y := y) (lo := S.2.1 27) (hw := S.2.1 30) (dr := S.2.1 31) (G := S.2.1 32) (M := S.2.1 33) (iw := S.2.1 44) (vv := S.2.1 43) (sl := sl) (m0 := S.1 38) (h0 := S.1 39) (x0 := S.1 40) (m1 := S.1 41) (k1 := S.1 42) S.2.2.2.2 R0 H hj b1 b3 b4 hdr
      refine ⟨k, b, (S.1, (va_up (va_up S.2.1 32 (G')) 33 (M')), S.2.2.1, S.2.2.2.1, (out')), ((va_up (va_up (va_up (va_up (va_up (va_up S.1 32 (k)) 38 (mg)) 39 (hv)) 40 (xx)) 41 (mm)) 42 (tk)), (va_up (va_up (va_up (va_up S.2.1 32 (G')) 33 (M')) 44 (W)) 43 (Vv)), S.2.2.1, S.2.2.2.1, (out')), ?_, ?_, rfl, c3, ⟨nr, nb, np, nd, sl, hA, hB, hR, hD⟩⟩
      · unfold g_L_taint
        rw [if_neg (show ¬ nI 0 = (1 : Int32) from by decide), if_neg (show ¬ nI 0 = (2 : Int32) from by decide), if_neg (show ¬ nI 0 = (3 : Int32) from by decide), if_neg (show ¬ nI 0 = (4 : Int32) from by decide), a0, a2, a29, c1]; rfl
      · unfold g_X6_taint
        show Option.map _ (f_X6_taint N (nI 0) y (S.1 33) (S.1 35) (S.1 36) (S.1 37) (S.1 38) (S.1 39) (S.1 40) (S.1 41) (S.1 42) (S.2.1 38) (S.2.1 40) (S.2.1 41) (S.2.1 42) (S.2.1 35) (S.2.1 44) (S.2.1 43) (S.2.1 36) (S.2.1 39)) = _
        rw [a33, a35, a36, a37, e38, e39, e40, e42, c2]; rfl
    · obtain ⟨c, w, hc, hw1, hw, eC, eZ, e1, e2, ht, eS, eP, eM, hrow⟩ := R1.1 hj
      obtain ⟨k, b, mg, hv, xx, mm, tk, G', M', W, Vv, out', c1, c2, c3⟩ := o_taint hN (y := y) (lo := S.2.1 27) (hw := S.2.1 30) (dr := S.2.1 31) (G := S.2.1 32) (M := S.2.1 33) (iw := S.2.1 44) (vv := S.2.1 43) (sl := sl) (m0 := S.1 38) (h0 := S.1 39) (x0 := S.1 40) (m1 := S.1 41) (k1 := S.1 42) S.2.2.2.2 R1 H hj b1 b3 b4 hdr
      refine ⟨k, b, (S.1, (va_up (va_up S.2.1 32 (G')) 33 (M')), S.2.2.1, S.2.2.2.1, (out')), ((va_up (va_up (va_up (va_up (va_up (va_up S.1 32 (k)) 38 (mg)) 39 (hv)) 40 (xx)) 41 (mm)) 42 (tk)), (va_up (va_up (va_up (va_up S.2.1 32 (G')) 33 (M')) 44 (W)) 43 (Vv)), S.2.2.1, S.2.2.2.1, (out')), ?_, ?_, rfl, c3, ⟨nr, nb, np, nd, sl, hA, hB, hR, hD⟩⟩
      · unfold g_L_taint
        rw [if_pos (show nI 1 = (1 : Int32) from by decide), a0, a2, a29, c1]; rfl
      · unfold g_X6_taint
        show Option.map _ (f_X6_taint N (nI 1) y (S.1 33) (S.1 35) (S.1 36) (S.1 37) (S.1 38) (S.1 39) (S.1 40) (S.1 41) (S.1 42) (S.2.1 38) (S.2.1 40) (S.2.1 41) (S.2.1 42) (S.2.1 35) (S.2.1 44) (S.2.1 43) (S.2.1 36) (S.2.1 39)) = _
        rw [a33, a35, a36, a37, e38, e39, e40, e42, c2]; rfl
    · obtain ⟨c, w, hc, hw1, hw, eC, eZ, e1, e2, ht, eS, eP, eM, hrow⟩ := R2.1 hj
      obtain ⟨k, b, mg, hv, xx, mm, tk, G', M', W, Vv, out', c1, c2, c3⟩ := o_taint hN (y := y) (lo := S.2.1 27) (hw := S.2.1 30) (dr := S.2.1 31) (G := S.2.1 32) (M := S.2.1 33) (iw := S.2.1 44) (vv := S.2.1 43) (sl := sl) (m0 := S.1 38) (h0 := S.1 39) (x0 := S.1 40) (m1 := S.1 41) (k1 := S.1 42) S.2.2.2.2 R2 H hj b1 b3 b4 hdr
      refine ⟨k, b, (S.1, (va_up (va_up S.2.1 32 (G')) 33 (M')), S.2.2.1, S.2.2.2.1, (out')), ((va_up (va_up (va_up (va_up (va_up (va_up S.1 32 (k)) 38 (mg)) 39 (hv)) 40 (xx)) 41 (mm)) 42 (tk)), (va_up (va_up (va_up (va_up S.2.1 32 (G')) 33 (M')) 44 (W)) 43 (Vv)), S.2.2.1, S.2.2.2.1, (out')), ?_, ?_, rfl, c3, ⟨nr, nb, np, nd, sl, hA, hB, hR, hD⟩⟩
      · unfold g_L_taint
        rw [if_neg (show ¬ nI 2 = (1 : Int32) from by decide), if_pos (show nI 2 = (2 : Int32) from by decide), a0, a2, a29, c1]; rfl
      · unfold g_X6_taint
        show Option.map _ (f_X6_taint N (nI 2) y (S.1 33) (S.1 35) (S.1 36) (S.1 37) (S.1 38) (S.1 39) (S.1 40) (S.1 41) (S.1 42) (S.2.1 38) (S.2.1 40) (S.2.1 41) (S.2.1 42) (S.2.1 35) (S.2.1 44) (S.2.1 43) (S.2.1 36) (S.2.1 39)) = _
        rw [a33, a35, a36, a37, e38, e39, e40, e42, c2]; rfl
    · obtain ⟨c, w, hc, hw1, hw, eC, eZ, e1, e2, ht, eS, eP, eM, hrow⟩ := R3.1 hj
      obtain ⟨k, b, mg, hv, xx, mm, tk, G', M', W, Vv, out', c1, c2, c3⟩ := o_taint hN (y := y) (lo := S.2.1 27) (hw := S.2.1 30) (dr := S.2.1 31) (G := S.2.1 32) (M := S.2.1 33) (iw := S.2.1 44) (vv := S.2.1 43) (sl := sl) (m0 := S.1 38) (h0 := S.1 39) (x0 := S.1 40) (m1 := S.1 41) (k1 := S.1 42) S.2.2.2.2 R3 H hj b1 b3 b4 hdr
      refine ⟨k, b, (S.1, (va_up (va_up S.2.1 32 (G')) 33 (M')), S.2.2.1, S.2.2.2.1, (out')), ((va_up (va_up (va_up (va_up (va_up (va_up S.1 32 (k)) 38 (mg)) 39 (hv)) 40 (xx)) 41 (mm)) 42 (tk)), (va_up (va_up (va_up (va_up S.2.1 32 (G')) 33 (M')) 44 (W)) 43 (Vv)), S.2.2.1, S.2.2.2.1, (out')), ?_, ?_, rfl, c3, ⟨nr, nb, np, nd, sl, hA, hB, hR, hD⟩⟩
      · unfold g_L_taint
        rw [if_neg (show ¬ nI 3 = (1 : Int32) from by decide), if_neg (show ¬ nI 3 = (2 : Int32) from by decide), if_pos (show nI 3 = (3 : Int32) from by decide), a0, a2, a29, c1]; rfl
      · unfold g_X6_taint
        show Option.map _ (f_X6_taint N (nI 3) y (S.1 33) (S.1 35) (S.1 36) (S.1 37) (S.1 38) (S.1 39) (S.1 40) (S.1 41) (S.1 42) (S.2.1 38) (S.2.1 40) (S.2.1 41) (S.2.1 42) (S.2.1 35) (S.2.1 44) (S.2.1 43) (S.2.1 36) (S.2.1 39)) = _
        rw [a33, a35, a36, a37, e38, e39, e40, e42, c2]; rfl
    · obtain ⟨c, w, hc, hw1, hw, eC, eZ, e1, e2, ht, eS, eP, eM, hrow⟩ := R4.1 hj
      obtain ⟨k, b, mg, hv, xx, mm, tk, G', M', W, Vv, out', c1, c2, c3⟩ := o_taint hN (y := y) (lo := S.2.1 27) (hw := S.2.1 30) (dr := S.2.1 31) (G := S.2.1 32) (M := S.2.1 33) (iw := S.2.1 44) (vv := S.2.1 43) (sl := sl) (m0 := S.1 38) (h0 := S.1 39) (x0 := S.1 40) (m1 := S.1 41) (k1 := S.1 42) S.2.2.2.2 R4 H hj b1 b3 b4 hdr
      refine ⟨k, b, (S.1, (va_up (va_up S.2.1 32 (G')) 33 (M')), S.2.2.1, S.2.2.2.1, (out')), ((va_up (va_up (va_up (va_up (va_up (va_up S.1 32 (k)) 38 (mg)) 39 (hv)) 40 (xx)) 41 (mm)) 42 (tk)), (va_up (va_up (va_up (va_up S.2.1 32 (G')) 33 (M')) 44 (W)) 43 (Vv)), S.2.2.1, S.2.2.2.1, (out')), ?_, ?_, rfl, c3, ⟨nr, nb, np, nd, sl, hA, hB, hR, hD⟩⟩
      · unfold g_L_taint
        rw [if_neg (show ¬ nI 4 = (1 : Int32) from by decide), if_neg (show ¬ nI 4 = (2 : Int32) from by decide), if_neg (show ¬ nI 4 = (3 : Int32) from by decide), if_pos (show nI 4 = (4 : Int32) from by decide), a0, a2, a29, c1]; rfl
      · unfold g_X6_taint
        show Option.map _ (f_X6_taint N (nI 4) y (S.1 33) (S.1 35) (S.1 36) (S.1 37) (S.1 38) (S.1 39) (S.1 40) (S.1 41) (S.1 42) (S.2.1 38) (S.2.1 40) (S.2.1 41) (S.2.1 42) (S.2.1 35) (S.2.1 44) (S.2.1 43) (S.2.1 36) (S.2.1 39)) = _
        rw [a33, a35, a36, a37, e38, e39, e40, e42, c2]; rfl
theorem s_box {N : Nat} (hN : 100010 ≤ N) {S : LSt9} (hI : Inv S) : ∃ (a : Int32) (S1 S2 : LSt9), g_X5_box N S  = some (a, S1) ∧ g_X6_box N S1  = some (a, S2) ∧ Inv S2 := by
  obtain ⟨nr, nb, np, nd, sl, hA, hB, hR, hD⟩ := hI
  obtain ⟨⟨b1, b2, b3, b4, b5⟩, a0, a1, a2, a28, a29, a33, a34, a35, a36, a37⟩ := id hA
  obtain ⟨e37, e38, e39, e40, e42, H, hlo, hlr, hdr, hwr⟩ := id hB
  obtain ⟨R0, R1, R2, R3, R4⟩ := id hR
  have e1 : f_X5_box (S.1 1) (S.1 2) = if nb = 10 ∨ sl = true then some (-1, S.1 1) else some (nI nb, nI (nb + 1)) := by
    unfold f_X5_box
    by_cases h : nb = 10
    · rw [if_pos (show (10 : Int32) ≤ S.1 1 from by rw [a1, h]; decide), if_pos (Or.inl h)]
    · rw [if_neg (show ¬ (10 : Int32) ≤ S.1 1 from by rw [a1]; exact nI_ge (b := 10) (by omega) (by decide)), a2, bi_if]
      cases sl
      · rw [if_neg (by decide), if_neg (by simp [h]), a1, nI_1, show nI (nb + 1) - (1 : Int32) = nI nb from nI_pred nb]
      · rw [if_pos rfl, if_pos (Or.inr rfl)]
  have e2 : f_X6_box (S.1 34) (S.1 37) = if nb = 10 ∨ sl = true then some (-1, 0, S.1 34) else some (nI nb, 0, nI (nb + 1)) := by
    unfold f_X6_box
    by_cases h : nb = 10
    · rw [if_pos (show S.1 34 = (10 : Int32) from by rw [a34, h]; rfl), if_pos (Or.inl h)]
    · rw [if_neg (show ¬ S.1 34 = (10 : Int32) from by rw [a34]; exact fun e => h ((nI_eq (b := 10) (by omega) (by decide)).mp e)), a37, bi_if]
      cases sl
      · rw [if_neg (by decide), if_neg (by simp [h]), a34, nI_1, show nI (nb + 1) - (1 : Int32) = nI nb from nI_pred nb]
      · rw [if_pos rfl, if_pos (Or.inr rfl)]
  by_cases h : nb = 10 ∨ sl = true
  · rw [if_pos h] at e1 e2
    refine ⟨-1, ((va_up S.1 1 ((S.1 1))), S.2.1, S.2.2.1, S.2.2.2.1, S.2.2.2.2), ((va_up (va_up (va_up S.1 1 ((S.1 1))) 32 (0)) 34 (((va_up S.1 1 ((S.1 1))) 34))), S.2.1, S.2.2.1, S.2.2.2.1, S.2.2.2.2), ?_, ?_, ⟨nr, nb, np, nd, sl, hA, hB, hR, hD⟩⟩
    · unfold g_X5_box
      rw [e1]; rfl
    · unfold g_X6_box
      show Option.map _ (f_X6_box (S.1 34) (S.1 37)) = _
      rw [e2]; rfl
  · rw [if_neg h] at e1 e2
    refine ⟨nI nb, ((va_up S.1 1 ((nI (nb + 1)))), S.2.1, S.2.2.1, S.2.2.2.1, S.2.2.2.2), ((va_up (va_up (va_up S.1 1 ((nI (nb + 1)))) 32 (0)) 34 ((nI (nb + 1)))), S.2.1, S.2.2.1, S.2.2.2.1, S.2.2.2.2), ?_, ?_, ⟨nr, nb + 1, np, nd, sl, ⟨⟨b1, by omega, b3, b4, b5⟩, a0, rfl, a2, a28, a29, a33, rfl, a35, a36, a37⟩, hB, hR, hD⟩⟩
    · unfold g_X5_box
      rw [e1]; rfl
    · unfold g_X6_box
      show Option.map _ (f_X6_box (S.1 34) (S.1 37)) = _
      rw [e2]; rfl
theorem s_seal {N : Nat} (hN : 100010 ≤ N) {S : LSt9} (hI : Inv S) (y : Int64) : ∃ (a : Int32) (S1 S2 : LSt9), g_X5_seal N S y = some (a, S1) ∧ g_X6_seal N S1 y = some (a, S2) ∧ Inv S2 := by
  obtain ⟨nr, nb, np, nd, sl, hA, hB, hR, hD⟩ := hI
  obtain ⟨⟨b1, b2, b3, b4, b5⟩, a0, a1, a2, a28, a29, a33, a34, a35, a36, a37⟩ := id hA
  obtain ⟨e37, e38, e39, e40, e42, H, hlo, hlr, hdr, hwr⟩ := id hB
  obtain ⟨R0, R1, R2, R3, R4⟩ := id hR
  have e1 : f_X5_seal y (S.1 2) (S.1 28) S.2.2.1 = if sl = true ∨ np = 0 then some (0, S.1 2, S.2.2.1) else some (1, 1, y) := by
    unfold f_X5_seal
    cases sl
    · rw [if_pos (show S.1 2 = 0 from a2)]
      by_cases h : np = 0
      · rw [if_pos (show S.1 28 = 0 from by rw [a28, h]; rfl), if_pos (Or.inr h)]
      · rw [if_neg (show ¬ S.1 28 = 0 from by rw [a28]; exact nI_ne0 (by omega) (by omega)), if_neg (by simp [h])]; rfl
    · rw [if_neg (show ¬ S.1 2 = 0 from by rw [a2]; decide), if_pos (Or.inl rfl)]
  have e2 : f_X6_seal y (S.1 35) (S.1 37) S.2.2.2.1 = if sl = true ∨ np = 0 then some (0, 0, S.1 37, S.2.2.2.1) else some (1, 0, 1, y) := by
    unfold f_X6_seal
    cases sl
    · rw [if_pos (show S.1 37 = 0 from a37)]
      by_cases h : np = 0
      · rw [if_pos (show S.1 35 = 0 from by rw [a35, h]; rfl), if_pos (Or.inr h)]
      · rw [if_neg (show ¬ S.1 35 = 0 from by rw [a35]; exact nI_ne0 (by omega) (by omega)), if_neg (by simp [h])]
    · rw [if_neg (show ¬ S.1 37 = 0 from by rw [a37]; decide), if_pos (Or.inl rfl)]
  by_cases h : sl = true ∨ np = 0
  · rw [if_pos h] at e1 e2
    refine ⟨0, ((va_up S.1 2 ((S.1 2))), S.2.1, (S.2.2.1), S.2.2.2.1, S.2.2.2.2), ((va_up (va_up (va_up S.1 2 ((S.1 2))) 32 (0)) 37 (((va_up S.1 2 ((S.1 2))) 37))), S.2.1, (S.2.2.1), (S.2.2.2.1), S.2.2.2.2), ?_, ?_, ⟨nr, nb, np, nd, sl, hA, hB, hR, hD⟩⟩
    · unfold g_X5_seal
      rw [e1]; rfl
    · unfold g_X6_seal
      show Option.map _ (f_X6_seal y (S.1 35) (S.1 37) S.2.2.2.1) = _
      rw [e2]; rfl
  · rw [if_neg h] at e1 e2
    refine ⟨1, ((va_up S.1 2 (1)), S.2.1, (y), S.2.2.2.1, S.2.2.2.2), ((va_up (va_up (va_up S.1 2 (1)) 32 (0)) 37 (1)), S.2.1, (y), (y), S.2.2.2.2), ?_, ?_, ⟨nr, nb, np, nd, true, ⟨⟨b1, b2, b3, b4, fun _ => by omega⟩, a0, a1, rfl, a28, a29, a33, a34, a35, a36, rfl⟩, hB, hR, rfl⟩⟩
    · unfold g_X5_seal
      rw [e1]; rfl
    · unfold g_X6_seal
      show Option.map _ (f_X6_seal y (S.1 35) (S.1 37) S.2.2.2.1) = _
      rw [e2]; rfl
theorem s_waits {N : Nat} (hN : 100010 ≤ N) {S : LSt9} (hI : Inv S) : ∃ (a : Int32) (S2 : LSt9), f_X5_waits N (S.1 29) (S.2.1 31) (S.2.1 27) (S.2.1 29) = some a ∧ g_X6_waits N S = some (a, S2) ∧ Inv S2 := by
  obtain ⟨nr, nb, np, nd, sl, hA, hB, hR, hD⟩ := hI
  obtain ⟨⟨b1, b2, b3, b4, b5⟩, a0, a1, a2, a28, a29, a33, a34, a35, a36, a37⟩ := id hA
  obtain ⟨e37, e38, e39, e40, e42, H, hlo, hlr, hdr, hwr⟩ := id hB
  obtain ⟨R0, R1, R2, R3, R4⟩ := id hR
  obtain ⟨a, c1, c2⟩ := o_waits hN (lo := S.2.1 27) H b3 b4 hdr
  refine ⟨a, ((va_up S.1 32 (0)), S.2.1, S.2.2.1, S.2.2.2.1, S.2.2.2.2), ?_, ?_, ⟨nr, nb, np, nd, sl, hA, hB, hR, hD⟩⟩
  · rw [a29]; exact c1
  · unfold g_X6_waits
    rw [a36, e39, e40, c2]; rfl
end PURE11
