/-! PURE, 13: the law's cases: each goes on, in a state as before. -/
section PURE13
theorem gdi {α : Type} {i L d : Nat} {x : Option α} (h : i + 3 < L) (hL : L ≤ 2048) (hd : d ≤ 3) : gd (nI i + nI d) L x = x := by rw [nI_add]; exact gd_nI (by omega) (by omega)
theorem cmp0 {a b : Int64} (h : a = b) : lg_cmp a b = 0 := (lg_cmp_eq a b).mpr h
theorem case_0 {N : Nat} (hN : 100010 ≤ N) {xs : Nat → Int32} {L i : Nat} (hL : L ≤ 2048) (hi : i + 3 < L) (kk : Int32 → LSt9 → Option Unit) {S : LSt9} (hI : Inv S) : ∃ S', fC0 N xs L kk (nI i) S = kk (nI i + 4) S' ∧ Inv S' := by
  have g1 : ∀ {α : Type} (x : Option α), gd (nI i + (1 : Int32)) L x = x := fun x => gdi (d := 1) hi hL (by decide)
  have g2 : ∀ {α : Type} (x : Option α), gd (nI i + (2 : Int32)) L x = x := fun x => gdi (d := 2) hi hL (by decide)
  have g3 : ∀ {α : Type} (x : Option α), gd (nI i + (3 : Int32)) L x = x := fun x => gdi (d := 3) hi hL (by decide)
  unfold fC0
  simp only [g1, g2, g3]
  obtain ⟨a, S1, S2, h1, h2, h3⟩ := s_race hN hI (xs (nI i + (1 : Int32)).toNatClampNeg) (xs (nI i + (2 : Int32)).toNatClampNeg)
  refine ⟨S2, ?_, h3⟩
  rw [h1, ob]
  show Option.bind (g_X6_race N S1 (xs (nI i + (1 : Int32)).toNatClampNeg) (xs (nI i + (2 : Int32)).toNatClampNeg)) _ = _
  rw [h2, ob]
  exact if_pos rfl
theorem case_1 {N : Nat} (hN : 100010 ≤ N) {xs : Nat → Int32} {L i : Nat} (hL : L ≤ 2048) (hi : i + 3 < L) (kk : Int32 → LSt9 → Option Unit) {S : LSt9} (hI : Inv S) : ∃ S', fC1 N xs L kk (nI i) S = kk (nI i + 4) S' ∧ Inv S' := by
  have g1 : ∀ {α : Type} (x : Option α), gd (nI i + (1 : Int32)) L x = x := fun x => gdi (d := 1) hi hL (by decide)
  have g2 : ∀ {α : Type} (x : Option α), gd (nI i + (2 : Int32)) L x = x := fun x => gdi (d := 2) hi hL (by decide)
  have g3 : ∀ {α : Type} (x : Option α), gd (nI i + (3 : Int32)) L x = x := fun x => gdi (d := 3) hi hL (by decide)
  unfold fC1
  have _u := @g1
  obtain ⟨a, S1, S2, h1, h2, h3⟩ := s_box hN hI 
  refine ⟨S2, ?_, h3⟩
  rw [h1, ob]
  show Option.bind (g_X6_box N S1 ) _ = _
  rw [h2, ob]
  exact if_pos rfl
theorem case_2 {N : Nat} (hN : 100010 ≤ N) {xs : Nat → Int32} {L i : Nat} (hL : L ≤ 2048) (hi : i + 3 < L) (kk : Int32 → LSt9 → Option Unit) {S : LSt9} (hI : Inv S) : ∃ S', fC2 N xs L kk (nI i) S = kk (nI i + 4) S' ∧ Inv S' := by
  have g1 : ∀ {α : Type} (x : Option α), gd (nI i + (1 : Int32)) L x = x := fun x => gdi (d := 1) hi hL (by decide)
  have g2 : ∀ {α : Type} (x : Option α), gd (nI i + (2 : Int32)) L x = x := fun x => gdi (d := 2) hi hL (by decide)
  have g3 : ∀ {α : Type} (x : Option α), gd (nI i + (3 : Int32)) L x = x := fun x => gdi (d := 3) hi hL (by decide)
  unfold fC2
  simp only [g1, g2, g3]
  obtain ⟨k, b, S1, S2, h1, h2, h3, h4, h5⟩ := s_paper hN hI (xs (nI i + (1 : Int32)).toNatClampNeg) (xs (nI i + (2 : Int32)).toNatClampNeg)
  refine ⟨S2, ?_, h5⟩
  rw [h1, ob]
  show Option.bind (g_X6_paper N S1 (xs (nI i + (1 : Int32)).toNatClampNeg) (xs (nI i + (2 : Int32)).toNatClampNeg)) _ = _
  rw [h2, ob]
  unfold f_X6_thrown
  rw [ob]
  show (if S2.1 32 = k then (if k = 0 then (if lg_cmp (S2.2.2.2.2 (0 : Int32).toNatClampNeg) b.toInt64 = 0 then _ else _) else _) else _) = _
  rw [if_pos h3]
  by_cases hk : k = 0
  · rw [if_pos hk, if_pos (cmp0 (h4 hk))]
  · rw [if_neg hk]
theorem case_3 {N : Nat} (hN : 100010 ≤ N) {xs : Nat → Int32} {L i : Nat} (hL : L ≤ 2048) (hi : i + 3 < L) (kk : Int32 → LSt9 → Option Unit) {S : LSt9} (hI : Inv S) : ∃ S', fC3 N xs L kk (nI i) S = kk (nI i + 4) S' ∧ Inv S' := by
  have g1 : ∀ {α : Type} (x : Option α), gd (nI i + (1 : Int32)) L x = x := fun x => gdi (d := 1) hi hL (by decide)
  have g2 : ∀ {α : Type} (x : Option α), gd (nI i + (2 : Int32)) L x = x := fun x => gdi (d := 2) hi hL (by decide)
  have g3 : ∀ {α : Type} (x : Option α), gd (nI i + (3 : Int32)) L x = x := fun x => gdi (d := 3) hi hL (by decide)
  unfold fC3
  simp only [g1, g2, g3]
  by_cases hu : xs (nI i + (2 : Int32)).toNatClampNeg = 0
  · rw [if_pos hu]
    obtain ⟨k, b, S1, S2, h1, h2, h3, h4, h6, h5⟩ := s_lose hN hI (xs (nI i + (1 : Int32)).toNatClampNeg) (0 : Int32) (Or.inl rfl)
    refine ⟨S2, ?_, h5⟩
    rw [h1, ob, if_pos hu]
    show Option.bind (g_X6_lose N S1 (xs (nI i + (1 : Int32)).toNatClampNeg) (0 : Int32)) _ = _
    rw [h2, ob]
    unfold f_X6_thrown
    rw [ob]
    show (if S2.1 32 = k then (if k = 0 then (if b = 0 then (if lg_cmp (S2.2.2.2.2 (0 : Int32).toNatClampNeg) (0 : Int64) = 0 then _ else _) else (if lg_cmp (S2.2.2.2.2 (0 : Int32).toNatClampNeg) (1 : Int64) = 0 then _ else _)) else _) else _) = _
    rw [if_pos h3]
    by_cases hk : k = 0
    · rw [if_pos hk]
      have h7 := h4 hk
      rcases h6 with rfl | rfl
      · rw [if_pos rfl, if_pos (cmp0 (h7.trans (by decide)))]
      · rw [if_neg (by decide), if_pos (cmp0 (h7.trans (by decide)))]
    · rw [if_neg hk]
  · rw [if_neg hu]
    obtain ⟨k, b, S1, S2, h1, h2, h3, h4, h6, h5⟩ := s_lose hN hI (xs (nI i + (1 : Int32)).toNatClampNeg) (1 : Int32) (Or.inr rfl)
    refine ⟨S2, ?_, h5⟩
    rw [h1, ob, if_neg hu]
    show Option.bind (g_X6_lose N S1 (xs (nI i + (1 : Int32)).toNatClampNeg) (1 : Int32)) _ = _
    rw [h2, ob]
    unfold f_X6_thrown
    rw [ob]
    show (if S2.1 32 = k then (if k = 0 then (if b = 0 then (if lg_cmp (S2.2.2.2.2 (0 : Int32).toNatClampNeg) (0 : Int64) = 0 then _ else _) else (if lg_cmp (S2.2.2.2.2 (0 : Int32).toNatClampNeg) (1 : Int64) = 0 then _ else _)) else _) else _) = _
    rw [if_pos h3]
    by_cases hk : k = 0
    · rw [if_pos hk]
      have h7 := h4 hk
      rcases h6 with rfl | rfl
      · rw [if_pos rfl, if_pos (cmp0 (h7.trans (by decide)))]
      · rw [if_neg (by decide), if_pos (cmp0 (h7.trans (by decide)))]
    · rw [if_neg hk]
theorem case_4 {N : Nat} (hN : 100010 ≤ N) {xs : Nat → Int32} {L i : Nat} (hL : L ≤ 2048) (hi : i + 3 < L) (kk : Int32 → LSt9 → Option Unit) {S : LSt9} (hI : Inv S) : ∃ S', fC4 N xs L kk (nI i) S = kk (nI i + 4) S' ∧ Inv S' := by
  have g1 : ∀ {α : Type} (x : Option α), gd (nI i + (1 : Int32)) L x = x := fun x => gdi (d := 1) hi hL (by decide)
  have g2 : ∀ {α : Type} (x : Option α), gd (nI i + (2 : Int32)) L x = x := fun x => gdi (d := 2) hi hL (by decide)
  have g3 : ∀ {α : Type} (x : Option α), gd (nI i + (3 : Int32)) L x = x := fun x => gdi (d := 3) hi hL (by decide)
  unfold fC4
  simp only [g1, g2, g3]
  obtain ⟨a, S1, S2, h1, h2, h3⟩ := s_seal hN hI ((((xs (nI i + (1 : Int32)).toNatClampNeg).toInt64) <<< (((32 : Int32)).toInt64 &&& 63)) ||| (((xs (nI i + (2 : Int32)).toNatClampNeg).toInt64) &&& (4294967295 : Int64)))
  refine ⟨S2, ?_, h3⟩
  rw [h1, ob]
  show Option.bind (g_X6_seal N S1 _) _ = _
  rw [h2, ob]
  exact if_pos rfl
theorem case_5 {N : Nat} (hN : 100010 ≤ N) {xs : Nat → Int32} {L i : Nat} (hL : L ≤ 2048) (hi : i + 3 < L) (kk : Int32 → LSt9 → Option Unit) {S : LSt9} (hI : Inv S) : ∃ S', fC5 N xs L kk (nI i) S = kk (nI i + 4) S' ∧ Inv S' := by
  have g1 : ∀ {α : Type} (x : Option α), gd (nI i + (1 : Int32)) L x = x := fun x => gdi (d := 1) hi hL (by decide)
  have g2 : ∀ {α : Type} (x : Option α), gd (nI i + (2 : Int32)) L x = x := fun x => gdi (d := 2) hi hL (by decide)
  have g3 : ∀ {α : Type} (x : Option α), gd (nI i + (3 : Int32)) L x = x := fun x => gdi (d := 3) hi hL (by decide)
  unfold fC5
  simp only [g1, g2, g3]
  obtain ⟨k, b, S1, S2, h1, h2, h3, h4, h5⟩ := s_votes hN hI (xs (nI i + (1 : Int32)).toNatClampNeg) (xs (nI i + (2 : Int32)).toNatClampNeg) (xs (nI i + (3 : Int32)).toNatClampNeg)
  refine ⟨S2, ?_, h5⟩
  rw [h1, ob]
  show Option.bind (g_X6_votes N S1 (xs (nI i + (1 : Int32)).toNatClampNeg) (xs (nI i + (2 : Int32)).toNatClampNeg) (xs (nI i + (3 : Int32)).toNatClampNeg)) _ = _
  rw [h2, ob]
  unfold f_X6_thrown
  rw [ob]
  show (if S2.1 32 = k then (if k = 0 then (if lg_cmp (S2.2.2.2.2 (0 : Int32).toNatClampNeg) b.toInt64 = 0 then _ else _) else _) else _) = _
  rw [if_pos h3]
  by_cases hk : k = 0
  · rw [if_pos hk, if_pos (cmp0 (h4 hk))]
  · rw [if_neg hk]
theorem case_6 {N : Nat} (hN : 100010 ≤ N) {xs : Nat → Int32} {L i : Nat} (hL : L ≤ 2048) (hi : i + 3 < L) (kk : Int32 → LSt9 → Option Unit) {S : LSt9} (hI : Inv S) : ∃ S', fC6 N xs L kk (nI i) S = kk (nI i + 4) S' ∧ Inv S' := by
  have g1 : ∀ {α : Type} (x : Option α), gd (nI i + (1 : Int32)) L x = x := fun x => gdi (d := 1) hi hL (by decide)
  have g2 : ∀ {α : Type} (x : Option α), gd (nI i + (2 : Int32)) L x = x := fun x => gdi (d := 2) hi hL (by decide)
  have g3 : ∀ {α : Type} (x : Option α), gd (nI i + (3 : Int32)) L x = x := fun x => gdi (d := 3) hi hL (by decide)
  unfold fC6
  simp only [g1, g2, g3]
  obtain ⟨k, b, S1, S2, h1, h2, h3, h4, h6, h5⟩ := s_wins hN hI (xs (nI i + (1 : Int32)).toNatClampNeg) (xs (nI i + (2 : Int32)).toNatClampNeg) (xs (nI i + (3 : Int32)).toNatClampNeg)
  refine ⟨S2, ?_, h5⟩
  rw [h1, ob]
  show Option.bind (g_X6_wins N S1 (xs (nI i + (1 : Int32)).toNatClampNeg) (xs (nI i + (2 : Int32)).toNatClampNeg) (xs (nI i + (3 : Int32)).toNatClampNeg)) _ = _
  rw [h2, ob]
  unfold f_X6_thrown
  rw [ob]
  show (if S2.1 32 = k then (if k = 0 then (if b = 0 then (if lg_cmp (S2.2.2.2.2 (0 : Int32).toNatClampNeg) (0 : Int64) = 0 then _ else _) else (if lg_cmp (S2.2.2.2.2 (0 : Int32).toNatClampNeg) (1 : Int64) = 0 then _ else _)) else _) else _) = _
  rw [if_pos h3]
  by_cases hk : k = 0
  · rw [if_pos hk]
    have h7 := h4 hk
    rcases h6 with rfl | rfl
    · rw [if_pos rfl, if_pos (cmp0 (h7.trans (by decide)))]
    · rw [if_neg (by decide), if_pos (cmp0 (h7.trans (by decide)))]
  · rw [if_neg hk]
theorem case_7 {N : Nat} (hN : 100010 ≤ N) {xs : Nat → Int32} {L i : Nat} (hL : L ≤ 2048) (hi : i + 3 < L) (kk : Int32 → LSt9 → Option Unit) {S : LSt9} (hI : Inv S) : ∃ S', fC7 N xs L kk (nI i) S = kk (nI i + 4) S' ∧ Inv S' := by
  have g1 : ∀ {α : Type} (x : Option α), gd (nI i + (1 : Int32)) L x = x := fun x => gdi (d := 1) hi hL (by decide)
  have g2 : ∀ {α : Type} (x : Option α), gd (nI i + (2 : Int32)) L x = x := fun x => gdi (d := 2) hi hL (by decide)
  have g3 : ∀ {α : Type} (x : Option α), gd (nI i + (3 : Int32)) L x = x := fun x => gdi (d := 3) hi hL (by decide)
  unfold fC7
  simp only [g1, g2, g3]
  obtain ⟨k, b, S1, S2, h1, h2, h3, h4, h5⟩ := s_about hN hI (xs (nI i + (1 : Int32)).toNatClampNeg) (xs (nI i + (2 : Int32)).toNatClampNeg)
  refine ⟨S2, ?_, h5⟩
  rw [h1, ob]
  show Option.bind (g_X6_about N S1 (xs (nI i + (1 : Int32)).toNatClampNeg) (xs (nI i + (2 : Int32)).toNatClampNeg)) _ = _
  rw [h2, ob]
  unfold f_X6_thrown
  rw [ob]
  show (if S2.1 32 = k then (if k = 0 then (if lg_cmp (S2.2.2.2.2 (0 : Int32).toNatClampNeg) b.toInt64 = 0 then _ else _) else _) else _) = _
  rw [if_pos h3]
  by_cases hk : k = 0
  · rw [if_pos hk, if_pos (cmp0 (h4 hk))]
  · rw [if_neg hk]
theorem case_8 {N : Nat} (hN : 100010 ≤ N) {xs : Nat → Int32} {L i : Nat} (hL : L ≤ 2048) (hi : i + 3 < L) (kk : Int32 → LSt9 → Option Unit) {S : LSt9} (hI : Inv S) : ∃ S', fC8 N xs L kk (nI i) S = kk (nI i + 4) S' ∧ Inv S' := by
  have g1 : ∀ {α : Type} (x : Option α), gd (nI i + (1 : Int32)) L x = x := fun x => gdi (d := 1) hi hL (by decide)
  have g2 : ∀ {α : Type} (x : Option α), gd (nI i + (2 : Int32)) L x = x := fun x => gdi (d := 2) hi hL (by decide)
  have g3 : ∀ {α : Type} (x : Option α), gd (nI i + (3 : Int32)) L x = x := fun x => gdi (d := 3) hi hL (by decide)
  unfold fC8
  simp only [g1, g2, g3]
  obtain ⟨k, b, S1, S2, h1, h2, h3, h4, h5⟩ := s_draw hN hI (xs (nI i + (1 : Int32)).toNatClampNeg)
  refine ⟨S2, ?_, h5⟩
  rw [h1, ob]
  show Option.bind (g_X6_draw N S1 (xs (nI i + (1 : Int32)).toNatClampNeg)) _ = _
  rw [h2, ob]
  unfold f_X6_thrown
  rw [ob]
  show (if S2.1 32 = k then (if k = 0 then (if lg_cmp (S2.2.2.2.2 (0 : Int32).toNatClampNeg) b.toInt64 = 0 then _ else _) else _) else _) = _
  rw [if_pos h3]
  by_cases hk : k = 0
  · rw [if_pos hk, if_pos (cmp0 (h4 hk))]
  · rw [if_neg hk]
theorem case_9 {N : Nat} (hN : 100010 ≤ N) {xs : Nat → Int32} {L i : Nat} (hL : L ≤ 2048) (hi : i + 3 < L) (kk : Int32 → LSt9 → Option Unit) {S : LSt9} (hI : Inv S) : ∃ S', fC9 N xs L kk (nI i) S = kk (nI i + 4) S' ∧ Inv S' := by
  have g1 : ∀ {α : Type} (x : Option α), gd (nI i + (1 : Int32)) L x = x := fun x => gdi (d := 1) hi hL (by decide)
  have g2 : ∀ {α : Type} (x : Option α), gd (nI i + (2 : Int32)) L x = x := fun x => gdi (d := 2) hi hL (by decide)
  have g3 : ∀ {α : Type} (x : Option α), gd (nI i + (3 : Int32)) L x = x := fun x => gdi (d := 3) hi hL (by decide)
  unfold fC9
  simp only [g1, g2, g3]
  obtain ⟨k, b, S1, S2, h1, h2, h3, h4, h5⟩ := s_drawn hN hI (xs (nI i + (1 : Int32)).toNatClampNeg)
  refine ⟨S2, ?_, h5⟩
  rw [h1, ob]
  show Option.bind (g_X6_drawn N S1 (xs (nI i + (1 : Int32)).toNatClampNeg)) _ = _
  rw [h2, ob]
  unfold f_X6_thrown
  rw [ob]
  show (if S2.1 32 = k then (if k = 0 then (if lg_cmp (S2.2.2.2.2 (0 : Int32).toNatClampNeg) b.toInt64 = 0 then _ else _) else _) else _) = _
  rw [if_pos h3]
  by_cases hk : k = 0
  · rw [if_pos hk, if_pos (cmp0 (h4 hk))]
  · rw [if_neg hk]
theorem case_10 {N : Nat} (hN : 100010 ≤ N) {xs : Nat → Int32} {L i : Nat} (hL : L ≤ 2048) (hi : i + 3 < L) (kk : Int32 → LSt9 → Option Unit) {S : LSt9} (hI : Inv S) : ∃ S', fC10 N xs L kk (nI i) S = kk (nI i + 4) S' ∧ Inv S' := by
  have g1 : ∀ {α : Type} (x : Option α), gd (nI i + (1 : Int32)) L x = x := fun x => gdi (d := 1) hi hL (by decide)
  have g2 : ∀ {α : Type} (x : Option α), gd (nI i + (2 : Int32)) L x = x := fun x => gdi (d := 2) hi hL (by decide)
  have g3 : ∀ {α : Type} (x : Option α), gd (nI i + (3 : Int32)) L x = x := fun x => gdi (d := 3) hi hL (by decide)
  unfold fC10
  have _u := @g1
  obtain ⟨a, S2, h1, h2, h3⟩ := s_waits hN hI
  refine ⟨S2, ?_, h3⟩
  rw [h1, ob, h2, ob]
  exact if_pos rfl
theorem case_11 {N : Nat} (hN : 100010 ≤ N) {xs : Nat → Int32} {L i : Nat} (hL : L ≤ 2048) (hi : i + 3 < L) (kk : Int32 → LSt9 → Option Unit) {S : LSt9} (hI : Inv S) : ∃ S', fC11 N xs L kk (nI i) S = kk (nI i + 4) S' ∧ Inv S' := by
  have g1 : ∀ {α : Type} (x : Option α), gd (nI i + (1 : Int32)) L x = x := fun x => gdi (d := 1) hi hL (by decide)
  have g2 : ∀ {α : Type} (x : Option α), gd (nI i + (2 : Int32)) L x = x := fun x => gdi (d := 2) hi hL (by decide)
  have g3 : ∀ {α : Type} (x : Option α), gd (nI i + (3 : Int32)) L x = x := fun x => gdi (d := 3) hi hL (by decide)
  unfold fC11
  simp only [g1, g2, g3]
  obtain ⟨k, b, S1, S2, h1, h2, h3, h4, h5⟩ := s_pulled hN hI (xs (nI i + (1 : Int32)).toNatClampNeg)
  refine ⟨S2, ?_, h5⟩
  rw [h1, ob]
  show Option.bind (g_X6_pulled N S1 (xs (nI i + (1 : Int32)).toNatClampNeg)) _ = _
  rw [h2, ob]
  unfold f_X6_thrown
  rw [ob]
  show (if S2.1 32 = k then (if k = 0 then (if lg_cmp (S2.2.2.2.2 (0 : Int32).toNatClampNeg) b.toInt64 = 0 then _ else _) else _) else _) = _
  rw [if_pos h3]
  by_cases hk : k = 0
  · rw [if_pos hk, if_pos (cmp0 (h4 hk))]
  · rw [if_neg hk]
theorem case_12 {N : Nat} (hN : 100010 ≤ N) {xs : Nat → Int32} {L i : Nat} (hL : L ≤ 2048) (hi : i + 3 < L) (kk : Int32 → LSt9 → Option Unit) {S : LSt9} (hI : Inv S) : ∃ S', fC12 N xs L kk (nI i) S = kk (nI i + 4) S' ∧ Inv S' := by
  have g1 : ∀ {α : Type} (x : Option α), gd (nI i + (1 : Int32)) L x = x := fun x => gdi (d := 1) hi hL (by decide)
  have g2 : ∀ {α : Type} (x : Option α), gd (nI i + (2 : Int32)) L x = x := fun x => gdi (d := 2) hi hL (by decide)
  have g3 : ∀ {α : Type} (x : Option α), gd (nI i + (3 : Int32)) L x = x := fun x => gdi (d := 3) hi hL (by decide)
  unfold fC12
  simp only [g1, g2, g3]
  obtain ⟨k, b, S1, S2, h1, h2, h3, h4, h6, h5⟩ := s_read hN hI (xs (nI i + (1 : Int32)).toNatClampNeg) (xs (nI i + (2 : Int32)).toNatClampNeg) (xs (nI i + (3 : Int32)).toNatClampNeg)
  refine ⟨S2, ?_, h5⟩
  rw [h1, ob]
  show Option.bind (g_X6_read N S1 (xs (nI i + (1 : Int32)).toNatClampNeg) (xs (nI i + (2 : Int32)).toNatClampNeg) (xs (nI i + (3 : Int32)).toNatClampNeg)) _ = _
  rw [h2, ob]
  unfold f_X6_thrown
  rw [ob]
  show (if S2.1 32 = k then (if k = 0 then (if b = 0 then (if lg_cmp (S2.2.2.2.2 (0 : Int32).toNatClampNeg) (0 : Int64) = 0 then _ else _) else (if lg_cmp (S2.2.2.2.2 (0 : Int32).toNatClampNeg) (1 : Int64) = 0 then _ else _)) else _) else _) = _
  rw [if_pos h3]
  by_cases hk : k = 0
  · rw [if_pos hk]
    have h7 := h4 hk
    rcases h6 with rfl | rfl
    · rw [if_pos rfl, if_pos (cmp0 (h7.trans (by decide)))]
    · rw [if_neg (by decide), if_pos (cmp0 (h7.trans (by decide)))]
  · rw [if_neg hk]
theorem case_13 {N : Nat} (hN : 100010 ≤ N) {xs : Nat → Int32} {L i : Nat} (hL : L ≤ 2048) (hi : i + 3 < L) (kk : Int32 → LSt9 → Option Unit) {S : LSt9} (hI : Inv S) : ∃ S', fC13 N xs L kk (nI i) S = kk (nI i + 4) S' ∧ Inv S' := by
  have g1 : ∀ {α : Type} (x : Option α), gd (nI i + (1 : Int32)) L x = x := fun x => gdi (d := 1) hi hL (by decide)
  have g2 : ∀ {α : Type} (x : Option α), gd (nI i + (2 : Int32)) L x = x := fun x => gdi (d := 2) hi hL (by decide)
  have g3 : ∀ {α : Type} (x : Option α), gd (nI i + (3 : Int32)) L x = x := fun x => gdi (d := 3) hi hL (by decide)
  unfold fC13
  simp only [g1, g2, g3]
  obtain ⟨k, b, S1, S2, h1, h2, h3, h4, h5⟩ := s_reading hN hI (xs (nI i + (1 : Int32)).toNatClampNeg) (xs (nI i + (2 : Int32)).toNatClampNeg)
  refine ⟨S2, ?_, h5⟩
  rw [h1, ob]
  show Option.bind (g_X6_reading N S1 (xs (nI i + (1 : Int32)).toNatClampNeg) (xs (nI i + (2 : Int32)).toNatClampNeg)) _ = _
  rw [h2, ob]
  unfold f_X6_thrown
  rw [ob]
  show (if S2.1 32 = k then (if k = 0 then (if lg_cmp (S2.2.2.2.2 (0 : Int32).toNatClampNeg) b.toInt64 = 0 then _ else _) else _) else _) = _
  rw [if_pos h3]
  by_cases hk : k = 0
  · rw [if_pos hk, if_pos (cmp0 (h4 hk))]
  · rw [if_neg hk]
theorem case_14 {N : Nat} (hN : 100010 ≤ N) {xs : Nat → Int32} {L i : Nat} (hL : L ≤ 2048) (hi : i + 3 < L) (kk : Int32 → LSt9 → Option Unit) {S : LSt9} (hI : Inv S) : ∃ S', fC14 N xs L kk (nI i) S = kk (nI i + 4) S' ∧ Inv S' := by
  have g1 : ∀ {α : Type} (x : Option α), gd (nI i + (1 : Int32)) L x = x := fun x => gdi (d := 1) hi hL (by decide)
  have g2 : ∀ {α : Type} (x : Option α), gd (nI i + (2 : Int32)) L x = x := fun x => gdi (d := 2) hi hL (by decide)
  have g3 : ∀ {α : Type} (x : Option α), gd (nI i + (3 : Int32)) L x = x := fun x => gdi (d := 3) hi hL (by decide)
  unfold fC14
  simp only [g1, g2, g3]
  obtain ⟨k, b, S1, S2, h1, h2, h3, h4, h5⟩ := s_risk hN hI (xs (nI i + (1 : Int32)).toNatClampNeg)
  refine ⟨S2, ?_, h5⟩
  rw [h1, ob]
  show Option.bind (g_X6_risk N S1 (xs (nI i + (1 : Int32)).toNatClampNeg)) _ = _
  rw [h2, ob]
  unfold f_X6_thrown
  rw [ob]
  show (if S2.1 32 = k then (if k = 0 then (if lg_cmp (S2.2.2.2.2 (0 : Int32).toNatClampNeg) b.toInt64 = 0 then _ else _) else _) else _) = _
  rw [if_pos h3]
  by_cases hk : k = 0
  · rw [if_pos hk, if_pos (cmp0 (h4 hk))]
  · rw [if_neg hk]
theorem case_15 {N : Nat} (hN : 100010 ≤ N) {xs : Nat → Int32} {L i : Nat} (hL : L ≤ 2048) (hi : i + 3 < L) (kk : Int32 → LSt9 → Option Unit) {S : LSt9} (hI : Inv S) : ∃ S', fC15 N xs L kk (nI i) S = kk (nI i + 4) S' ∧ Inv S' := by
  have g1 : ∀ {α : Type} (x : Option α), gd (nI i + (1 : Int32)) L x = x := fun x => gdi (d := 1) hi hL (by decide)
  have g2 : ∀ {α : Type} (x : Option α), gd (nI i + (2 : Int32)) L x = x := fun x => gdi (d := 2) hi hL (by decide)
  have g3 : ∀ {α : Type} (x : Option α), gd (nI i + (3 : Int32)) L x = x := fun x => gdi (d := 3) hi hL (by decide)
  unfold fC15
  simp only [g1, g2, g3]
  obtain ⟨k, b, S1, S2, h1, h2, h3, h4, h5⟩ := s_taken hN hI (xs (nI i + (1 : Int32)).toNatClampNeg)
  refine ⟨S2, ?_, h5⟩
  rw [h1, ob]
  show Option.bind (g_X6_taken N S1 (xs (nI i + (1 : Int32)).toNatClampNeg)) _ = _
  rw [h2, ob]
  unfold f_X6_thrown
  rw [ob]
  show (if S2.1 32 = k then (if k = 0 then (if lg_cmp (S2.2.2.2.2 (0 : Int32).toNatClampNeg) b.toInt64 = 0 then _ else _) else _) else _) = _
  rw [if_pos h3]
  by_cases hk : k = 0
  · rw [if_pos hk, if_pos (cmp0 (h4 hk))]
  · rw [if_neg hk]
theorem case_16 {N : Nat} (hN : 100010 ≤ N) {xs : Nat → Int32} {L i : Nat} (hL : L ≤ 2048) (hi : i + 3 < L) (kk : Int32 → LSt9 → Option Unit) {S : LSt9} (hI : Inv S) : ∃ S', fC16 N xs L kk (nI i) S = kk (nI i + 4) S' ∧ Inv S' := by
  have g1 : ∀ {α : Type} (x : Option α), gd (nI i + (1 : Int32)) L x = x := fun x => gdi (d := 1) hi hL (by decide)
  have g2 : ∀ {α : Type} (x : Option α), gd (nI i + (2 : Int32)) L x = x := fun x => gdi (d := 2) hi hL (by decide)
  have g3 : ∀ {α : Type} (x : Option α), gd (nI i + (3 : Int32)) L x = x := fun x => gdi (d := 3) hi hL (by decide)
  unfold fC16
  simp only [g1, g2, g3]
  obtain ⟨k, b, S1, S2, h1, h2, h3, h4, h5⟩ := s_taint hN hI (xs (nI i + (1 : Int32)).toNatClampNeg) (xs (nI i + (2 : Int32)).toNatClampNeg)
  refine ⟨S2, ?_, h5⟩
  rw [h1, ob]
  show Option.bind (g_X6_taint N S1 (xs (nI i + (1 : Int32)).toNatClampNeg) (xs (nI i + (2 : Int32)).toNatClampNeg)) _ = _
  rw [h2, ob]
  unfold f_X6_thrown
  rw [ob]
  show (if S2.1 32 = k then (if k = 0 then (if lg_cmp (S2.2.2.2.2 (0 : Int32).toNatClampNeg) b.toInt64 = 0 then _ else _) else _) else _) = _
  rw [if_pos h3]
  by_cases hk : k = 0
  · rw [if_pos hk, if_pos (cmp0 (h4 hk))]
  · rw [if_neg hk]
theorem case_17 {N : Nat} (hN : 100010 ≤ N) {xs : Nat → Int32} {L i : Nat} (hL : L ≤ 2048) (hi : i + 3 < L) (kk : Int32 → LSt9 → Option Unit) {S : LSt9} (hI : Inv S) : ∃ S', fC17 N xs L kk (nI i) S = kk (nI i + 4) S' ∧ Inv S' := by
  have g1 : ∀ {α : Type} (x : Option α), gd (nI i + (1 : Int32)) L x = x := fun x => gdi (d := 1) hi hL (by decide)
  have g2 : ∀ {α : Type} (x : Option α), gd (nI i + (2 : Int32)) L x = x := fun x => gdi (d := 2) hi hL (by decide)
  have g3 : ∀ {α : Type} (x : Option α), gd (nI i + (3 : Int32)) L x = x := fun x => gdi (d := 3) hi hL (by decide)
  unfold fC17
  simp only [g1, g2, g3]
  obtain ⟨k, b, S1, S2, h1, h2, h3, h4, h5⟩ := s_need hN hI (xs (nI i + (1 : Int32)).toNatClampNeg) (xs (nI i + (2 : Int32)).toNatClampNeg)
  refine ⟨S2, ?_, h5⟩
  rw [h1, ob]
  show Option.bind (g_X6_need N S1 (xs (nI i + (1 : Int32)).toNatClampNeg) (xs (nI i + (2 : Int32)).toNatClampNeg)) _ = _
  rw [h2, ob]
  unfold f_X6_thrown
  rw [ob]
  show (if S2.1 32 = k then (if k = 0 then (if lg_cmp (S2.2.2.2.2 (0 : Int32).toNatClampNeg) b.toInt64 = 0 then _ else _) else _) else _) = _
  rw [if_pos h3]
  by_cases hk : k = 0
  · rw [if_pos hk, if_pos (cmp0 (h4 hk))]
  · rw [if_neg hk]
theorem case_18 {N : Nat} (hN : 100010 ≤ N) {xs : Nat → Int32} {L i : Nat} (hL : L ≤ 2048) (hi : i + 3 < L) (kk : Int32 → LSt9 → Option Unit) {S : LSt9} (hI : Inv S) : ∃ S', fC18 N xs L kk (nI i) S = kk (nI i + 4) S' ∧ Inv S' := by
  have g1 : ∀ {α : Type} (x : Option α), gd (nI i + (1 : Int32)) L x = x := fun x => gdi (d := 1) hi hL (by decide)
  have g2 : ∀ {α : Type} (x : Option α), gd (nI i + (2 : Int32)) L x = x := fun x => gdi (d := 2) hi hL (by decide)
  have g3 : ∀ {α : Type} (x : Option α), gd (nI i + (3 : Int32)) L x = x := fun x => gdi (d := 3) hi hL (by decide)
  unfold fC18
  simp only [g1, g2, g3]
  obtain ⟨k, b, S1, S2, h1, h2, h3, h4, h5⟩ := s_count hN hI (xs (nI i + (1 : Int32)).toNatClampNeg)
  refine ⟨S2, ?_, h5⟩
  rw [h1, ob]
  show Option.bind (g_X6_count N S1 (xs (nI i + (1 : Int32)).toNatClampNeg)) _ = _
  rw [h2, ob]
  unfold f_X6_thrown
  rw [ob]
  show (if S2.1 32 = k then (if k = 0 then (if lg_cmp (S2.2.2.2.2 (0 : Int32).toNatClampNeg) b.toInt64 = 0 then _ else _) else _) else _) = _
  rw [if_pos h3]
  by_cases hk : k = 0
  · rw [if_pos hk, if_pos (cmp0 (h4 hk))]
  · rw [if_neg hk]
end PURE13
