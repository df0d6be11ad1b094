/-! PURE, 2: loops; what hands read. -/
section PURE2
theorem lp {β : Type} {L : Nat → Nat → Option β} {r : Option β} {hi : Nat} (hend : ∀ n, L (n + 1) hi = r) (hstep : ∀ n i, i < hi → L (n + 1) i = L n (i + 1)) : ∀ n i, i ≤ hi → hi - i < n → L n i = r := by
  intro n
  induction n with
  | zero => intro i _ h; omega
  | succ n ih =>
    intro i h1 h2
    by_cases h : i = hi
    · subst h; exact hend n
    · rw [hstep n i (by omega)]; exact ih (i + 1) (by omega) (by omega)
theorem lpI {β σ : Type} {L : Nat → Nat → σ → Option β} {I : Nat → σ → Prop} {Q : β → Prop} {hi : Nat} (hend : ∀ n s, I hi s → ∃ r, L (n + 1) hi s = some r ∧ Q r) (hstep : ∀ n i s, i < hi → I i s → ∃ s', I (i + 1) s' ∧ L (n + 1) i s = L n (i + 1) s') : ∀ n i s, i ≤ hi → hi - i < n → I i s → ∃ r, L n i s = some r ∧ Q r := by
  intro n
  induction n with
  | zero => intro i s _ h; omega
  | succ n ih =>
    intro i s h1 h2 hI
    by_cases h : i = hi
    · subst h; exact hend n s hI
    · obtain ⟨s', hI', e⟩ := hstep n i s (by omega) hI
      rw [e]; exact ih (i + 1) s' (by omega) (by omega) hI'
theorem ob {α β : Type} (a : α) (f : α → Option β) : Option.bind (some a) f = f a := rfl
def bi (b : Bool) : Int32 := if b then 1 else 0
theorem bi_0 (b : Bool) : bi b = 0 ↔ b = false := by cases b <;> decide
theorem bi_gb {α : Type} (b : Bool) (x : Option α) : gb (bi b) x = x := by
  unfold gb
  exact if_pos (by cases b <;> decide)
theorem bi_nar (b : Bool) : vp_nar .boolean (bi b) = bi b := by cases b <;> decide
theorem bi_if {α : Type} (b : Bool) (x y : α) : (if bi b = 0 then x else y) = if b then y else x := by
  cases b
  · exact if_pos (by decide)
  · exact if_neg (by decide)
theorem bi_some (b : Bool) : (if b = true then some (1 : Int32) else some (0 : Int32)) = some (bi b) := by cases b <;> rfl
theorem ct_y {p : Nat → Bool} {i : Nat} (h : p i = true) : fb_ct p (i + 1) = fb_ct p i + 1 := by rw [fb_ct_succ, if_pos h]
theorem ct_n {p : Nat → Bool} {i : Nat} (h : p i = false) : fb_ct p (i + 1) = fb_ct p i := by rw [fb_ct_succ, if_neg (by rw [h]; decide)]; rfl
def cd (a b c : Bool) : Nat := (if a then 1 else 0) + (if b then 2 else 0) + (if c then 4 else 0)
def rb (hr : Nat → Int32) (p h : Nat) : Bool := decide (¬ hr (3 * p + h) = 0)
def isr (hr : Nat → Int32) (p : Nat) : Bool := rb hr p 0 || rb hr p 1 || rb hr p 2
def hm (hd : Nat → Int32) (p h r : Nat) : Nat := mk (hd (3 * p + h)) r
def HO (ho hr : Nat → Int32) : Prop := ∀ p, p < 300 → ho p = nI (cd (rb hr p 0) (rb hr p 1) (rb hr p 2))
theorem e_isReadBy {ho hr : Nat → Int32} (H : HO ho hr) {p h : Nat} (hp : p < 300) (hh : h < 3) : f_X1_isReadBy (nI p) (nI h) ho = some (bi (rb hr p h)) := by
  unfold f_X1_isReadBy
  rw [gd_nI hp (by decide), cl_nI (by omega), H p hp]
  rcases (show h = 0 ∨ h = 1 ∨ h = 2 by omega) with rfl | rfl | rfl <;>
    (generalize rb hr p 0 = a; generalize rb hr p 1 = b; generalize rb hr p 2 = c; revert a b c; decide +kernel)
theorem e_isReadByHand {ho hr : Nat → Int32} (H : HO ho hr) {p : Nat} (hp : p < 300) : f_X1_isReadByHand (nI p) ho = some (bi (isr hr p)) := by
  unfold f_X1_isReadByHand
  rw [gd_nI hp (by decide), cl_nI (by omega), H p hp]
  unfold isr
  generalize rb hr p 0 = a; generalize rb hr p 1 = b; generalize rb hr p 2 = c; revert a b c; decide +kernel
/-- read or lost -/
def kn (lo hr : Nat → Int32) (p : Nat) : Bool := decide (¬ lo p = 0) || isr hr p
theorem kn_0 {lo hr : Nat → Int32} {p : Nat} (h : lo p = 0) : kn lo hr p = isr hr p := by simp [kn, h]
theorem kn_1 {lo hr : Nat → Int32} {p : Nat} (h : ¬ lo p = 0) : kn lo hr p = true := by simp [kn, h]
theorem e_isSettled {ho hr lo : Nat → Int32} (H : HO ho hr) {p : Nat} (hp : p < 300) : f_X1_isSettled (nI p) lo ho = some (bi (kn lo hr p)) := by
  unfold f_X1_isSettled
  rw [gd_nI hp (by decide), cl_nI (by omega), e_isReadByHand H hp]
  by_cases h : lo p = 0
  · rw [if_pos h, kn_0 h, ob, bi_if, bi_some]
  · rw [if_neg h, kn_1 h]; rfl
theorem ix3 (p h : Nat) : (3 : Int32) * nI p + nI h = nI (3 * p + h) := by rw [show (3 : Int32) * nI p = nI (3 * p) from pk_mul 3 p, nI_add]
theorem ix30 (p : Nat) : (3 : Int32) * nI p = nI (3 * p + 0) := pk_mul 3 p
theorem ixr (p h : Nat) : nI p * (3 : Int32) + nI h = nI (3 * p + h) := by rw [show nI p * (3 : Int32) = nI (p * 3) from pk_mul p 3, nI_add, Nat.mul_comm]
theorem e_isRead {hr : Nat → Int32} {p : Nat} (hp : p < 300) : f_X6_isRead (nI p) hr = some (bi (isr hr p)) := by
  unfold f_X6_isRead
  rw [show (3 : Int32) * nI p + (1 : Int32) = nI (3 * p + 1) from ix3 p 1, show (3 : Int32) * nI p + (2 : Int32) = nI (3 * p + 2) from ix3 p 2, ix30 p]
  rw [gd_nI (j := 3 * p + 0) (by omega) (by decide), gd_nI (j := 3 * p + 1) (by omega) (by decide), gd_nI (j := 3 * p + 2) (by omega) (by decide)]
  rw [cl_nI (j := 3 * p + 0) (by omega), cl_nI (j := 3 * p + 1) (by omega), cl_nI (j := 3 * p + 2) (by omega)]
  unfold isr rb
  by_cases h0 : hr (3 * p + 0) = 0
  · rw [if_pos h0]
    by_cases h1 : hr (3 * p + 1) = 0
    · rw [if_pos h1]
      by_cases h2 : hr (3 * p + 2) = 0
      · rw [if_pos h2]; simp only [h0, h1, h2]; rfl
      · rw [if_neg h2]; simp only [h0, h1, h2]; rfl
    · rw [if_neg h1]; simp only [h0, h1]; rfl
  · rw [if_neg h0]; simp only [h0]; rfl
theorem e_isKnown {hr lo : Nat → Int32} {p : Nat} (hp : p < 300) : f_X6_isKnown (nI p) lo hr = some (bi (kn lo hr p)) := by
  unfold f_X6_isKnown
  rw [gd_nI hp (by decide), cl_nI (by omega), e_isRead hp]
  by_cases h : lo p = 0
  · rw [if_pos h, kn_0 h, ob, bi_if, bi_some]
  · rw [if_neg h, kn_1 h]; rfl
/-- what hands 0, 1, 2 (read or not) with marks x, y, z say together -/
def rgm (a b c : Bool) (x y z : Nat) : Nat := if a then (if b then (if c then (if x = y ∨ x = z then x else if y = z then y else 0) else if x = y then x else 0) else if c then (if x = z then x else 0) else x) else if b then (if c then (if y = z then y else 0) else y) else if c then z else 0
def rg (hr hd : Nat → Int32) (p r : Nat) : Nat := rgm (rb hr p 0) (rb hr p 1) (rb hr p 2) (hm hd p 0 r) (hm hd p 1 r) (hm hd p 2 r)
theorem rgm_lt {a b c : Bool} {x y z : Nat} (hx : x < 8) (hy : y < 8) (hz : z < 8) : rgm a b c x y z < 8 := by
  unfold rgm
  repeat' split
  all_goals omega
theorem rg_lt (hr hd : Nat → Int32) (p r : Nat) : rg hr hd p r < 8 := rgm_lt (mk_lt _ _) (mk_lt _ _) (mk_lt _ _)
theorem e_handMark {ho hr hw : Nat → Int32} (H : HO ho hr) {p h r : Nat} (hp : p < 300) (hh : h < 3) (hr5 : r < 5) : f_X1_handMark (nI p) (nI h) (nI r) ho hw = some (if rb hr p h then nI (hm hw p h r) else -1) := by
  unfold f_X1_handMark
  rw [e_isReadBy H hp hh, ob, bi_if, ixr, gd_nI (by omega) (by decide), cl_nI (by omega), e_markOf _ hr5]
  cases rb hr p h <;> rfl
def hmF (o1 o2 o3 v : Int32) : Option Int32 := if o1 = (-1 : Int32) then (if o2 = (-1 : Int32) then (Option.bind (f_J6_bitCount_0f7a4 v) (fun o5 => if o5 ≤ (1 : Int32) then (some (imax o1 (imax o2 o3))) else (some (0 : Int32)))) else (if o2 = o3 then (some o2) else (Option.bind (f_J6_bitCount_0f7a4 v) (fun o7 => if o7 ≤ (1 : Int32) then (some (imax o1 (imax o2 o3))) else (some (0 : Int32)))))) else (if o1 = o2 then (some o1) else (if o1 = o3 then (some o1) else (if o2 = (-1 : Int32) then (Option.bind (f_J6_bitCount_0f7a4 v) (fun o9 => if o9 ≤ (1 : Int32) then (some (imax o1 (imax o2 o3))) else (some (0 : Int32)))) else (if o2 = o3 then (some o2) else (Option.bind (f_J6_bitCount_0f7a4 v) (fun o11 => if o11 ≤ (1 : Int32) then (some (imax o1 (imax o2 o3))) else (some (0 : Int32))))))))
set_option maxRecDepth 100000 in
set_option maxHeartbeats 4000000 in
theorem hmF_ok : ∀ a b c : Bool, ∀ x y z : Fin 8, hmF (if a then nI x.val else -1) (if b then nI y.val else -1) (if c then nI z.val else -1) (nI (cd a b c)) = some (if a || b || c then nI (rgm a b c x.val y.val z.val) else -1) := by decide +kernel
/-- the class's reading: -1 where no hand read -/
def hk (hr hd : Nat → Int32) (p r : Nat) : Int32 := if isr hr p then nI (rg hr hd p r) else -1
theorem e_handsMark {ho hr hw : Nat → Int32} (H : HO ho hr) {p r : Nat} (hp : p < 300) (hr5 : r < 5) : f_X1_handsMark (nI p) (nI r) ho hw = some (hk hr hw p r) := by
  have e0 : f_X1_handMark (nI p) (0 : Int32) (nI r) ho hw = _ := e_handMark (h := 0) H hp (by decide) hr5
  have e1 : f_X1_handMark (nI p) (1 : Int32) (nI r) ho hw = _ := e_handMark (h := 1) H hp (by decide) hr5
  have e2 : f_X1_handMark (nI p) (2 : Int32) (nI r) ho hw = _ := e_handMark (h := 2) H hp (by decide) hr5
  unfold f_X1_handsMark
  rw [e0, ob, e1, ob, e2, ob]
  simp only [gd_nI (j := p) (n := 300) hp (by decide), cl_nI (j := p) (by omega), H p hp]
  exact hmF_ok (rb hr p 0) (rb hr p 1) (rb hr p 2) ⟨hm hw p 0 r, mk_lt _ _⟩ ⟨hm hw p 1 r, mk_lt _ _⟩ ⟨hm hw p 2 r, mk_lt _ _⟩
theorem e_wordMark {wd : Nat → Int32} {p r : Nat} (hp : p < 300) (hr5 : r < 5) : f_X1_wordMark (nI p) (nI r) wd = some (nI (mk (wd p) r)) := by
  unfold f_X1_wordMark
  rw [gd_nI hp (by decide), cl_nI (by omega), e_markOf _ hr5]; rfl
/-- the model's loop over hands, for marks below 8 -/
def rmF (a b c : Bool) (x y z : Int32) : Option Int32 :=
  let t (n l g : Int32) : Option Int32 := if n = (1 : Int32) then some l else if g = (-1 : Int32) then some 0 else some g
  let s2 (n l g : Int32) : Option Int32 := if c then (let g1 := if a then (if x = z then z else g) else g; let g2 := if b then (if y = z then z else g1) else g1; t (n + 1) z g2) else t n l g
  let s1 (n l g : Int32) : Option Int32 := if b then (let g1 := if a then (if x = y then y else g) else g; s2 (n + 1) y g1) else s2 n l g
  if a then s1 ((0 : Int32) + 1) x (-1) else s1 0 0 (-1)
set_option maxRecDepth 100000 in
set_option maxHeartbeats 4000000 in
theorem rmF_ok : ∀ a b c : Bool, ∀ x y z : Fin 8, rmF a b c (nI x.val) (nI y.val) (nI z.val) = some (nI (rgm a b c x.val y.val z.val)) := by decide +kernel
set_option maxHeartbeats 4000000 in
theorem e_readingOf {N : Nat} (hN : 100010 ≤ N) {hr hd : Nat → Int32} {p r : Nat} (hp : p < 300) (hr5 : r < 5) : f_X6_readingOf N (nI p) (nI r) hr hd = some (nI (rg hr hd p r)) := by
  refine Eq.trans ?_ (rmF_ok (rb hr p 0) (rb hr p 1) (rb hr p 2) ⟨hm hd p 0 r, mk_lt _ _⟩ ⟨hm hd p 1 r, mk_lt _ _⟩ ⟨hm hd p 2 r, mk_lt _ _⟩)
  obtain ⟨M, rfl⟩ : ∃ M, N = M + 5 := ⟨N - 5, by omega⟩
  have i0 : (3 : Int32) * nI p + (0 : Int32) = nI (3 * p + 0) := ix3 p 0
  have i1 : (3 : Int32) * nI p + ((0 : Int32) + (1 : Int32)) = nI (3 * p + 1) := ix3 p 1
  have i2 : (3 : Int32) * nI p + ((0 : Int32) + (1 : Int32) + (1 : Int32)) = nI (3 * p + 2) := ix3 p 2
  have g0 : ∀ {α : Type} (x : Option α), gd (nI (3 * p + 0)) 900 x = x := fun x => gd_nI (by omega) (by decide)
  have g1 : ∀ {α : Type} (x : Option α), gd (nI (3 * p + 1)) 900 x = x := fun x => gd_nI (by omega) (by decide)
  have g2 : ∀ {α : Type} (x : Option α), gd (nI (3 * p + 2)) 900 x = x := fun x => gd_nI (by omega) (by decide)
  have c0 : (nI (3 * p + 0)).toNatClampNeg = 3 * p + 0 := cl_nI (by omega)
  have c1 : (nI (3 * p + 1)).toNatClampNeg = 3 * p + 1 := cl_nI (by omega)
  have c2 : (nI (3 * p + 2)).toNatClampNeg = 3 * p + 2 := cl_nI (by omega)
  have l0 : ¬ (3 : Int32) ≤ (0 : Int32) := by decide
  have l1 : ¬ (3 : Int32) ≤ (0 : Int32) + 1 := by decide
  have l2 : ¬ (3 : Int32) ≤ (0 : Int32) + 1 + 1 := by decide
  have l3 : (3 : Int32) ≤ (0 : Int32) + 1 + 1 + 1 := by decide
  have m00 : (0 : Int32) ≤ (0 : Int32) := by decide
  have m10 : ¬ (0 : Int32) + 1 ≤ (0 : Int32) := by decide
  have m11 : (0 : Int32) + 1 ≤ (0 : Int32) + 1 := by decide
  have m20 : ¬ (0 : Int32) + 1 + 1 ≤ (0 : Int32) := by decide
  have m21 : ¬ (0 : Int32) + 1 + 1 ≤ (0 : Int32) + 1 := by decide
  have m22 : (0 : Int32) + 1 + 1 ≤ (0 : Int32) + 1 + 1 := by decide
  unfold f_X6_readingOf rmF rb hm
  by_cases h0 : hr (3 * p + 0) = 0 <;> by_cases h1 : hr (3 * p + 1) = 0 <;> by_cases h2 : hr (3 * p + 2) = 0 <;>
    simp only [f_X6_readingOf_L11, f_X6_readingOf_L57, i0, i1, i2, g0, g1, g2, c0, c1, c2, h0, h1, h2, e_of _ hr5, ob, if_neg l0, if_neg l1, if_neg l2, if_pos l3, if_pos m00, if_neg m10, if_pos m11, if_neg m20, if_neg m21, if_pos m22, if_true, if_false, not_true_eq_false, not_false_eq_true, decide_true, decide_false, Bool.false_eq_true] <;>
    (repeat' split) <;> (first | rfl | simp_all)
end PURE2
