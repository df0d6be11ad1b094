/-! PURE, 2: loops; what hands read. -/
section PURE2
theorem lp {β : Type} {L : Nat → Nat → Option β} {r : Option β} {hi : Nat} (hend : ∀ n, L (n + 1) hi = r) (hstep : ∀ n i, i < hi → L (n + 1) i = L n (i + 1)) : ∀ n i, i ≤ hi → hi - i < n → L n i = r := by
  intro n
  induction n with
  | zero => intro i _ h; omega
  | succ n ih =>
    intro i h1 h2
    by_cases h : i = hi
    · subst h; exact hend n
    · rw [hstep n i (by omega)]; exact ih (i + 1) (by omega) (by omega)
theorem lpI {β σ : Type} {L : Nat → Nat → σ → Option β} {I : Nat → σ → Prop} {Q : β → Prop} {hi : Nat} (hend : ∀ n s, I hi s → ∃ r, L (n + 1) hi s = some r ∧ Q r) (hstep : ∀ n i s, i < hi → I i s → ∃ s', I (i + 1) s' ∧ L (n + 1) i s = L n (i + 1) s') : ∀ n i s, i ≤ hi → hi - i < n → I i s → ∃ r, L n i s = some r ∧ Q r := by
  intro n
  induction n with
  | zero => intro i s _ h; omega
  | succ n ih =>
    intro i s h1 h2 hI
    by_cases h : i = hi
    · subst h; exact hend n s hI
    · obtain ⟨s', hI', e⟩ := hstep n i s (by omega) hI
      rw [e]; exact ih (i + 1) s' (by omega) (by omega) hI'
theorem ob {α β : Type} (a : α) (f : α → Option β) : Option.bind (some a) f = f a := rfl
def bi (b : Bool) : Int32 := if b then 1 else 0
theorem bi_0 (b : Bool) : bi b = 0 ↔ b = false := by cases b <;> decide
theorem bi_gb {α : Type} (b : Bool) (x : Option α) : gb (bi b) x = x := by
  unfold gb
  exact if_pos (by cases b <;> decide)
theorem bi_nar (b : Bool) : vp_nar .boolean (bi b) = bi b := by cases b <;> decide
theorem bi_if {α : Type} (b : Bool) (x y : α) : (if bi b = 0 then x else y) = if b then y else x := by
  cases b
  · exact if_pos (by decide)
  · exact if_neg (by decide)
theorem bi_some (b : Bool) : (if b = true then some (1 : Int32) else some (0 : Int32)) = some (bi b) := by cases b <;> rfl
theorem ct_y {p : Nat → Bool} {i : Nat} (h : p i = true) : fb_ct p (i + 1) = fb_ct p i + 1 := by rw [fb_ct_succ, if_pos h]
theorem ct_n {p : Nat → Bool} {i : Nat} (h : p i = false) : fb_ct p (i + 1) = fb_ct p i := by rw [fb_ct_succ, if_neg (by rw [h]; decide)]; rfl
def cd (a b c : Bool) : Nat := (if a then 1 else 0) + (if b then 2 else 0) + (if c then 4 else 0)
def rb (hr : Nat → Int32) (p h : Nat) : Bool := decide (¬ hr (3 * p + h) = 0)
def isr (hr : Nat → Int32) (p : Nat) : Bool := rb hr p 0 || rb hr p 1 || rb hr p 2
def hm (hd : Nat → Int32) (p h r : Nat) : Nat := mk (hd (3 * p + h)) r
def HO (ho hr : Nat → Int32) : Prop := ∀ p, p < 300 → ho p = nI (cd (rb hr p 0) (rb hr p 1) (rb hr p 2))
theorem e_isReadBy {ho hr : Nat → Int32} (H : HO ho hr) {p h : Nat} (hp : p < 300) (hh : h < 3) : f_X1_isReadBy (nI p) (nI h) ho = some (bi (rb hr p h)) := by
  unfold f_X1_isReadBy
  rw [gd_nI hp (by decide), cl_nI (by omega), H p hp]
  rcases (show h = 0 ∨ h = 1 ∨ h = 2 by omega) with rfl | rfl | rfl <;>
    (generalize rb hr p 0 = a; generalize rb hr p 1 = b; generalize rb hr p 2 = c; revert a b c; decide +kernel)
theorem e_isReadByHand {ho hr : Nat → Int32} (H : HO ho hr) {p : Nat} (hp : p < 300) : f_X1_isReadByHand (nI p) ho = some (bi (isr hr p)) := by
  unfold f_X1_isReadByHand
  rw [gd_nI hp (by decide), cl_nI (by omega), H p hp]
  unfold isr
  generalize rb hr p 0 = a; generalize rb hr p 1 = b; generalize rb hr p 2 = c; revert a b c; decide +kernel
/-- read or lost -/
def kn (lo hr : Nat → Int32) (p : Nat) : Bool := decide (¬ lo p = 0) || isr hr p
theorem kn_0 {lo hr : Nat → Int32} {p : Nat} (h : lo p = 0) : kn lo hr p = isr hr p := by simp [kn, h]
theorem kn_1 {lo hr : Nat → Int32} {p : Nat} (h : ¬ lo p = 0) : kn lo hr p = true := by simp [kn, h]
theorem e_isSettled {ho hr lo : Nat → Int32} (H : HO ho hr) {p : Nat} (hp : p < 300) : f_X1_isSettled (nI p) lo ho = some (bi (kn lo hr p)) := by
  unfold f_X1_isSettled
  rw [gd_nI hp (by decide), cl_nI (by omega), e_isReadByHand H hp]
  by_cases h : lo p = 0
  · rw [if_pos h, kn_0 h, ob, bi_if, bi_some]
  · rw [if_neg h, kn_1 h]; rfl
theorem ix3 (p h : Nat) : (3 : Int32) * nI p + nI h = nI (3 * p + h) := by rw [show (3 : Int32) * nI p = nI (3 * p) from pk_mul 3 p, nI_add]
theorem ix30 (p : Nat) : (3 : Int32) * nI p = nI (3 * p + 0) := pk_mul 3 p
theorem ixr (p h : Nat) : nI p * (3 : Int32) + nI h = nI (3 * p + h) := by rw [show nI p * (3 : Int32) = nI (p * 3) from pk_mul p 3, nI_add, Nat.mul_comm]
theorem e_isRead {hr : Nat → Int32} {p : Nat} (hp : p < 300) : f_X6_isRead (nI p) hr = some (bi (isr hr p)) := by
  unfold f_X6_isRead
  rw [show (3 : Int32) * nI p + (1 : Int32) = nI (3 * p + 1) from ix3 p 1, show (3 : Int32) * nI p + (2 : Int32) = nI (3 * p + 2) from ix3 p 2, ix30 p]
  rw [gd_nI (j := 3 * p + 0) (by omega) (by decide), gd_nI (j := 3 * p + 1) (by omega) (by decide), gd_nI (j := 3 * p + 2) (by omega) (by decide)]
  rw [cl_nI (j := 3 * p + 0) (by omega), cl_nI (j := 3 * p + 1) (by omega), cl_nI (j := 3 * p + 2) (by omega)]
  unfold isr rb
  by_cases h0 : hr (3 * p + 0) = 0
  · rw [if_pos h0]
    by_cases h1 : hr (3 * p + 1) = 0
    · rw [if_pos h1]
      by_cases h2 : hr (3 * p + 2) = 0
      · rw [if_pos h2]; simp only [h0, h1, h2]; rfl
      · rw [if_neg h2]; simp only [h0, h1, h2]; rfl
    · rw [if_neg h1]; simp only [h0, h1]; rfl
  · rw [if_neg h0]; simp only [h0]; rfl
theorem e_isKnown {hr lo : Nat → Int32} {p : Nat} (hp : p < 300) : f_X6_isKnown (nI p) lo hr = some (bi (kn lo hr p)) := by
  unfold f_X6_isKnown
  rw [gd_nI hp (by decide), cl_nI (by omega), e_isRead hp]
  by_cases h : lo p = 0
  · rw [if_pos h, kn_0 h, ob, bi_if, bi_some]
  · rw [if_neg h, kn_1 h]; rfl
/-- what hands 0, 1, 2 (read or not) with marks x, y, z say together -/
def rgm (a b c : Bool) (x y z : Nat) : Nat := if a then (if b then (if c then (if x = y ∨ x = z then x else if y = z then y else 0) else if x = y then x else 0) else if c then (if x = z then x else 0) else x) else if b then (if c then (if y = z then y else 0) else y) else if c then z else 0
def rg (hr hd : Nat → Int32) (p r : Nat) : Nat := rgm (rb hr p 0) (rb hr p 1) (rb hr p 2) (hm hd p 0 r) (hm hd p 1 r) (hm hd p 2 r)
theorem rgm_lt {a b c : Bool} {x y z : Nat} (hx : x < 8) (hy : y < 8) (hz : z < 8) : rgm a b c x y z < 8 := by
  unfold rgm
  repeat' split
  all_goals omega
theorem rg_lt (hr hd : Nat → Int32) (p r : Nat) : rg hr hd p r < 8 := rgm_lt (mk_lt _ _) (mk_lt _ _) (mk_lt _ _)
theorem e_handMark {ho hr hw : Nat → Int32} (H : HO ho hr) {p h r : Nat} (hp : p < 300) (hh : h < 3) (hr5 : r < 5) : f_X1_handMark (nI p) (nI h) (nI r) ho hw = some (if rb hr p h then nI (hm hw p h r) else -1) := by
  unfold f_X1_handMark
  rw [e_isReadBy H hp hh, ob, bi_if, ixr, gd_nI (by omega) (by decide), cl_nI (by omega), e_markOf _ hr5]
  cases rb hr p h <;> rfl
def hmF (o1 o2 o3 v : Int32) : Option Int32 := if o1 = (-1 : Int32) then (if o2 = (-1 : Int32) then (Option.bind (f_J6_bitCount_0f7a4 v) (fun o5 => if o5 ≤ (1 : Int32) then (some (imax o1 (imax o2 o3))) else (some (0 : Int32)))) else (if o2 = o3 then (some o2) else (Option.bind (f_J6_bitCount_0f7a4 v) (fun o7 => if o7 ≤ (1 : Int32) then (some (imax o1 (imax o2 o3))) else (some (0 : Int32)))))) else (if o1 = o2 then (some o1) else (if o1 = o3 then (some o1) else (if o2 = (-1 : Int32) then (Option.bind (f_J6_bitCount_0f7a4 v) (fun o9 => if o9 ≤ (1 : Int32) then (some (imax o1 (imax o2 o3))) else (some (0 : Int32)))) else (if o2 = o3 then (some o2) else (Option.bind (f_J6_bitCount_0f7a4 v) (fun o11 => if o11 ≤ (1 : Int32) then (some (imax o1 (imax o2 o3))) else (some (0 : Int32))))))))
theorem nm1 {m : Nat} (h : m < 8) : ¬ nI m = (-1 : Int32) := by
  intro e
  have := congrArg Int32.toInt e
  rw [nI_toInt (by omega)] at this
  have e2 : (-1 : Int32).toInt = -1 := by decide
  omega
theorem nlt1 {m : Nat} (h : m < 8) : ¬ nI m < (-1 : Int32) ∧ (-1 : Int32) < nI m := by
  have e2 : (-1 : Int32).toInt = -1 := by decide
  rw [fa_lt, fa_lt, nI_toInt (by omega)]
  omega
theorem bcnt : ∀ a b c : Bool, f_J6_bitCount_0f7a4 (nI (cd a b c)) = some (nI ((if a then 1 else 0) + (if b then 1 else 0) + (if c then 1 else 0))) := by decide +kernel
theorem imx {m : Nat} (h : m < 8) : imax (nI m) (-1) = nI m ∧ imax (-1) (nI m) = nI m := ⟨if_neg (nlt1 h).1, if_pos (nlt1 h).2⟩
theorem imm : imax (-1) (-1) = -1 := by decide
theorem hmF_ok (a b c : Bool) {x y z : Nat} (hx : x < 8) (hy : y < 8) (hz : z < 8) : hmF (if a then nI x else -1) (if b then nI y else -1) (if c then nI z else -1) (nI (cd a b c)) = some (if a || b || c then nI (rgm a b c x y z) else -1) := by
  have nx := nm1 hx
  have ny := nm1 hy
  have nz := nm1 hz
  have nx' : ¬ (-1 : Int32) = nI x := fun e => nx e.symm
  have ny' : ¬ (-1 : Int32) = nI y := fun e => ny e.symm
  have nz' : ¬ (-1 : Int32) = nI z := fun e => nz e.symm
  have exy : nI x = nI y ↔ x = y := nI_eq (by omega) (by omega)
  have exz : nI x = nI z ↔ x = z := nI_eq (by omega) (by omega)
  have eyz : nI y = nI z ↔ y = z := nI_eq (by omega) (by omega)
  have t1 : nI 1 ≤ (1 : Int32) := by decide
  have t0 : nI 0 ≤ (1 : Int32) := by decide
  have t2 : ¬ nI 2 ≤ (1 : Int32) := by decide
  have t3 : ¬ nI 3 ≤ (1 : Int32) := by decide
  unfold hmF
  rw [bcnt]
  simp only [ob]
  cases a <;> cases b <;> cases c
  · show (if (-1 : Int32) = -1 then (if (-1 : Int32) = -1 then (if nI 0 ≤ (1 : Int32) then some (imax (-1) (imax (-1) (-1))) else _) else _) else _) = some (-1)
    rw [if_pos rfl, if_pos rfl, if_pos t0, imm, imm]
  · show (if (-1 : Int32) = -1 then (if (-1 : Int32) = -1 then (if nI 1 ≤ (1 : Int32) then some (imax (-1) (imax (-1) (nI z))) else _) else _) else _) = some (nI z)
    rw [if_pos rfl, if_pos rfl, if_pos t1, (imx hz).2, (imx hz).2]
  · show (if (-1 : Int32) = -1 then (if nI y = -1 then _ else (if nI y = -1 then _ else (if nI 1 ≤ (1 : Int32) then some (imax (-1) (imax (nI y) (-1))) else _))) else _) = some (nI y)
    rw [if_pos rfl, if_neg ny, if_neg ny, if_pos t1, (imx hy).1, (imx hy).2]
  · show (if (-1 : Int32) = -1 then (if nI y = -1 then _ else (if nI y = nI z then some (nI y) else (if nI 2 ≤ (1 : Int32) then _ else some 0))) else _) = some (nI (if y = z then y else 0))
    rw [if_pos rfl, if_neg ny, if_neg t2]
    by_cases h : y = z
    · rw [if_pos (eyz.mpr h), if_pos h]
    · rw [if_neg (fun e => h (eyz.mp e)), if_neg h]; rfl
  · show (if nI x = -1 then _ else (if nI x = -1 then _ else (if nI x = -1 then _ else (if (-1 : Int32) = -1 then (if nI 1 ≤ (1 : Int32) then some (imax (nI x) (imax (-1) (-1))) else _) else _)))) = some (nI x)
    rw [if_neg nx, if_neg nx, if_neg nx, if_pos rfl, if_pos t1, imm, (imx hx).1]
  · show (if nI x = -1 then _ else (if nI x = -1 then _ else (if nI x = nI z then some (nI x) else (if (-1 : Int32) = -1 then (if nI 2 ≤ (1 : Int32) then _ else some 0) else _)))) = some (nI (if x = z then x else 0))
    rw [if_neg nx, if_neg nx, if_pos rfl, if_neg t2]
    by_cases h : x = z
    · rw [if_pos (exz.mpr h), if_pos h]
    · rw [if_neg (fun e => h (exz.mp e)), if_neg h]; rfl
  · show (if nI x = -1 then _ else (if nI x = nI y then some (nI x) else (if nI x = -1 then _ else (if nI y = -1 then _ else (if nI y = -1 then _ else (if nI 2 ≤ (1 : Int32) then _ else some 0)))))) = some (nI (if x = y then x else 0))
    rw [if_neg nx, if_neg nx, if_neg ny, if_neg ny, if_neg t2]
    by_cases h : x = y
    · rw [if_pos (exy.mpr h), if_pos h]
    · rw [if_neg (fun e => h (exy.mp e)), if_neg h]; rfl
  · show (if nI x = -1 then _ else (if nI x = nI y then some (nI x) else (if nI x = nI z then some (nI x) else (if nI y = -1 then _ else (if nI y = nI z then some (nI y) else (if nI 3 ≤ (1 : Int32) then _ else some 0)))))) = some (nI (if x = y ∨ x = z then x else if y = z then y else 0))
    rw [if_neg nx, if_neg ny, if_neg t3]
    by_cases h : x = y
    · rw [if_pos (exy.mpr h), if_pos (Or.inl h)]
    · rw [if_neg (fun e => h (exy.mp e))]
      by_cases h2 : x = z
      · rw [if_pos (exz.mpr h2), if_pos (Or.inr h2)]
      · rw [if_neg (fun e => h2 (exz.mp e)), if_neg (show ¬ (x = y ∨ x = z) from fun e => e.elim h h2)]
        by_cases h3 : y = z
        · rw [if_pos (eyz.mpr h3), if_pos h3]
        · rw [if_neg (fun e => h3 (eyz.mp e)), if_neg h3]; rfl
/-- the class's reading: -1 where no hand read -/
def hk (hr hd : Nat → Int32) (p r : Nat) : Int32 := if isr hr p then nI (rg hr hd p r) else -1
theorem e_handsMark {ho hr hw : Nat → Int32} (H : HO ho hr) {p r : Nat} (hp : p < 300) (hr5 : r < 5) : f_X1_handsMark (nI p) (nI r) ho hw = some (hk hr hw p r) := by
  have e0 : f_X1_handMark (nI p) (0 : Int32) (nI r) ho hw = _ := e_handMark (h := 0) H hp (by decide) hr5
  have e1 : f_X1_handMark (nI p) (1 : Int32) (nI r) ho hw = _ := e_handMark (h := 1) H hp (by decide) hr5
  have e2 : f_X1_handMark (nI p) (2 : Int32) (nI r) ho hw = _ := e_handMark (h := 2) H hp (by decide) hr5
  unfold f_X1_handsMark
  rw [e0, ob, e1, ob, e2, ob]
  simp only [gd_nI (j := p) (n := 300) hp (by decide), cl_nI (j := p) (by omega), H p hp]
  exact hmF_ok (rb hr p 0) (rb hr p 1) (rb hr p 2) (mk_lt (hw (3 * p + 0)) r) (mk_lt (hw (3 * p + 1)) r) (mk_lt (hw (3 * p + 2)) r)
theorem e_wordMark {wd : Nat → Int32} {p r : Nat} (hp : p < 300) (hr5 : r < 5) : f_X1_wordMark (nI p) (nI r) wd = some (nI (mk (wd p) r)) := by
  unfold f_X1_wordMark
  rw [gd_nI hp (by decide), cl_nI (by omega), e_markOf _ hr5]; rfl
/-- the model's loop over hands, for marks below 8 -/
def rmF (a b c : Bool) (x y z : Int32) : Option Int32 :=
  let t (n l g : Int32) : Option Int32 := if n = (1 : Int32) then some l else if g = (-1 : Int32) then some 0 else some g
  let s2 (n l g : Int32) : Option Int32 := if c then (let g1 := if a then (if x = z then z else g) else g; let g2 := if b then (if y = z then z else g1) else g1; t (n + 1) z g2) else t n l g
  let s1 (n l g : Int32) : Option Int32 := if b then (let g1 := if a then (if x = y then y else g) else g; s2 (n + 1) y g1) else s2 n l g
  if a then s1 ((0 : Int32) + 1) x (-1) else s1 0 0 (-1)
theorem rmF_ok (a b c : Bool) {x y z : Nat} (hx : x < 8) (hy : y < 8) (hz : z < 8) : rmF a b c (nI x) (nI y) (nI z) = some (nI (rgm a b c x y z)) := by
  have nx := nm1 hx
  have ny := nm1 hy
  have nz := nm1 hz
  have exy : nI x = nI y ↔ x = y := nI_eq (by omega) (by omega)
  have exz : nI x = nI z ↔ x = z := nI_eq (by omega) (by omega)
  have eyz : nI y = nI z ↔ y = z := nI_eq (by omega) (by omega)
  have u0 : ¬ (0 : Int32) = 1 := by decide
  have u1 : (0 : Int32) + 1 = 1 := by decide
  have u2 : ¬ (0 : Int32) + 1 + 1 = 1 := by decide
  have u3 : ¬ (0 : Int32) + 1 + 1 + 1 = 1 := by decide
  cases a <;> cases b <;> cases c
  · rfl
  · rfl
  · rfl
  · show (if (if nI y = nI z then nI z else -1) = (-1 : Int32) then some 0 else some (if nI y = nI z then nI z else -1)) = some (nI (if y = z then y else 0))
    by_cases h : y = z
    · rw [if_pos (eyz.mpr h), if_neg nz, if_pos h, h]
    · rw [if_neg (fun e => h (eyz.mp e)), if_pos rfl, if_neg h]; rfl
  · rfl
  · show (if (if nI x = nI z then nI z else -1) = (-1 : Int32) then some 0 else some (if nI x = nI z then nI z else -1)) = some (nI (if x = z then x else 0))
    by_cases h : x = z
    · rw [if_pos (exz.mpr h), if_neg nz, if_pos h, h]
    · rw [if_neg (fun e => h (exz.mp e)), if_pos rfl, if_neg h]; rfl
  · show (if (if nI x = nI y then nI y else -1) = (-1 : Int32) then some 0 else some (if nI x = nI y then nI y else -1)) = some (nI (if x = y then x else 0))
    by_cases h : x = y
    · rw [if_pos (exy.mpr h), if_neg ny, if_pos h, h]
    · rw [if_neg (fun e => h (exy.mp e)), if_pos rfl, if_neg h]; rfl
  · show (if (if nI y = nI z then nI z else (if nI x = nI z then nI z else (if nI x = nI y then nI y else -1))) = (-1 : Int32) then some 0 else some (if nI y = nI z then nI z else (if nI x = nI z then nI z else (if nI x = nI y then nI y else -1)))) = some (nI (if x = y ∨ x = z then x else if y = z then y else 0))
    by_cases h3 : y = z
    · rw [if_pos (eyz.mpr h3), if_neg nz]
      by_cases h : x = y
      · rw [if_pos (Or.inl h), h, h3]
      · rw [if_neg (fun e => e.elim h (fun e2 => h (e2.trans h3.symm))), if_pos h3, h3]
    · rw [if_neg (fun e => h3 (eyz.mp e))]
      by_cases h2 : x = z
      · rw [if_pos (exz.mpr h2), if_neg nz, if_pos (Or.inr h2), h2]
      · rw [if_neg (fun e => h2 (exz.mp e))]
        by_cases h : x = y
        · rw [if_pos (exy.mpr h), if_neg ny, if_pos (Or.inl h), h]
        · rw [if_neg (fun e => h (exy.mp e)), if_pos rfl, if_neg (show ¬ (x = y ∨ x = z) from fun e => e.elim h h2), if_neg h3]; rfl
section RD
variable {hr hd : Nat → Int32} {p r : Nat} (k : Int32 → Int32 → Int32 → Int32 → Option Int32)
theorem s57_0 (n : Nat) (c l g : Int32) : f_X6_readingOf_L57 (nI p) (nI r) hr hd k (n + 1) c l g (0 : Int32) (0 : Int32) = k c l g ((0 : Int32) + 1) := by
  rw [f_X6_readingOf_L57, if_pos (show (0 : Int32) ≤ 0 from by decide)]
/-- one hand looked at: on to the next -/
theorem s57_s (hp : p < 300) (hr5 : r < 5) (n h : Nat) (hh : h < 3) (c l g j : Int32) (hj : ¬ j ≤ nI h) : f_X6_readingOf_L57 (nI p) (nI r) hr hd k (n + 1) c l g j (nI h) = f_X6_readingOf_L57 (nI p) (nI r) hr hd k n c l (if rb hr p h then (if nI (hm hd p h r) = l then l else g) else g) j (nI (h + 1)) := by
  rw [f_X6_readingOf_L57, if_neg hj, ix3, gd_nI (by omega) (by decide), cl_nI (by omega), gd_nI (by omega) (by decide), e_of _ hr5, ob, nI_1]
  unfold rb hm
  by_cases h0 : hr (3 * p + h) = 0
  · rw [if_pos h0]; simp [h0]
  · rw [if_neg h0]
    by_cases e : nI (mk (hd (3 * p + h)) r) = l
    · rw [if_pos e]; simp [h0, e]
    · rw [if_neg e]; simp [h0, e]
theorem s57_1 (hp : p < 300) (hr5 : r < 5) (n : Nat) (c l g : Int32) : f_X6_readingOf_L57 (nI p) (nI r) hr hd k (n + 2) c l g (nI 1) (0 : Int32) = k c l (if rb hr p 0 then (if nI (hm hd p 0 r) = l then l else g) else g) (nI 2) := by
  rw [show f_X6_readingOf_L57 (nI p) (nI r) hr hd k (n + 2) c l g (nI 1) (0 : Int32) = _ from s57_s k hp hr5 (n + 1) 0 (by decide) c l g (nI 1) (by decide), f_X6_readingOf_L57, if_pos (show nI 1 ≤ nI (0 + 1) from by decide)]; rfl
theorem s57_2 (hp : p < 300) (hr5 : r < 5) (n : Nat) (c l g : Int32) : f_X6_readingOf_L57 (nI p) (nI r) hr hd k (n + 3) c l g (nI 2) (0 : Int32) = k c l (if rb hr p 1 then (if nI (hm hd p 1 r) = l then l else (if rb hr p 0 then (if nI (hm hd p 0 r) = l then l else g) else g)) else (if rb hr p 0 then (if nI (hm hd p 0 r) = l then l else g) else g)) (nI 3) := by
  rw [show f_X6_readingOf_L57 (nI p) (nI r) hr hd k (n + 3) c l g (nI 2) (0 : Int32) = _ from s57_s k hp hr5 (n + 2) 0 (by decide) c l g (nI 2) (by decide), s57_s k hp hr5 (n + 1) 1 (by decide) c l _ (nI 2) (by decide), f_X6_readingOf_L57, if_pos (show nI 2 ≤ nI (1 + 1) from by decide)]; rfl
end RD
theorem l11_s {N : Nat} {hr hd : Nat → Int32} {p r : Nat} (hp : p < 300) (hr5 : r < 5) (n h : Nat) (hh : h < 3) (c l g : Int32) : f_X6_readingOf_L11 N (nI p) (nI r) hr hd (n + 1) c l g (nI h) = if rb hr p h then f_X6_readingOf_L57 (nI p) (nI r) hr hd (fun u0 u1 u2 u3 => f_X6_readingOf_L11 N (nI p) (nI r) hr hd n u0 u1 u2 u3) N (c + 1) (nI (hm hd p h r)) g (nI h) (0 : Int32) else f_X6_readingOf_L11 N (nI p) (nI r) hr hd n c l g (nI (h + 1)) := by
  rw [f_X6_readingOf_L11, if_neg (show ¬ (3 : Int32) ≤ nI h from nI_ge (b := 3) hh (by decide)), ix3, gd_nI (by omega) (by decide), cl_nI (by omega), gd_nI (by omega) (by decide), e_of _ hr5, ob, nI_1]
  unfold rb hm
  by_cases h0 : hr (3 * p + h) = 0
  · rw [if_pos h0]; simp [h0]
  · rw [if_neg h0]; simp [h0]
theorem l11_e {N : Nat} {hr hd : Nat → Int32} {p r : Nat} (n : Nat) (c l g : Int32) : f_X6_readingOf_L11 N (nI p) (nI r) hr hd (n + 1) c l g (nI 3) = if c = (1 : Int32) then some l else if g = (-1 : Int32) then some 0 else some g := by
  rw [f_X6_readingOf_L11, if_pos (show (3 : Int32) ≤ nI 3 from by decide)]
theorem e_readingOf {N : Nat} (hN : 100010 ≤ N) {hr hd : Nat → Int32} {p r : Nat} (hp : p < 300) (hr5 : r < 5) : f_X6_readingOf N (nI p) (nI r) hr hd = some (nI (rg hr hd p r)) := by
  refine Eq.trans ?_ (rmF_ok (rb hr p 0) (rb hr p 1) (rb hr p 2) (mk_lt (hd (3 * p + 0)) r) (mk_lt (hd (3 * p + 1)) r) (mk_lt (hd (3 * p + 2)) r))
  obtain ⟨M, rfl⟩ : ∃ M, N = M + 5 := ⟨N - 5, by omega⟩
  show f_X6_readingOf_L11 (M + 5) (nI p) (nI r) hr hd (M + 5) (0 : Int32) (0 : Int32) (-1 : Int32) (nI 0) = rmF (rb hr p 0) (rb hr p 1) (rb hr p 2) (nI (hm hd p 0 r)) (nI (hm hd p 1 r)) (nI (hm hd p 2 r))
  have s2 : ∀ (c l g : Int32), f_X6_readingOf_L11 (M + 5) (nI p) (nI r) hr hd (M + 3) c l g (nI 2) = if rb hr p 2 then (if c + 1 = (1 : Int32) then some (nI (hm hd p 2 r)) else if (if rb hr p 1 then (if nI (hm hd p 1 r) = nI (hm hd p 2 r) then nI (hm hd p 2 r) else (if rb hr p 0 then (if nI (hm hd p 0 r) = nI (hm hd p 2 r) then nI (hm hd p 2 r) else g) else g)) else (if rb hr p 0 then (if nI (hm hd p 0 r) = nI (hm hd p 2 r) then nI (hm hd p 2 r) else g) else g)) = (-1 : Int32) then some 0 else some (if rb hr p 1 then (if nI (hm hd p 1 r) = nI (hm hd p 2 r) then nI (hm hd p 2 r) else (if rb hr p 0 then (if nI (hm hd p 0 r) = nI (hm hd p 2 r) then nI (hm hd p 2 r) else g) else g)) else (if rb hr p 0 then (if nI (hm hd p 0 r) = nI (hm hd p 2 r) then nI (hm hd p 2 r) else g) else g))) else (if c = (1 : Int32) then some l else if g = (-1 : Int32) then some 0 else some g) := by
    intro c l g
    rw [l11_s hp hr5 (M + 2) 2 (by decide), s57_2 _ hp hr5 (M + 2), l11_e (M + 1), l11_e (M + 1)]
  have s1 : ∀ (c l g : Int32), f_X6_readingOf_L11 (M + 5) (nI p) (nI r) hr hd (M + 4) c l g (nI 1) = if rb hr p 1 then f_X6_readingOf_L11 (M + 5) (nI p) (nI r) hr hd (M + 3) (c + 1) (nI (hm hd p 1 r)) (if rb hr p 0 then (if nI (hm hd p 0 r) = nI (hm hd p 1 r) then nI (hm hd p 1 r) else g) else g) (nI 2) else f_X6_readingOf_L11 (M + 5) (nI p) (nI r) hr hd (M + 3) c l g (nI 2) := by
    intro c l g
    rw [l11_s hp hr5 (M + 3) 1 (by decide), s57_1 _ hp hr5 (M + 3)]
  rw [l11_s hp hr5 (M + 4) 0 (by decide), show f_X6_readingOf_L57 (nI p) (nI r) hr hd (fun u0 u1 u2 u3 => f_X6_readingOf_L11 (M + 5) (nI p) (nI r) hr hd (M + 4) u0 u1 u2 u3) (M + 5) ((0 : Int32) + 1) (nI (hm hd p 0 r)) (-1 : Int32) (nI 0) (0 : Int32) = _ from s57_0 _ (M + 4) _ _ _]
  show (if rb hr p 0 = true then f_X6_readingOf_L11 (M + 5) (nI p) (nI r) hr hd (M + 4) ((0 : Int32) + 1) (nI (hm hd p 0 r)) (-1 : Int32) (nI 1) else f_X6_readingOf_L11 (M + 5) (nI p) (nI r) hr hd (M + 4) (0 : Int32) (0 : Int32) (-1 : Int32) (nI 1)) = _
  rw [s1, s1, s2, s2, s2, s2]
  unfold rmF
  cases rb hr p 0 <;> cases rb hr p 1 <;> cases rb hr p 2 <;> rfl
end PURE2
