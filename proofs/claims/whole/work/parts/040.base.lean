/-! My own base: what every contract takes as given of the tables (GG), a method that only reads (pqI), guards of the functional texts. -/
section BASE
abbrev tysL (cI cZ cR cJ : ClassId) : List (ClassId × FieldType) := [(cI, .int), (cZ, .boolean), (cR, .object "SureCount$Race"), (cJ, .long)]
def nfL : List (String × Nat × String × String × String × String) := [(RX5, 223, "SureCount$Race", "wordTally", "LSureCount$Tally;", "SureCount"), (RX4, 71, "SureCount$Race", "pairWinner", "[I", "SureCount"), (RX4, 74, "SureCount$Race", "pairLoser", "[I", "SureCount"), (RX4, 68, "SureCount$Race", "pairMargin", "[I", "SureCount"), (RX4, 65, "SureCount$Race", "pairs", "I", "SureCount"), (RX5, 135, "SureCount$Race", "candidates", "I", "SureCount"), (RX5, 138, "SureCount$Race", "seats", "I", "SureCount"), (RX5, 131, "SureCount$Race", "size", "I", "SureCount"), (RX5, 132, "SureCount$Race", "margin", "I", "SureCount"), (RX5, 166, "SureCount$Papers", "boxOf", "[I", "SureCount"), (RX4, 57, "SureCount$Papers", "isLost", "[Z", "SureCount"), (RX5, 100, "SureCount$Papers", "isLost", "[Z", "SureCount"), (RX5, 149, "SureCount$Papers", "wasDrawn", "[Z", "SureCount"), (RX4, 26, "SureCount$Papers", "size", "I", "SureCount"), (RX5, 55, "SureCount$Papers", "size", "I", "SureCount"), (RX4, 41, "SureCount$Draws", "paperOf", "[I", "SureCount"), (RX5, 158, "SureCount$Draws", "paperOf", "[I", "SureCount"), (RX5, 148, "SureCount$Draws", "size", "I", "SureCount"), (RX5, 199, "SureCount$Walk", "worstGap", "[I", "SureCount"), (RX5, 189, "SureCount$Walk", "riskReached", "I", "SureCount"), (RX5, 192, "SureCount$Walk", "drawsTaken", "I", "SureCount")]
def nmL : List (String × Nat × MethodName × String) := [(RX5, 15, yX2_init, "SureCount"), (RX2, 11, yX3_init, "SureCount"), (RX5, 18, yX1_init, "SureCount"), (RX5, 25, yX0_init, "SureCount"), (RX5, 32, yX4_init, "SureCount"), (RX5, 39, yX3_init, "SureCount"), (RX1, 39, yX5_markOf, "SureCount")]
def srL : List (String × Nat × String) := [(RX5, 68, "no such box"), (RX5, 90, "no such paper"), (RX5, 97, "a hand read this paper"), (RX5, 112, "no such race, candidate or way of counting"), (RX5, 129, "no such race"), (RX5, 141, "no such thing about a race"), (RX5, 145, "0 to 100 draws at once"), (RX5, 156, "no such draw"), (RX5, 169, "no such hand"), (RX5, 203, "a limit is 0 to 1,000,000,000"), (RX5, 215, "no such count")]
def xcL : List String := ["java/util/NoSuchElementException", "java/lang/IllegalStateException", "java/lang/IllegalArgumentException"]
def ncL : List (String × String) := [("java/lang/IllegalStateException", "java/util/NoSuchElementException"), ("java/lang/IllegalArgumentException", "java/util/NoSuchElementException")]
def dcL : List MethodName := [⟨"java/lang/RuntimeException", "<init>", "(Ljava/lang/String;)V"⟩, ⟨"java/lang/Exception", "<init>", "(Ljava/lang/String;)V"⟩, ⟨"java/lang/Throwable", "<init>", "(Ljava/lang/String;)V"⟩]
def GG (dC : Nat → ClassId) (dI : Nat → Nat → Nat) (cI cZ cR cJ : ClassId) (U : State) : Prop := va_K (dC, dI) vwCl (tysL cI cZ cR cJ) U ∧
  (∀ q ∈ nfL, va_Nw (.fieldLinkNest q.1 q.2.1 q.2.2.1 q.2.2.2.1 q.2.2.2.2.1 q.2.2.2.2.2) U) ∧ (∀ q ∈ nmL, va_Nw (.methodLinkNest q.1 q.2.1 q.2.2.1 q.2.2.2) U) ∧ (∀ q ∈ srL, ∃ sa, vk_R q.1 q.2.1 q.2.2 sa U) ∧ (∀ E ∈ xcL, va_Nw (.castable E E) U) ∧ va_AO "SureCount$Race" U ∧ (∀ q ∈ ncL, va_Nc q.1 q.2 U) ∧ (∀ y ∈ dcL, va_Nw (.declares y) U)
theorem GG.warm {dC : Nat → ClassId} {dI : Nat → Nat → Nat} {cI cZ cR cJ : ClassId} {s U : State} (h : GG dC dI cI cZ cR cJ s) (hW : s.WarmedH U.vm) : GG dC dI cI cZ cR cJ U :=
  ⟨va_K.moved hW.alike h.1, fun q hq => va_Nw.warmF hW (h.2.1 q hq), fun q hq => va_Nw.warmM hW (h.2.2.1 q hq), fun q hq => by obtain ⟨sa, hs⟩ := h.2.2.2.1 q hq; exact ⟨sa, vk_R.warm hW hs⟩, fun E hE => va_Nw.warmC hW (h.2.2.2.2.1 E hE), va_AO.moved hW.alike h.2.2.2.2.2.1, fun q hq => va_Nc.moved hW.alike (h.2.2.2.2.2.2.1 q hq), fun y hy => va_Nw.warmD hW (h.2.2.2.2.2.2.2 y hy)⟩
theorem GG.calling {dC : Nat → ClassId} {dI : Nat → Nat → Nat} {cI cZ cR cJ : ClassId} {U : State} {g : JFrame} {mk : MethodId} {a : Array Value} (h : GG dC dI cI cZ cR cJ U) : GG dC dI cI cZ cR cJ (U.calling g mk a) :=
  ⟨va_K.moved (u := U) (U := U.calling g mk a) (Vm.Alike.refl U.vm) h.1, fun q hq => va_Nw.same rfl (u := U) rfl (h.2.1 q hq), fun q hq => va_Nw.same rfl (u := U) rfl (h.2.2.1 q hq), fun q hq => by obtain ⟨sa, hs⟩ := h.2.2.2.1 q hq; exact ⟨sa, vk_R.same (u := U) rfl hs⟩, fun E hE => va_Nw.same rfl (u := U) rfl (h.2.2.2.2.1 E hE), va_AO.moved (u := U) (U := U.calling g mk a) (Vm.Alike.refl U.vm) h.2.2.2.2.2.1, fun q hq => va_Nc.moved (u := U) (U := U.calling g mk a) (Vm.Alike.refl U.vm) (h.2.2.2.2.2.2.1 q hq), fun y hy => va_Nw.same rfl (u := U) rfl (h.2.2.2.2.2.2.2 y hy)⟩
/-- the world and the tables at a reader's start -/
def rdB (D : va_G) (ws : va_W) (G : State → Prop) : State → Prop := fun U => va_P D vwCl ws U.heap ∧ G U
theorem rd_blind {av : List Value} {dC : Nat → ClassId} {dI : Nat → Nat → Nat} {cI cZ cR cJ : ClassId} {ws : va_W} : FrameBlind (va_Pc av (rdB (dC, dI) ws (GG dC dI cI cZ cR cJ))) := fun _ _ _ _ h => ⟨h.1, h.2.1, h.2.2.calling⟩
theorem rd_pre {s : State} {H : Heap} {av : List Value} {dC : Nat → ClassId} {dI : Nat → Nat → Nat} {cI cZ cR cJ : ClassId} {ws : va_W} (hP : va_P (dC, dI) vwCl ws H) (hG : GG dC dI cI cZ cR cJ s) : ∀ U : State, U.heap = H → s.WarmedH U.vm → va_Pc av (rdB (dC, dI) ws (GG dC dI cI cZ cR cJ)) av.toArray U := fun _ hU hW => ⟨rfl, by rw [hU]; exact hP, hG.warm hW⟩
/-- a method that changes nothing, with an int for an answer -/
def pqI (r0 : Int32) : Array Value → State → Outcome → State → Prop := fun _ st oc t => oc = .returned (some (.int r0)) ∧ t.heap = st.heap
def pqL (r0 : Int64) : Array Value → State → Outcome → State → Prop := fun _ st oc t => oc = .returned (some (.long r0)) ∧ t.heap = st.heap
abbrev noF : Addr → Prop := fun _ => False
section CALLS
variable {p : Program} {l : Launch} {e : Env} {R : Room} {s : State} {m : MethodId} {args : Array Value} {below : List Frame} {meth : Method} {c : Code} {H : Heap} {locs : List Loc} {cells slots : Nat} {Q : State → Prop}
theorem pcI {pc : Nat} {ls : Array Slot} {st0 rest : List Value} {a : Array Value} {r0 : Int32} (hr : va_Run p l e R s m args below meth c H locs cells slots 0 0 (F0 m pc ls st0) rest (pqI r0 a) noF)
    (kk : W p l e R s m args below meth c H locs cells slots Q (F0 m (pc + 3) ls (.int r0 :: rest))) : W p l e R s m args below meth c H locs cells slots Q (F0 m pc ls st0) := by
  intro T hT X
  obtain ⟨v, st₀, t, T', L, h0, X', hL, e1, e2, ⟨hv, hh⟩, st⟩ := hr T hT X
  cases hv
  have hL0 : L = [] := by
    cases L with
    | nil => rfl
    | cons z zs => exact absurd (hL z List.mem_cons_self) id
  subst hL0
  rw [List.append_nil] at X'
  obtain ⟨t2, a1, b1⟩ := kk T' (by rw [e1, hh, h0]) X'
  exact ⟨t2, st t2 a1, b1⟩
theorem pcL {pc : Nat} {ls : Array Slot} {st0 rest : List Value} {a : Array Value} {r0 : Int64} (hr : va_Run p l e R s m args below meth c H locs cells slots 0 0 (F0 m pc ls st0) rest (pqL r0 a) noF)
    (kk : W p l e R s m args below meth c H locs cells slots Q (F0 m (pc + 3) ls (.long r0 :: rest))) : W p l e R s m args below meth c H locs cells slots Q (F0 m pc ls st0) := by
  intro T hT X
  obtain ⟨v, st₀, t, T', L, h0, X', hL, e1, e2, ⟨hv, hh⟩, st⟩ := hr T hT X
  cases hv
  have hL0 : L = [] := by
    cases L with
    | nil => rfl
    | cons z zs => exact absurd (hL z List.mem_cons_self) id
  subst hL0
  rw [List.append_nil] at X'
  obtain ⟨t2, a1, b1⟩ := kk T' (by rw [e1, hh, h0]) X'
  exact ⟨t2, st t2 a1, b1⟩
/-- a method's first frame, by the list of its arguments -/
theorem w_entry {av : List Value} {n : Nat} (lv : List (Nat × Value)) (hlen : (lg_sl av).length ≤ n) (hlv : lv_args 0 av = lv) (kk : ∀ ls : Array Slot, lv_has ls n lv → W p l e R s m args below meth c H locs cells slots Q (F0 m 0 ls [])) : W p l e R s m args below meth c H locs cells slots Q (entryFrame m av.toArray n) := by
  subst hlv
  rw [lg_entry_eq]
  exact kk _ (lv_entry av hlen)
end CALLS
/-- an index in its row, or no answer -/
def gd {α : Type} (i : Int32) (n : Nat) (x : Option α) : Option α := if i < 0 ∨ n ≤ i.toNatClampNeg then none else x
theorem gd_some {α : Type} {i : Int32} {n : Nat} {x : Option α} {o : α} (h : gd i n x = some o) : vp_in i n ∧ x = some o := by
  unfold gd at h
  by_cases hc : i < 0 ∨ n ≤ i.toNatClampNeg
  · rw [if_pos hc] at h; cases h
  · rw [if_neg hc] at h; exact ⟨hc, h⟩
theorem gd_in {α : Type} {i : Int32} {n : Nat} {x : Option α} (h : vp_in i n) : gd i n x = x := if_neg h
/-- a divisor that isn't 0, or no answer -/
def gz {α : Type} (y : Int64) (x : Option α) : Option α := if y = 0 then none else x
theorem gz_some {α : Type} {y : Int64} {x : Option α} {o : α} (h : gz y x = some o) : (¬ y = 0) ∧ x = some o := by
  unfold gz at h
  by_cases hc : y = 0
  · rw [if_pos hc] at h; cases h
  · rw [if_neg hc] at h; exact ⟨hc, h⟩
theorem gz_in {α : Type} {y : Int64} {x : Option α} (h : ¬ y = 0) : gz y x = x := if_neg h
/-- a truth value that is 0 or 1, or no answer -/
def gb {α : Type} (v : Int32) (x : Option α) : Option α := if v = 0 ∨ v = 1 then x else none
theorem gb_some {α : Type} {v : Int32} {x : Option α} {o : α} (h : gb v x = some o) : (narrow .boolean (.int v) = .int v) ∧ x = some o := by
  unfold gb at h
  by_cases hc : v = 0 ∨ v = 1
  · rw [if_pos hc] at h
    exact ⟨by rcases hc with rfl | rfl <;> rfl, h⟩
  · rw [if_neg hc] at h; cases h
theorem gb_in {α : Type} {v : Int32} {x : Option α} (h : v = 0 ∨ v = 1) : gb v x = x := if_pos h
abbrev iush (x y : Int32) : Int32 := (x.toUInt32 >>> (y.toUInt32 &&& Int32.toUInt32 31)).toInt32
abbrev lush (x : Int64) (y : Int32) : Int64 := (x.toUInt64 >>> (y.toInt64.toUInt64 &&& Int64.toUInt64 63)).toInt64
abbrev imax (x y : Int32) : Int32 := if x < y then y else x
abbrev imin (x y : Int32) : Int32 := if y < x then y else x
abbrev lmin (x y : Int64) : Int64 := if y < x then y else x
/-- a switch over 0 .. hi -/
def sw {α : Type} (hi : Nat) (x : Int32) (g : Nat → Option α) (d : Option α) : Option α := if x.toInt < 0 ∨ (hi : Int) < x.toInt then d else g x.toInt.toNat
theorem sw_cases (hi : Nat) (x : Int32) : (x.toInt < 0 ∨ (hi : Int) < x.toInt) ∨ ∃ k : Nat, k ≤ hi ∧ x.toInt = (k : Int) := by
  by_cases h : x.toInt < 0 ∨ (hi : Int) < x.toInt
  · exact Or.inl h
  · exact Or.inr ⟨x.toInt.toNat, by omega, by omega⟩
theorem sw_out {α : Type} {hi : Nat} {x : Int32} {g : Nat → Option α} {d : Option α} (h : x.toInt < 0 ∨ (hi : Int) < x.toInt) : sw hi x g d = d := if_pos h
theorem sw_at {α : Type} {hi k : Nat} {x : Int32} {g : Nat → Option α} {d : Option α} (hk : k ≤ hi) (h : x.toInt = (k : Int)) : sw hi x g d = g k := by
  unfold sw
  rw [if_neg (by omega), h]
  rfl
theorem sw_lo {k : Nat} {x : Int32} (h : x.toInt = (k : Int)) : ¬ x.toInt < 0 := by omega
theorem sw_hi {hi k : Nat} {x : Int32} (hk : k ≤ hi) (h : x.toInt = (k : Int)) : ¬ (hi : Int) < x.toInt := by omega
theorem sw_in3 {k : Nat} (h : k ≤ 3) : k = 0 ∨ k = 1 ∨ k = 2 ∨ k = 3 := by omega
theorem sw_in6 {k : Nat} (h : k ≤ 6) : k = 0 ∨ k = 1 ∨ k = 2 ∨ k = 3 ∨ k = 4 ∨ k = 5 ∨ k = 6 := by omega
/-- the world and the tables at a writer's start -/
def wrB (D : va_G) (sz : Nat) (ws : va_W) (G : State → Prop) : State → Prop := fun U => U.heap.size = sz ∧ va_P D vwCl ws U.heap ∧ G U ∧ va_D (fun _ => True) ws
theorem wr_blind {av : List Value} {dC : Nat → ClassId} {dI : Nat → Nat → Nat} {cI cZ cR cJ : ClassId} {sz : Nat} {ws : va_W} : FrameBlind (va_Pc av (wrB (dC, dI) sz ws (GG dC dI cI cZ cR cJ))) := fun _ _ _ _ h => ⟨h.1, h.2.1, h.2.2.1, h.2.2.2.1.calling, h.2.2.2.2⟩
theorem wr_pre {s : State} {H : Heap} {av : List Value} {A : Nat → Prop} {dC : Nat → ClassId} {dI : Nat → Nat → Nat} {cI cZ cR cJ : ClassId} {ws : va_W} (hP : va_P (dC, dI) vwCl ws H) (hG : GG dC dI cI cZ cR cJ s) (hD : va_D A ws) : ∀ U : State, U.heap = H → s.WarmedH U.vm → va_Pc av (wrB (dC, dI) H.size ws (GG dC dI cI cZ cR cJ)) av.toArray U := fun _ hU hW => ⟨rfl, by rw [hU], by rw [hU]; exact hP, hG.warm hW, hD.weaken (fun _ _ _ _ => trivial)⟩
/-- what a writer left beside what it didn't touch, in the old order -/
theorem wj {D : va_G} {A : Nat → Prop} {ws ws' wc w1 : va_W} {H H1 : Heap} (hP : va_P D vwCl ws H) (hD : va_D A ws) (hk : ∀ q : Nat, q < H.size → ¬ va_A wc H.size q → H1[q]? = H[q]?) (hB : va_P D vwCl w1 H1) (pl pr : List Nat) (n : Nat) (hn : ws'.length = n)
    (hC : pl.map (fun i => ws[i]?) = wc.map some) (h1 : pl.map (fun i => ws'[i]?) = w1.map some) (hR : pr.map (fun i => ws'[i]?) = pr.map (fun i => ws[i]?)) (hall : ∀ k, k < n → k ∈ pl ∨ k ∈ pr) (hdis : ∀ k ∈ pr, k ∉ pl) : va_P D vwCl ws' H1 := by
  intro k q hq
  have hkn : k < n := by
    rw [← hn]
    exact (List.getElem?_eq_some_iff.mp hq).1
  rcases hall k hkn with hm | hm
  · obtain ⟨j, hj⟩ := List.getElem?_of_mem hm
    have e1 : (pl.map (fun i => ws'[i]?))[j]? = some (ws'[k]?) := by rw [List.getElem?_map, hj]; rfl
    rw [h1, List.getElem?_map, hq] at e1
    obtain ⟨q', hq', e2⟩ := Option.map_eq_some_iff.mp e1
    cases e2
    exact hB j q hq'
  · obtain ⟨j, hj⟩ := List.getElem?_of_mem hm
    have e1 : (pr.map (fun i => ws'[i]?))[j]? = some (ws'[k]?) := by rw [List.getElem?_map, hj]; rfl
    have e2 : (pr.map (fun i => ws[i]?))[j]? = some (ws[k]?) := by rw [List.getElem?_map, hj]; rfl
    rw [hR, e2] at e1
    have hq2 : ws[k]? = some q := (Option.some.inj e1).trans hq
    have hold := hP k q hq2
    refine hold.kept (hk _ hold.lt ?_)
    rintro (⟨z, e, hz⟩ | hz)
    · have e3 : (pl.map (fun i => ws[i]?))[z]? = some (some (q.1, e)) := by rw [hC, List.getElem?_map, hz]; rfl
      rw [List.getElem?_map] at e3
      obtain ⟨i, hi, e4⟩ := Option.map_eq_some_iff.mp e3
      have : i = k := hD.1 i k _ _ e4 hq2 rfl
      subst this
      exact hdis i hm (List.mem_of_getElem? hi)
    · exact absurd hold.lt (Nat.not_lt.mpr hz)
theorem va_D_fst {A : Nat → Prop} {ws ws' : va_W} (hD : va_D A ws) (h : ws'.map (fun q => q.1) = ws.map (fun q => q.1)) : va_D A ws' := by
  have key : ∀ (k : Nat) (q : Nat × va_E), ws'[k]? = some q → ∃ q', ws[k]? = some q' ∧ q'.1 = q.1 := by
    intro k q hq
    have e1 : (ws'.map (fun q => q.1))[k]? = some q.1 := by rw [List.getElem?_map, hq]; rfl
    rw [h, List.getElem?_map] at e1
    obtain ⟨q', h1, h2⟩ := Option.map_eq_some_iff.mp e1
    exact ⟨q', h1, h2⟩
  refine ⟨fun i j p q hp hq e => ?_, fun k q hq => ?_⟩
  · obtain ⟨p', hp', ep⟩ := key i p hp
    obtain ⟨q', hq', eq⟩ := key j q hq
    exact hD.1 i j p' q' hp' hq' (by rw [ep, eq]; exact e)
  · obtain ⟨q', hq', eq⟩ := key k q hq
    rw [← eq]
    exact hD.2 k q' hq'
theorem kI_eq {D : va_G} {cl : List vw_C} {cI cZ cR cJ cA : ClassId} {U : State} (h : va_K D cl (tysL cI cZ cR cJ ++ [(cA, .int)]) U) : cA = cI := Option.some.inj (((h.2 4 (cA, .int) rfl).2 : U.vm.findClass _ = some cA).symm.trans ((h.2 0 (cI, .int) rfl).2 : U.vm.findClass _ = some cI))
theorem kZ_eq {D : va_G} {cl : List vw_C} {cI cZ cR cJ cA : ClassId} {U : State} (h : va_K D cl (tysL cI cZ cR cJ ++ [(cA, .boolean)]) U) : cA = cZ := Option.some.inj (((h.2 4 (cA, .boolean) rfl).2 : U.vm.findClass _ = some cA).symm.trans ((h.2 1 (cZ, .boolean) rfl).2 : U.vm.findClass _ = some cZ))
theorem kJ_eq {D : va_G} {cl : List vw_C} {cI cZ cR cJ cA : ClassId} {U : State} (h : va_K D cl (tysL cI cZ cR cJ ++ [(cA, .long)]) U) : cA = cJ := Option.some.inj (((h.2 4 (cA, .long) rfl).2 : U.vm.findClass _ = some cA).symm.trans ((h.2 3 (cJ, .long) rfl).2 : U.vm.findClass _ = some cJ))
theorem kR_eq {D : va_G} {cl : List vw_C} {cI cZ cR cJ cA : ClassId} {U : State} (h : va_K D cl (tysL cI cZ cR cJ ++ [(cA, .object "SureCount$Race")]) U) : cA = cR := by
  obtain ⟨_, _, _, _, _, h1⟩ := (h.2 4 (cA, .object "SureCount$Race") rfl).2
  obtain ⟨_, _, _, _, _, h2⟩ := (h.2 2 (cR, .object "SureCount$Race") rfl).2
  exact Option.some.inj (h1.symm.trans h2)
theorem nc_I (n : Nat) : ∀ cA : ClassId, vp_cell cA (n, .inl (fun _ => 0)) = arrV cA n (fun _ => defaultValue .int) := fun _ => rfl
theorem nc_Z (n : Nat) : ∀ cA : ClassId, vp_cell cA (n, .inl (fun _ => 0)) = arrV cA n (fun _ => defaultValue .boolean) := fun _ => rfl
theorem nc_J (n : Nat) : ∀ cA : ClassId, vp_cell cA (n, .inr (.inl (fun _ => 0))) = arrV cA n (fun _ => defaultValue .long) := fun _ => rfl
section START
variable {p : Program} {l : Launch} {e : Env} {R : Room} {s : State} {m : MethodId} {args : Array Value} {below : List Frame} {meth : Method} {c : Code} {cells slots : Nat} {Q : State → Prop}
theorem w_start {D : va_G} {ws : va_W} {A : Nat → Prop} {g : JFrame} (hP : va_P D vwCl ws s.heap) (kk : ∀ (H : Heap) (locs : List Loc), va_P D vwCl ws H → va_S A s.heap H locs → W p l e R s m args below meth c H locs cells slots Q g) : W p l e R s m args below meth c s.heap [] cells slots Q g := kk s.heap [] hP va_S.rf
end START
theorem va_Pt {D : va_G} {ws : va_W} {t : State} {H : Heap} (ht : t.heap = H) (hP : va_P D vwCl ws H) : va_P D vwCl ws t.heap := by rw [ht]; exact hP
/-- throws: the world is as it was, beside the new object -/
def xrB (D : va_G) (sz : Nat) (ws : va_W) (G : State → Prop) (A : Nat → Prop) : State → Prop := fun U => U.heap.size = sz ∧ va_P D vwCl ws U.heap ∧ G U ∧ va_D (fun _ => True) ws ∧ vx_Zq Bundle.tN "UNASSIGNED_STACK" Bundle.steD A U U.heap ∧ vx_Zq Bundle.tN "SUPPRESSED_SENTINEL" Bundle.listD A U U.heap
theorem xk {D : va_G} {ws : va_W} {H H1 : Heap} (hP : va_P D vwCl ws H) (hk : ∀ q : Nat, q < H.size → H1[q]? = H[q]?) : va_P D vwCl ws H1 := hP.kept (fun k q hq => hk _ (hP k q hq).lt)
theorem xF {A : Nat → Prop} {s t : State} {H : Heap} {locs : List Loc} (hS : va_S A s.heap H locs) (hz : H.size ≤ t.heap.size) (hk : ∀ q : Nat, q < H.size → t.heap[q]? = H[q]?) : va_F A s t := ⟨Nat.le_trans hS.1 hz, fun q h1 h2 => by rw [hk q (Nat.lt_of_lt_of_le h1 hS.1)]; exact hS.2.1 q h1 h2⟩
abbrev xnames : List String := ["java/lang/RuntimeException", "java/lang/Exception"]
theorem xt_fit : ∀ n ∈ xnames, Bundle.fit n = true := by decide +kernel
theorem xt_all {a : String} {b : Nat} {c d : String} {L : List Cond} (h : ∀ w ∈ L, vx_ot w = true) : ∀ w ∈ Cond.classLink a b c :: Cond.initialized d :: L, vx_ot w = true := by
  intro w hw
  rcases List.mem_cons.mp hw with rfl | hw
  · rfl
  · rcases List.mem_cons.mp hw with rfl | hw
    · rfl
    · exact h w hw
theorem xt_dc {args : Array Value} {U : State} (h : ∀ y ∈ dcL, va_Nw (.declares y) U) : ∀ w ∈ dcL.map Cond.declares, w.before args U = true := by
  intro w hw
  obtain ⟨y, hy, rfl⟩ := List.mem_map.mp hw
  exact va_Nw.use rfl (h y hy)
theorem xt_ok70 : ∀ w ∈ sx_atX RX5 70 "java/util/NoSuchElementException" 13 sx_rx13 "java/lang/RuntimeException" ["java/lang/Exception"], vx_ot w = true := by decide +kernel
theorem xt_ok99 : ∀ w ∈ vx_atS RX5 99 "java/lang/IllegalStateException" xnames, vx_ot w = true := by decide +kernel
theorem xt_ok147 : ∀ w ∈ vx_atS RX5 147 "java/lang/IllegalArgumentException" xnames, vx_ot w = true := by decide +kernel
theorem xt_ng70 : ∀ w ∈ (sx_atX RX5 70 "java/util/NoSuchElementException" 13 sx_rx13 "java/lang/RuntimeException" ["java/lang/Exception"]).filter (fun w => !goodWord w), w ∈ Cond.castable "java/util/NoSuchElementException" "java/util/NoSuchElementException" :: dcL.map Cond.declares := by decide +kernel
theorem xt_ng99 : ∀ w ∈ (vx_atS RX5 99 "java/lang/IllegalStateException" xnames).filter (fun w => !goodWord w), w ∈ Cond.castable "java/lang/IllegalStateException" "java/lang/IllegalStateException" :: dcL.map Cond.declares := by decide +kernel
theorem xt_ng147 : ∀ w ∈ (vx_atS RX5 147 "java/lang/IllegalArgumentException" xnames).filter (fun w => !goodWord w), w ∈ Cond.castable "java/lang/IllegalArgumentException" "java/lang/IllegalArgumentException" :: dcL.map Cond.declares := by decide +kernel
end BASE
