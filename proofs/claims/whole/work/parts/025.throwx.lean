/-! My own rows: 'throw new E("text")' where E's constructor calls its super constructor by the pool number ix (bytes rx); the printed rows know 7 alone. -/
section SXT
def sx_rx13 : ByteArray := ⟨#[0x2a, 0x2b, 0xb7, 0x00, 0x0d, 0xb1]⟩
theorem sx_d0 : decode sx_rx13 0 = .ok (.aload_n 0, 1) := by decide +kernel
theorem sx_d1 : decode sx_rx13 1 = .ok (.aload_n 1, 1) := by decide +kernel
theorem sx_d2 : decode sx_rx13 2 = .ok (.invokespecial 13, 3) := by decide +kernel
theorem sx_d5 : decode sx_rx13 5 = .ok (.return_, 1) := by decide +kernel
def sx_chain (X : String) (ix : Nat) (rx : ByteArray) (Y : String) (r : List String) : List Cond := Bundle.passSAtoms X Y ix rx ++ Bundle.chainSAtoms Y r
/-- what the library wants of a thrown class, ahead of its own words: Throwable's words, and the constructors that pass the text on -/
def sx_head (X : String) : List Cond := Bundle.throwableAtoms ++ Bundle.throwableSAtoms ++ Bundle.chainSAtoms X []
/-- .. and its own words -/
def sx_tail (own : String) (ic : Nat) (X : String) : List Cond := (Bundle.ownAtoms own ic X []).drop (sx_head X).length
def sx_own (own : String) (ic : Nat) (X : String) (ix : Nat) (rx : ByteArray) (Y : String) (r : List String) : List Cond :=
  Bundle.throwableAtoms ++ Bundle.throwableSAtoms ++ sx_chain X ix rx Y r ++ sx_tail own ic X
def sx_atX (own : String) (ic : Nat) (X : String) (ix : Nat) (rx : ByteArray) (Y : String) (r : List String) : List Cond := (sx_own own ic X ix rx Y r).filter vx_no
/-- the constructors from X on, each passing the text to the next -/
theorem sx_chain_ok {args : Array Value} {s : State} {pl : Platform} (hpl : pl.magicAccessors = ({} : Platform).magicAccessors) {top : MethodId} (htop : s.methodNamed? (Bundle.initS Bundle.tN) = some top)
    {ix : Nat} {rx : ByteArray} (x0 : decode rx 0 = .ok (.aload_n 0, 1)) (x1 : decode rx 1 = .ok (.aload_n 1, 1)) (x2 : decode rx 2 = .ok (.invokespecial ix, 3)) (x5 : decode rx 5 = .ok (.return_, 1))
    {X Y : String} {r : List String} (hX : Bundle.fit X = true) (hY : Bundle.fit Y = true) (hr : ∀ n ∈ r, Bundle.fit n = true) (h : ∀ c ∈ sx_chain X ix rx Y r, c.before args s = true) :
    ∃ Ps : List PassC, Ps.length = r.length + 2 ∧ (∀ P, P ∈ Ps → P.LinksS pl s) ∧ PassesOn top (Ps.map (·.toPassT)) ∧ s.methodNamed? (Bundle.initS X) = some (firstOf top (Ps.map (·.toPassT))) := by
  obtain ⟨P, L, hm, hs⟩ := PassC.ofS_atoms (args := args) (s := s) hpl (X := X) (Y := Y) (Bundle.fit_spec hX).1 (Bundle.fit_spec hY).2 x0 x1 x2 x5 (fun c hc => h c (List.mem_append_left _ hc))
  obtain ⟨P', Ps, hlen, L', hL, hm', hsup, hpass⟩ := Bundle.chainS (args := args) hpl htop r Y hY hr (fun c hc => h c (List.mem_append_right _ hc))
  refine ⟨P :: P' :: Ps, by simp [hlen], ?_, ⟨Option.some.inj (hs.symm.trans hm'), hsup, hpass⟩, hm⟩
  intro Q hQ
  rcases List.mem_cons.mp hQ with rfl | hQ
  · exact L
  rcases List.mem_cons.mp hQ with rfl | hQ
  · exact L'
  · exact hL Q hQ
/-- a method that class X doesn't override is selected as itself -/
theorem sx_sel {l : Launch} {e : Env} {args : Array Value} {s : State} {X : String} {x : MethodName} {cX : ClassId} {mt : MethodId} (hA : l.admits e) (hX : s.vm.findClass X = some cX) (hm : s.methodNamed? x = some mt)
    (hx : x.cls ≠ "java/lang/invoke/MethodHandle" ∧ x.cls ≠ "java/lang/invoke/VarHandle") (h : (Cond.selects X x x).holds args s none s [] = true) : selectMethod e.platform s.vm cX mt = .method mt := by
  obtain ⟨c', r', m', h1, h2, h3, h4, -⟩ := Cond.selects_spec h
  rw [hX] at h1
  rw [State.methodFound?_of_named hm hx] at h2
  rw [hm] at h3
  rw [Launch.admits_selectMethod hA, Option.some.inj h1, Option.some.inj h2, h4, ← Option.some.inj h3, ← Option.some.inj h2]
/-- field f lies in the objects of class cX (k), and the slot is told to be of its name -/
def sx_lies (s : State) (cX : ClassId) (k : Class) (f : Field) : Prop := k.instanceTypes[f.slot]? = some f.type ∧ ∃ d, Jmm.declares? s.vm f.slot (cX + 1) cX = some d ∧ d.2.name = f.name
theorem sx_apart {s : State} {cX : ClassId} {k : Class} {f g : Field} (hf : sx_lies s cX k f) (hg : sx_lies s cX k g) {nf ng : String} (ef : f.name = nf) (eg : g.name = ng) (hne : nf ≠ ng) : f.slot ≠ g.slot := by
  obtain ⟨-, d, h1, h2⟩ := hf
  obtain ⟨-, d', h3, h4⟩ := hg
  exact Cond.laysApart h1 h3 h2 h4 (by rw [ef, eg]; exact hne)
/-- three stores into other slots leave the slot of f at null, as the new object has it -/
theorem sx_null {s : State} {cX : ClassId} {k : Class} {T : ThrowableT} {f : Field} {n : String} (hf : sx_lies s cX k f) (ht : f.type = .object n) (h1 : f.slot ≠ T.fCause.slot) (h2 : f.slot ≠ T.fStack.slot) (h3 : f.slot ≠ T.fSupp.slot)
    {a : Addr} {u w : RefV} {th : ThreadId} : ((preparedCellV T (freshCell cX k) a u w).withEntry th).slots[f.slot]? = some .null := by
  have h0 : (freshCell cX k).slots[f.slot]? = some .null := by rw [fresh_default hf.1, ht]; rfl
  show ((((freshCell cX k).slots.setIfInBounds T.fCause.slot (.ref a)).setIfInBounds T.fStack.slot u.v).setIfInBounds T.fSupp.slot w.v)[f.slot]? = some .null
  rw [Array.getElem?_setIfInBounds_ne (Ne.symm h3), Array.getElem?_setIfInBounds_ne (Ne.symm h2), Array.getElem?_setIfInBounds_ne (Ne.symm h1), h0]
set_option maxHeartbeats 1000000 in
/-- invokespecial of the constructor, then athrow: the new object is thrown; no old cell changes -/
theorem sx_ctor {p : Program} {l : Launch} {e : Env} {R : Room} {s : State} {m : MethodId} {args : Array Value} {below : List Frame} {meth : Method} {c : Code} {W : State} {cells slots : Nat} (X : Stand p l e R s m args below meth c W [] cells slots)
    (hexec : p.tables.exec = Jvm.exec) (htr : e.platform.stackTraces = false) (hlocks : meth.locks = false) {own cls Y : String} {r : List String} {ic ix : Nat} {rx : ByteArray}
    (x0 : decode rx 0 = .ok (.aload_n 0, 1)) (x1 : decode rx 1 = .ok (.aload_n 1, 1)) (x2 : decode rx 2 = .ok (.invokespecial ix, 3)) (x5 : decode rx 5 = .ok (.return_, 1))
    (hown : s.vm.findClass own = some m.cls) (hcls : Bundle.fit cls = true) (hY : Bundle.fit Y = true) (hr : ∀ n ∈ r, Bundle.fit n = true) (h : ∀ w ∈ sx_own own ic cls ix rx Y r, w.before args s = true)
    {a sa : Addr} {cX : ClassId} {kX : Class} (hfX : s.vm.findClass cls = some cX) (hkX : s.vm.classes[cX]? = some kX) (hcell : W.heap[a]? = some (freshCell cX kX)) (hnew : s.heap.size ≤ a)
    {pc : Nat} {ls : Array Slot} {rest : List Value} (hsize : ls.size = c.maxLocals) (d0 : decode c.code pc = .ok (.invokespecial ic, 3)) (d3 : decode c.code (pc + 3) = .ok (.athrow, 1)) (hout : ∀ x ∈ c.exceptionTable.toList, covers x (pc + 3) = false)
    (hRf : r.length + 4 < R.frames) (hRl : (rest.map fun v => v.category).sum + (13 * (r.length + 2) + 43) ≤ R.locals) :
    ∃ (U : State) (ce : Cell), Steps p.tables e below (W.setTop { method := m, pc := pc, locals := ls, stack := .ref sa :: .ref a :: .ref a :: rest, locked := none }) U ∧ U.status = .running ∧ Ended U below (.threw a) ∧ s.WarmedH U.vm ∧
      s.sameButNew ({ U with vm := s.vm } : State) [] cells slots ∧ U.heap[a]? = some ce ∧ ce.vm = .none ∧ ce.cls = cX := by
  have hpl : e.platform.magicAccessors = ({} : Platform).magicAccessors := by rw [X.admits.platform]
  -- the words, by their lists
  have hT : ∀ w ∈ Bundle.throwableAtoms, w.before args s = true := fun w hw => h w (by simp [sx_own, hw])
  have hS : ∀ w ∈ Bundle.throwableSAtoms, w.before args s = true := fun w hw => h w (by simp [sx_own, hw])
  have hC : ∀ w ∈ sx_chain cls ix rx Y r, w.before args s = true := fun w hw => h w (by simp [sx_own, hw])
  have hD : ∀ w ∈ sx_tail own ic cls, w.holds args s none s [] = true := fun w hw => h w (by simp [sx_own, hw])
  rw [sx_tail, Bundle.ownAtoms, sx_head, List.drop_left] at hD
  simp only [List.forall_mem_cons] at hD
  obtain ⟨wLink, wInst, -, wFill0, wFill, wCause, wStack, wSupp, wMsg, wUn, wSe, wBackL, wBackT, wBack, -⟩ := hD
  have wIm : (Cond.instanceMethod (Bundle.initS cls)).before args s = true := hC _ (by simp [sx_chain, Bundle.passSAtoms])
  have wCode : (Cond.code (Bundle.initS cls) rx 2 none).before args s = true := hC _ (by simp [sx_chain, Bundle.passSAtoms])
  -- Throwable, and the constructors on the way to it
  obtain ⟨T, Z0, L, -, Q⟩ := ThrowableC.of_atoms (args := args) (pl := e.platform) (by rw [X.admits.platform]) (by rw [X.admits.platform]) hpl hT
  obtain ⟨Z, M, LZ, LM, hZ⟩ := Init0T.ofS_atoms (args := args) hpl L Q hS
  obtain ⟨Ps, hlen, hPs, hon, hfirst⟩ := sx_chain_ok (args := args) hpl hZ x0 x1 x2 x5 hcls hY hr hC
  -- the new object's class and fields
  obtain ⟨c', k', e1, e2, hord, -, -, -⟩ := Cond.instantiable_spec wInst
  rw [hfX] at e1
  cases e1
  rw [hkX] at e2
  cases e2
  obtain ⟨iM, hM⟩ := Q.msg
  obtain ⟨ci, iB, fB, b1, b2, b3, b4, -, b5, b6, hB⟩ := Cond.ownField (t := .object "java/lang/Object") Q.found L.cls (by decide +kernel) wBackL wBackT e.platform hpl
  have yC : sx_lies s cX kX T.fCause := Cond.laysAt hfX hkX Q.cause wCause
  have yS : sx_lies s cX kX T.fStack := Cond.laysAt hfX hkX Q.stack wStack
  have yP : sx_lies s cX kX T.fSupp := Cond.laysAt hfX hkX Q.supp wSupp
  have yM : sx_lies s cX kX T.fMsg := Cond.laysAt hfX hkX hM wMsg
  have yB : sx_lies s cX kX fB := Cond.laysAt hfX hkX hB wBack
  -- Throwable's statics: the cell is old, and as it was
  obtain ⟨z0, hz0, hzs⟩ := Q.statics
  obtain ⟨u, hu⟩ := Cond.staticRefV Q.unassigned L.unassignedStatic L.statics hz0 hzs wUn
  obtain ⟨w, hw⟩ := Cond.staticRefV Q.sentinel L.sentinelStatic L.statics hz0 hzs wSe
  obtain ⟨z, hz, hze, -, hzk⟩ := X.same.2.2.2.2.2 T.aS z0 hz0
  have hzn : z.vm ≠ .unknown := by
    intro hn
    have : z0.vm = .unknown := by rw [hze] at hn; exact hn
    rw [this] at hzs
    cases hzs
  have hza : T.aS ≠ a := Nat.ne_of_lt (Nat.lt_of_lt_of_le (Array.getElem?_eq_some_iff.mp hz0).1 hnew)
  have hskip : SkipFacts T e.platform s (fun v => v) u ((preparedCellV T.toThrowableT (freshCell cX kX) a u w).withEntry W.cur) :=
    ⟨⟨ci, iB, fB⟩, ⟨b1, b2, b3, b4⟩, sx_null yB b6 (sx_apart yB yC b5 Q.causeName (by decide)) (sx_apart yB yS b5 Q.stackName (by decide)) (sx_apart yB yP b5 Q.suppName (by decide)), fun _ _ => rfl⟩
  -- the three steps: into the constructor, through it, athrow
  obtain ⟨tm, _, _, _, vm1, n1, -, -, -, -, -, -, -, hW1, go1⟩ := Steps.initColdS (tb := p.tables) (e := e) (below := below) (s := s) (U := W) X.here hexec X.warmed hpl hown (t := Bundle.initS cls) rfl rfl (Bundle.fit_spec hcls).2 wLink wIm wCode
    (f := { method := m, pc := pc, locals := ls, stack := .ref sa :: .ref a :: .ref a :: rest, locked := none }) rfl rfl d0
  rw [hfirst] at n1
  cases n1
  obtain ⟨vm2, X2, go2⟩ := (X.noted hW1).ctorMessageOffV hexec (g := { method := m, pc := pc, locals := ls, stack := .ref a :: rest, locked := none }) rfl hsize T L Z LZ M LM Ps hPs hon (u0 := u) (sen := w) (self := a) (msg := .ref sa) rfl
    hcell (fun _ => by simp) (by simp) rfl rfl (sx_sel X.admits hfX Q.fill0 (by decide) wFill0) (sx_sel X.admits hfX Q.fill (by decide) wFill) hz hza hzn
    ((hzk _ (List.not_mem_nil)).trans hu) ((hzk _ (List.not_mem_nil)).trans hw)
    (Takes.of_laid hkX hord yC.1 (by rw [Q.causeType]; rfl)) (Takes.of_laid hkX hord yS.1 (by rw [Q.stackType]; exact fits_refV_array _ u)) (Takes.of_laid hkX hord yP.1 (by rw [Q.suppType]; exact fits_refV_object _ w))
    (Takes.of_laid hkX hord yM.1 (by rw [Q.msgType]; rfl)) Q.objLocals hskip htr [] d0 (by omega)
    (by have hcat : (Value.ref a).category = 1 := rfl
        simp only [List.map_cons, List.sum_cons, hcat, hlen]; omega)
  obtain ⟨go3, hrun, hend, hW3, hsame⟩ := X2.athrowLeaves hexec (g := { method := m, pc := pc + 3, locals := ls, stack := .ref a :: rest, locked := none }) rfl rfl rfl hout rfl d3 hlocks
  refine ⟨_, _, go1 _ (fun acts => ?_), hrun, hend, hW3, hsame.weaken (fun y hy hlt => ?_) (Nat.le_refl _) (Nat.le_refl _), heapAt_setCell_self _ (Array.getElem?_eq_some_iff.mp hcell).1, rfl, rfl⟩
  · rw [doInvoke_state]
    exact go2 _ go3
  · have hb : y.base = a := by
      simp only [List.nil_append, List.mem_cons, List.not_mem_nil, or_false] at hy
      rcases hy with rfl | rfl | rfl | rfl | rfl <;> rfl
    rw [hb] at hlt
    exact absurd hlt (Nat.not_lt.mpr hnew)
theorem sx_inst {own : String} {ic : Nat} {X : String} {ix : Nat} {rx : ByteArray} {Y : String} {r : List String} : Cond.instantiable X 6 ∈ sx_own own ic X ix rx Y r := by
  refine List.mem_append_right _ ?_
  rw [sx_tail, Bundle.ownAtoms, sx_head, List.drop_left]
  simp
theorem sx_throwS {p : Program} {l : Launch} {e : Env} {R : Room} {s : State} {m : MethodId} {args : Array Value} {below : List Frame} {meth : Method} {c : Code} {H : Heap} {locs : List Loc} {cells slots : Nat} {free : Addr → Prop} {ls : Array Slot} {rest : List Value} {Qc : Array Value → State → Outcome → State → Prop} {XC : String → State → State → Prop} {cc : ByteArray} {pc : Nat} (hexec : p.tables.exec = Jvm.exec) (hb : c.code = cc) (hl : l.stackTraces = false) {own cls text : String} {Y0 : String} {r0 : List String} {ik is ic ix mc ms sa : Nat} {rx : ByteArray} (x0 : decode rx 0 = .ok (.aload_n 0, 1)) (x1 : decode rx 1 = .ok (.aload_n 1, 1)) (x2 : decode rx 2 = .ok (.invokespecial ix, 3)) (x5 : decode rx 5 = .ok (.return_, 1)) {A : Nat → Prop}
    (hown : s.vm.findClass own = some m.cls) (hcls : Bundle.fit cls = true) (hY0 : Bundle.fit Y0 = true) (hr0 : ∀ n ∈ r0, Bundle.fit n = true)
    (hk : (Cond.classLink own ik cls).before args s = true) (hini : (Cond.initialized cls).before args s = true) (hstr : vk_R own is text sa s) (hat : ∀ w ∈ sx_atX own ic cls ix rx Y0 r0, w.before args s = true)
    (hgood : ∀ w ∈ Cond.classLink own ik cls :: Cond.initialized cls :: sx_atX own ic cls ix rx Y0 r0, vx_ot w = true)
    (hU : vx_Zq Bundle.tN "UNASSIGNED_STACK" Bundle.steD A s s.heap) (hN : vx_Zq Bundle.tN "SUPPRESSED_SENTINEL" Bundle.listD A s s.heap) (hS : va_S A s.heap H locs) (hsize : ls.size = c.maxLocals)
    (d0 : decode cc pc = .ok (.new ik, 3)) (d3 : decode cc (pc + 3) = .ok (.dup, 1)) (d4 : decode cc (pc + 4) = .ok (.ldc is, 2)) (d6 : decode cc (pc + 6) = .ok (.invokespecial ic, 3)) (d9 : decode cc (pc + 9) = .ok (.athrow, 1))
    (hout : ∀ x ∈ c.exceptionTable.toList, covers x (pc + 9) = false)
    (hRframes : (r0.length + 1) + 3 < R.frames) (hRlocals : (rest.map fun v => v.category).sum + (13 * ((r0.length + 1) + 1) + 43) ≤ R.locals) (hRcells : cells + 1 ≤ R.cells) (hRslots : slots + 6 ≤ R.slots) (hlocks : meth.locks = false)
    (hx : ∀ t : State, s.vm.Alike t.vm → H.size ≤ t.heap.size → (∀ q : Nat, q < H.size → t.heap[q]? = H[q]?) → XC cls s t)
    (hf : ∀ z ∈ locs, free z.base) (hc : cells + 1 ≤ mc) (hs : slots + 6 ≤ ms) :
    W p l e R s m args below meth c H locs cells slots (vx_MQ below Qc XC args s mc ms free) (F0 m pc ls rest) := by
  intro T hT X
  have htr : e.platform.stackTraces = false := (show e.platform.stackTraces = l.stackTraces by rw [X.admits.platform]).trans hl
  have Y := vx_rebase X (R' := { frames := R.frames, locals := R.locals, cells := 1, slots := 6 }) (Nat.le_refl _) (Nat.le_refl _) hRcells hRslots
  obtain ⟨s', hA⟩ : ∃ z, z = (T.setVm s.vm).setFrames (.invoking m args :: below) := ⟨_, rfl⟩
  rw [← hA] at Y
  have hvm : s'.vm = s.vm := by rw [hA]; rfl
  have hhp : s'.heap = H := by rw [hA]; exact hT
  have hW0 : s.WarmedH s'.vm := by rw [hvm]; exact State.WarmedH.refl s
  have hat' : ∀ w ∈ sx_atX own ic cls ix rx Y0 r0, w.before args s' = true := fun w hw => vx_ot_at hW0 hvm.symm (hgood w (List.mem_cons_of_mem _ (List.mem_cons_of_mem _ hw))) (hat w hw)
  have hk' : (Cond.classLink own ik cls).before args s' = true := vx_ot_at hW0 hvm.symm (hgood _ List.mem_cons_self) hk
  have hini' : (Cond.initialized cls).before args s' = true := vx_ot_at hW0 hvm.symm (hgood _ (List.mem_cons_of_mem _ List.mem_cons_self)) hini
  have hU' : vx_Zq Bundle.tN "UNASSIGNED_STACK" Bundle.steD A s' s'.heap := by rw [hhp]; exact vx_Zq.moved hW0.alike (hU.kept hS.2.1)
  have hN' : vx_Zq Bundle.tN "SUPPRESSED_SENTINEL" Bundle.listD A s' s'.heap := by rw [hhp]; exact vx_Zq.moved hW0.alike (hN.kept hS.2.1)
  have h : ∀ w ∈ sx_own own ic cls ix rx Y0 r0, w.before args s' = true := vx_own hat' (vx_isRefq hU'.1) (vx_isRefq hN'.1) hU'.2.word hN'.2.word
  have hown' : s'.vm.findClass own = some m.cls := by rw [hvm]; exact hown
  have hins : (Cond.instantiable cls 6).before args s' = true := h _ sx_inst
  obtain ⟨vm₁, cX, kX, hfX, hkX, -, -, X₁, st1⟩ := Y.newCold hexec (own := own) (C := cls) (index := ik) (n := 6) hown' hk' hins hini'
    (g := F0 m pc ls rest) rfl (by rw [hb]; exact d0) (Nat.le_refl _) (Nat.le_refl _)
  generalize hT1 : (T.setVm vm₁).pushCell { cls := cX, slots := kX.instanceTypes.map defaultValue, vm := .none } = T1 at X₁ st1
  have hcat : (Value.ref T.heap.size).category = 1 := rfl
  have hcellA : T1.heap[T.heap.size]? = some (freshCell cX kX) := by rw [← hT1]; exact State.heap_pushCell_size _ _
  have d3' : decode c.code (pc + 3) = .ok (.dup, 1) := by rw [hb]; exact d3
  have d4' : decode c.code (pc + 4) = .ok (.ldc is, 2) := by rw [hb]; exact d4
  have hstr' : vk_R own is text sa s' := vk_R.warm hW0 hstr
  obtain ⟨U, ce, hsteps, hrun, hend, hW, hsame, hce, hOv, hOc⟩ := sx_ctor X₁ hexec htr hlocks x0 x1 x2 x5 hown' hcls hY0 hr0 h hfX hkX hcellA (by rw [hhp, hT]; exact Nat.le_refl _) (sa := sa) (pc := pc + 6) (rest := rest) hsize
    (by rw [hb]; exact d6) (by rw [hb]; exact d9) hout (by omega) (by omega)
  obtain ⟨f1, f2⟩ := vx_frame hsame
  rw [hhp] at f1 f2
  have hWs : s.WarmedH U.vm := State.WarmedH.trans hW0 hW
  have hcl : s.vm.findClass cls = some ce.cls := by
    have h9 : s'.vm.findClass cls = some ce.cls := by rw [hOc]; exact hfX
    rw [hvm] at h9
    exact h9
  have hall : s.sameButNew ({ U with vm := s.vm } : State) locs mc ms := by
    subst hA
    obtain ⟨e1, e2⟩ := hsame
    rw [State.setFrames_setFrames] at e1
    have h2 : (T.setVm s.vm).sameButNew ({ U with vm := s.vm } : State) [] (0 + 1) (0 + 6) := ⟨e1, e2⟩
    have h3 := X.same.trans h2
    rw [List.append_nil] at h3
    exact h3.mono hc hs
  refine ⟨U, ?_, .threw T.heap.size, hrun, hend, Or.inr ⟨T.heap.size, rfl, cls, ce, locs, hx U hWs.alike f1 (fun q hq => f2 q hq (fun z hz => nomatch hz)), hce, hOv, hcl, hWs, hall, hf⟩⟩
  refine st1 _ ?_
  show Steps p.tables e below (T1.setTop { method := m, pc := pc + 3, locals := ls, stack := .ref T.heap.size :: rest, locked := none }) _
  jvm_step X₁.here [X₁.here.top, hexec, d3', Value.category]
  exact X₁.ldcString hexec (own := own) (text := text) (index := is) (a := sa) hown' hstr'.1 hstr'.2
    (g := { method := m, pc := pc + 4, locals := ls, stack := .ref T.heap.size :: .ref T.heap.size :: rest, locked := none }) rfl d4' _ hsteps
end SXT
