/-! My own rows: a thrown object is taken by a row of the method's own table, behind rows that name other classes. -/
section SXC
/-- It makes no difference to the search that the first row's class is resolved already. -/
theorem sx_warm {Q : Handler → Pre} {E : CtlPost} {e : Env} {b : Bool} {acts : List Action} {S : State} {f : JFrame} {a : Addr} {x : ExceptionTableEntry} {t : List ExceptionTableEntry} {k : ClassId} (hx : covers x f.pc = true) (h0 : x.catchType ≠ 0)
    (hl : S.vm.ClassLinks e.platform f.method.cls x.catchType k) :
    wp (findHandler.go f a (x :: t)) Q E e b acts S ↔ wp (findHandler.go f a (x :: t)) Q E e b acts (S.setVm (S.vm.noted f.method.cls x.catchType (.cls k))) := by
  have cold := (resolveClass_links e.toSetting hl).op (op := .resolveClass f.method.cls x.catchType) rfl
  obtain ⟨z, hz, hm⟩ := hl.ready
  have warm := resolveClass_memo e hz hm
  have hin : (decide (x.startPc ≤ f.pc) && decide (f.pc < x.endPc)) = true := hx
  have twice : ∀ v, (S.setVm v).setVm v = S.setVm v := fun _ => rfl
  simp [findHandler.go, hin, h0, cold.1, cold.2, warm.1, warm.2, twice, VmOp.dirties, VmOp.acts]
/-- The search for an object of class cl, thrown at pc in a method of class d, ends at the handler q: told by the tables as they were at first. -/
def sx_T (pl : Platform) (s : State) (d : ClassId) (pc : Nat) (cl : ClassId) (q : Nat) : List ExceptionTableEntry → Prop
  | [] => False
  | x :: t => if covers x pc = true then x.catchType ≠ 0 ∧ ∃ k, s.vm.ClassLinks pl d x.catchType k ∧ (if s.vm.assignable cl k = true then q = x.handlerPc else sx_T pl s d pc cl q t) else sx_T pl s d pc cl q t
theorem sx_T_of {pl : Platform} {s : State} {d : ClassId} {pc : Nat} {cl k : ClassId} {x : ExceptionTableEntry} {suf : List ExceptionTableEntry} (hx : covers x pc = true) (h0 : x.catchType ≠ 0) (hl : s.vm.ClassLinks pl d x.catchType k) (hfit : s.vm.assignable cl k = true) :
    ∀ pre : List ExceptionTableEntry, (∀ y ∈ pre, covers y pc = false ∨ (y.catchType ≠ 0 ∧ ∃ k, s.vm.ClassLinks pl d y.catchType k ∧ s.vm.assignable cl k = false)) → sx_T pl s d pc cl x.handlerPc (pre ++ x :: suf)
  | [], _ => by
    show ite _ _ _
    rw [if_pos hx]
    exact ⟨h0, k, hl, by rw [if_pos hfit]⟩
  | y :: ys, h => by
    have next := sx_T_of (suf := suf) hx h0 hl hfit ys (fun z hz => h z (.tail _ hz))
    show ite _ _ _
    split
    · rename_i hy
      rcases h y (.head _) with no | ⟨hy0, k', hk', hno⟩
      · rw [no] at hy; cases hy
      · exact ⟨hy0, k', hk', by rw [hno, if_neg (by decide)]; exact next⟩
    · exact next
theorem sx_has {s : State} {v : Vm} (hW : s.WarmedH v) {i : ClassId} (h : ∃ z, s.vm.classes[i]? = some z) : ∃ z, v.classes[i]? = some z := by
  obtain ⟨z, hz⟩ := h
  obtain ⟨y, hy, -⟩ := hW.alike.2.2 _ _ hz
  exact ⟨y, hy⟩
/-- The search, from any state whose tables have only been resolved further. -/
theorem sx_find {e : Env} {s : State} {f : JFrame} {a : Addr} {cell : Cell} {q : Nat} (hobj : cell.vm.isStatics = false) (hc : ∃ z, s.vm.classes[cell.cls]? = some z) :
    ∀ (t : List ExceptionTableEntry) (S : State), sx_T e.platform s f.method.cls f.pc cell.cls q t → s.WarmedH S.vm → S.heap[a]? = some cell →
      ∃ v, s.WarmedH v ∧ ∀ (Q : Handler → Pre) (E : CtlPost) (b : Bool) (acts : List Action), wp (findHandler.go f a t) Q E e b acts S ↔ Q (.found q) b acts (S.setVm v)
  | [], _, h, _, _ => h.elim
  | x :: t, S, h, hW, hS => by
    have h : ite _ _ _ := h
    split at h
    case isFalse hx =>
      obtain ⟨v, hv, go⟩ := sx_find hobj hc t S h hW hS
      exact ⟨v, hv, fun Q E b acts => (W.findHandler_go_skip (by simpa using hx)).trans (go Q E b acts)⟩
    case isTrue hx =>
      obtain ⟨h0, k, hl, hk⟩ := h
      obtain ⟨_, _, _, kk, h1, _, _, _, _, h2, _, h3⟩ := hl.here
      have hlS := hW.classLinks hl
      have hV : s.WarmedH (S.vm.noted f.method.cls x.catchType (.cls k)) := hW.noted h1 h3 (State.rightAt_cls hl)
      have row := fun (Q : Handler → Pre) (E : CtlPost) (b : Bool) (acts : List Action) => (sx_warm (Q := Q) (E := E) (b := b) (acts := acts) (a := a) (t := t) hx h0 hlS).trans
        (W.findHandler_go_class (s := S.setVm (S.vm.noted f.method.cls x.catchType (.cls k))) hx h0 hlS.ready hS (VmData.ne_statics_of hobj) (sx_has hV hc) (sx_has hV ⟨kk, h2⟩))
      have same : (S.setVm (S.vm.noted f.method.cls x.catchType (.cls k))).vm.assignable cell.cls k = s.vm.assignable cell.cls k := hV.alike.assignable _ _
      rw [same] at row
      split at hk
      case isTrue hfit =>
        refine ⟨_, hV, fun Q E b acts => ?_⟩
        rw [row, if_pos hfit, hk]
      case isFalse hno =>
        obtain ⟨v, hv, go⟩ := sx_find hobj hc t (S.setVm (S.vm.noted f.method.cls x.catchType (.cls k))) hk hV hS
        refine ⟨v, hv, fun Q E b acts => ?_⟩
        rw [row, if_neg hno]
        exact go Q E b acts
/-- One step: the note 'a is thrown' gives way to the handler. -/
theorem sx_out {e : Env} {S : State} {f : JFrame} {a : Addr} {q : Nat} {v : Vm} (r : List Frame) (go : ∀ (Q : Handler → Pre) (E : CtlPost) (b : Bool) (acts : List Action), wp (findHandler f a) Q E e b acts S ↔ Q (.found q) b acts (S.setVm v)) :
    (stepThrowing e S a (.java f :: r)).1 = (S.setVm v).setFrames (.java { f with pc := q, stack := [.ref a] } :: r) := by
  show (searchFrame e S [] a f f r).1 = _
  unfold searchFrame vmDo
  split
  all_goals
    rename_i hres
    obtain ⟨as, hok, -⟩ := Sem.eq_ok_of hres (a := Handler.found q) (s' := S.setVm v) (acts' := []) (by simp [go])
    cases hok
  rfl
theorem sx_caught {p : Program} {l : Launch} {e : Env} {R : Room} {s : State} {m : MethodId} {args : Array Value} {below : List Frame} {meth : Method} {c : Code} {T : State} {locs : List Loc} {cells slots : Nat} (X : Stand p l e R s m args below meth c T locs cells slots) (a : Addr) {g : JFrame} (hg : g.method = m)
    {cell : Cell} (hcell : T.heap[a]? = some cell) (hobj : cell.vm.isStatics = false) (hc : ∃ z, s.vm.classes[cell.cls]? = some z) (pre : List ExceptionTableEntry) (x : ExceptionTableEntry) (suf : List ExceptionTableEntry) (hsplit : c.exceptionTable.toList = pre ++ x :: suf)
    (hpre : ∀ y ∈ pre, covers y g.pc = false ∨ (y.catchType ≠ 0 ∧ ∃ k, s.vm.ClassLinks e.platform m.cls y.catchType k ∧ s.vm.assignable cell.cls k = false)) (hx : covers x g.pc = true) (h0 : x.catchType ≠ 0) {k : ClassId} (hl : s.vm.ClassLinks e.platform m.cls x.catchType k) (hfit : s.vm.assignable cell.cls k = true) :
    ∃ v, Stand p l e R s m args below meth c (T.setVm v) locs cells slots ∧ Steps p.tables e below ((T.setTop g).pushFrame (.throwing a)) ((T.setVm v).setTop { g with pc := x.handlerPc, stack := [.ref a] }) := by
  cases hg
  obtain ⟨v, hv, go⟩ := sx_find (e := e) (f := g) (a := a) hobj hc _ ((T.setTop g).pushFrame (.throwing a)) (sx_T_of (suf := suf) hx h0 hl hfit pre hpre) X.warmed hcell
  refine ⟨v, X.noted hv, Steps.head (X.here.throwing a).1 (X.here.throwing a).2 ?_⟩
  rw [stepThread_throwing (frames_entered X.here.top _), sx_out _ (fun Q E b acts => by rw [W.findHandler_eq (s := (T.setTop g).pushFrame (.throwing a)) (meth := meth) (code := c) X.method' X.code, hsplit]; exact go Q E b acts)]
  -- both sides are T with the new tables and the frame at the handler
  obtain ⟨g', hg'⟩ := Option.isSome_iff_exists.mp X.here.top
  obtain ⟨r, hr⟩ := State.topJava?_eq_some.mp hg'
  have left : ∀ F : List Frame, (((T.setTop g).pushFrame (.throwing a)).setVm v).setFrames F = (T.setVm v).setFrames F := fun F => by
    rw [State.setTop_of_frames g hr]
    show ((((T.setVm v).setFrames _).setFrames _)).setFrames F = _
    rw [State.setFrames_setFrames, State.setFrames_setFrames]
  rw [left, State.setTop_of_frames (s := T.setVm v) _ hr, hr, List.tail_cons]
  exact Steps.refl _
end SXC
