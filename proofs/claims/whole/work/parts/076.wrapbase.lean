/-! My own rows for the law's small methods: a call that may throw, and what it gives. -/
section WRAPB
theorem xr_blind {av : List Value} {dC : Nat → ClassId} {dI : Nat → Nat → Nat} {cI cZ cR cJ : ClassId} {sz : Nat} {ws : va_W} {A : Nat → Prop} : FrameBlind (va_Pc av (xrB (dC, dI) sz ws (GG dC dI cI cZ cR cJ) A)) := fun _ U g mk h => ⟨h.1, h.2.1, h.2.2.1, h.2.2.2.1.calling, h.2.2.2.2.1, vx_Zq.moved (u := U) (Vm.Alike.refl U.vm) h.2.2.2.2.2.1, vx_Zq.moved (u := U) (Vm.Alike.refl U.vm) h.2.2.2.2.2.2⟩
theorem xr_pre {s : State} {H : Heap} {locs : List Loc} {av : List Value} {A A0 : Nat → Prop} {dC : Nat → ClassId} {dI : Nat → Nat → Nat} {cI cZ cR cJ : ClassId} {ws : va_W} (hP : va_P (dC, dI) vwCl ws H) (hG : GG dC dI cI cZ cR cJ s) (hD : va_D A ws)
    (hU : vx_Zq Bundle.tN "UNASSIGNED_STACK" Bundle.steD A0 s s.heap) (hN : vx_Zq Bundle.tN "SUPPRESSED_SENTINEL" Bundle.listD A0 s s.heap) (hS : va_S A0 s.heap H locs) (hF : ∀ q, va_A ws H.size q → A0 q) : ∀ U : State, U.heap = H → s.WarmedH U.vm → va_Pc av (xrB (dC, dI) H.size ws (GG dC dI cI cZ cR cJ) (va_A ws H.size)) av.toArray U := fun _ hX hW =>
  ⟨rfl, by rw [hX], by rw [hX]; exact hP, hG.warm hW, hD.weaken (fun _ _ _ _ => trivial), by rw [hX]; exact ((hU.kept (fun a h1 h2 => hS.2.1 a h1 h2)).narrow hF).moved hW.alike, by rw [hX]; exact ((hN.kept (fun a h1 h2 => hS.2.1 a h1 h2)).narrow hF).moved hW.alike⟩
/-- thrown, or answered -/
def exc {α : Type} (x : String ⊕ Int32) (g : String → Option α) (h : Int32 → Option α) : Option α := match x with
  | .inl E => g E
  | .inr r => h r
theorem exc_l {α : Type} {x : String ⊕ Int32} {g : String → Option α} {h : Int32 → Option α} {E : String} (e : x = .inl E) : exc x g h = g E := by subst e; rfl
theorem exc_r {α : Type} {x : String ⊕ Int32} {g : String → Option α} {h : Int32 → Option α} {r : Int32} (e : x = .inr r) : exc x g h = h r := by subst e; rfl
end WRAPB
