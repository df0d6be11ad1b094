/-! My own rows: a contract over some cells, read as a contract over a larger world. -/
section LIFT
theorem met_mono {l : Launch} {y : MethodName} {ws : List Cond} {rm : Room} {Pc Pc' : Array Value → State → Prop} {Qc Qc' : Array Value → State → Outcome → State → Prop} {mc ms : Nat} {f f' : Addr → Prop} (h : Met l y ws rm Pc Qc mc ms f)
    (hP : ∀ a s, Pc' a s → Pc a s) (hQ : ∀ a s o t, Pc' a s → Qc a s o t → Qc' a s o t) (hf : ∀ q, f q → f' q) : Met l y ws rm Pc' Qc' mc ms f' := by
  intro p e h1 h2 h3 s m args below h4 h5 h6 h7
  obtain ⟨n, o, k1, k2, k3, k4, L, k5, k6⟩ := h p e h1 h2 h3 s m args below h4 h5 (hP _ _ h6) h7
  exact ⟨n, o, k1, k2, k3, hQ _ _ _ _ h6 k4, L, k5, fun q hq => hf _ (k6 q hq)⟩
theorem lf_at {α : Type} {W w : List α} {pl : List Nat} (hC : pl.map (fun i => W[i]?) = w.map some) {k : Nat} {q : α} (hk : w[k]? = some q) : ∃ i, pl[k]? = some i ∧ W[i]? = some q := by
  have e : (pl.map (fun i => W[i]?))[k]? = some (some q) := by rw [hC, List.getElem?_map, hk]; rfl
  rw [List.getElem?_map] at e
  obtain ⟨i, h1, h2⟩ := Option.map_eq_some_iff.mp e
  exact ⟨i, h1, h2⟩
theorem lf_P {D : va_G} {W w : va_W} {H : Heap} {pl : List Nat} (hC : pl.map (fun i => W[i]?) = w.map some) (h : va_P D vwCl W H) : va_P D vwCl w H := by
  intro k q hk
  obtain ⟨i, -, h2⟩ := lf_at hC hk
  exact h i q h2
theorem lf_A {W w : va_W} {sz : Nat} {pl : List Nat} (hC : pl.map (fun i => W[i]?) = w.map some) : ∀ q, va_A w sz q → va_A W sz q := by
  rintro q (⟨k, e, hk⟩ | h)
  · obtain ⟨i, -, h2⟩ := lf_at hC hk
    exact Or.inl ⟨i, e, h2⟩
  · exact Or.inr h
theorem lf_Q {D : va_G} {W W1 w w1 : va_W} {st t : State} {sz : Nat} {oc : Outcome} {r0 : Int32} (pl pr : List Nat) (n : Nat) (hn : W1.length = n) (hC : pl.map (fun i => W[i]?) = w.map some) (h1 : pl.map (fun i => W1[i]?) = w1.map some) (hR : pr.map (fun i => W1[i]?) = pr.map (fun i => W[i]?)) (hall : ∀ k, k < n → k ∈ pl ∨ k ∈ pr) (hdis : ∀ k ∈ pr, k ∉ pl)
    (hz : st.heap.size = sz) (hP : va_P D vwCl W st.heap) (hD : va_D (fun _ => True) W) (hq : va_Qi (fun r (_ : Unit) => r = r0) (fun _ t => va_P D vwCl w1 t.heap) (va_A w sz) #[] st oc t) : va_Qi (fun r (_ : Unit) => r = r0) (fun _ t => va_P D vwCl W1 t.heap) (va_A W sz) #[] st oc t := by
  obtain ⟨⟨r, u, e1, e2, hB⟩, hF1, hF2⟩ := hq
  subst hz
  exact ⟨⟨r, u, e1, e2, wj hP hD hF2 hB pl pr n hn hC h1 hR hall hdis⟩, hF1, fun q a b => hF2 q a (fun z => b (lf_A hC q z))⟩
theorem lift_x {l : Launch} {y : MethodName} {wc : List Cond} {rm : Room} {av : List Value} {D : va_G} {sz mc ms : Nat} {G : State → Prop} {W W1 w w1 : va_W} {r0 : Int32} (h : Met l y wc rm (va_Pc av (xrB D sz w G (va_A w sz))) (va_Qi (fun (r : Int32) (_ : Unit) => r = r0) (fun _ t => va_P D vwCl w1 t.heap) (va_A w sz)) mc ms (va_A w sz))
    (pl pr : List Nat) (n : Nat) (hnd : va_nd pl = true) (hn : W1.length = n) (hC : pl.map (fun i => W[i]?) = w.map some) (h1 : pl.map (fun i => W1[i]?) = w1.map some) (wr : va_W) (hR1 : pr.map (fun i => W1[i]?) = wr.map some) (hR2 : pr.map (fun i => W[i]?) = wr.map some) (hall : ∀ k, k < n → k ∈ pl ∨ k ∈ pr) (hdis : ∀ k ∈ pr, k ∉ pl) :
    Met l y wc rm (va_Pc av (xrB D sz W G (va_A W sz))) (va_Qi (fun (r : Int32) (_ : Unit) => r = r0) (fun _ t => va_P D vwCl W1 t.heap) (va_A W sz)) mc ms (va_A W sz) :=
  met_mono h (fun _ _ z => ⟨z.1, z.2.1, lf_P hC z.2.2.1, z.2.2.2.1, z.2.2.2.2.1.sub pl hnd hC, z.2.2.2.2.2.1.narrow (lf_A hC), z.2.2.2.2.2.2.narrow (lf_A hC)⟩) (fun _ _ _ _ z hq => lf_Q pl pr n hn hC h1 (hR1.trans hR2.symm) hall hdis z.2.1 z.2.2.1 z.2.2.2.2.1 hq) (lf_A hC)
theorem lift_w {l : Launch} {y : MethodName} {wc : List Cond} {rm : Room} {av : List Value} {D : va_G} {sz mc ms : Nat} {G : State → Prop} {W W1 w w1 : va_W} {r0 : Int32} (h : Met l y wc rm (va_Pc av (wrB D sz w G)) (va_Qi (fun (r : Int32) (_ : Unit) => r = r0) (fun _ t => va_P D vwCl w1 t.heap) (va_A w sz)) mc ms (va_A w sz))
    (pl pr : List Nat) (n : Nat) (hnd : va_nd pl = true) (hn : W1.length = n) (hC : pl.map (fun i => W[i]?) = w.map some) (h1 : pl.map (fun i => W1[i]?) = w1.map some) (wr : va_W) (hR1 : pr.map (fun i => W1[i]?) = wr.map some) (hR2 : pr.map (fun i => W[i]?) = wr.map some) (hall : ∀ k, k < n → k ∈ pl ∨ k ∈ pr) (hdis : ∀ k ∈ pr, k ∉ pl) :
    Met l y wc rm (va_Pc av (wrB D sz W G)) (va_Qi (fun (r : Int32) (_ : Unit) => r = r0) (fun _ t => va_P D vwCl W1 t.heap) (va_A W sz)) mc ms (va_A W sz) :=
  met_mono h (fun _ _ z => ⟨z.1, z.2.1, lf_P hC z.2.2.1, z.2.2.2.1, z.2.2.2.2.sub pl hnd hC⟩) (fun _ _ _ _ z hq => lf_Q pl pr n hn hC h1 (hR1.trans hR2.symm) hall hdis z.2.1 z.2.2.1 z.2.2.2.2 hq) (lf_A hC)
/-- which race an index means -/
theorem p5_k {α : Type} {g : Nat → α} {x k : Int32} {n : Nat} {v : α} (h : x = k) (hk : k.toNatClampNeg = n) (hg : g n = v) : vp_in x 5 → g x.toNatClampNeg = v := fun _ => by rw [h, hk, hg]
theorem p5_0 {α : Type} {g : Nat → α} {x : Int32} {v : α} (h1 : ¬ x = (1 : Int32)) (h2 : ¬ x = (2 : Int32)) (h3 : ¬ x = (3 : Int32)) (h4 : ¬ x = (4 : Int32)) (hg : g 0 = v) : vp_in x 5 → g x.toNatClampNeg = v := fun h => by
  obtain ⟨j, hj, rfl⟩ := vp_in_of h (by decide)
  rcases (show j = 0 ∨ j = 1 ∨ j = 2 ∨ j = 3 ∨ j = 4 by omega) with rfl | rfl | rfl | rfl | rfl
  · rw [show (nI 0).toNatClampNeg = 0 from by decide]; exact hg
  · exact absurd (by decide) h1
  · exact absurd (by decide) h2
  · exact absurd (by decide) h3
  · exact absurd (by decide) h4
theorem hF_all {A : Nat → Prop} {ws : va_W} {H0 H : Heap} {locs : List Loc} (hD : va_D A ws) (hS : va_S A H0 H locs) (hA : ∀ q, H0.size ≤ q → A q) : ∀ q, va_A ws H.size q → A q := by
  rintro q (⟨k, e, hk⟩ | h)
  · exact hD.2 k _ hk
  · exact hA q (Nat.le_trans hS.1 h)
end LIFT
abbrev LSt9 : Type := (Nat → Int32) × (Nat → Nat → Int32) × Int64 × Int64 × (Nat → Int64)
abbrev LW (cI cZ cR cJ : ClassId) (ad : Nat → Nat) (S : LSt9) : va_W := [(ad 0, .inr (5, [.ref (ad 1), .ref (ad 37), .ref (ad 44), .ref (ad 46), .ref (ad 49), .int (S.1 0), .int (S.1 1), .int (S.1 2)])), (ad 1, .inl (cR, 5, .inr (.inr (.inr (.inr (va_up (va_up (va_up (va_up (va_up (fun _ => none) 0 (some (ad 2))) 1 (some (ad 9))) 2 (some (ad 16))) 3 (some (ad 23))) 4 (some (ad 30)))))))), (ad 2, .inr (2, [.ref (ad 3), .ref (ad 5), .ref (ad 6), .ref (ad 7), .ref (ad 8), .int (S.1 3), .int (S.1 4), .int (S.1 5), .int (S.1 6), .int (S.1 7)])), (ad 3, .inr (3, [.ref (ad 4)])), (ad 4, .inl (cI, 8, .inl (S.2.1 0))), (ad 5, .inl (cZ, 8, .inl (S.2.1 1))), (ad 6, .inl (cI, 9, .inl (S.2.1 2))), (ad 7, .inl (cI, 9, .inl (S.2.1 3))), (ad 8, .inl (cI, 9, .inl (S.2.1 4))), (ad 9, .inr (2, [.ref (ad 10), .ref (ad 12), .ref (ad 13), .ref (ad 14), .ref (ad 15), .int (S.1 8), .int (S.1 9), .int (S.1 10), .int (S.1 11), .int (S.1 12)])), (ad 10, .inr (3, [.ref (ad 11)])), (ad 11, .inl (cI, 8, .inl (S.2.1 5))), (ad 12, .inl (cZ, 8, .inl (S.2.1 6))), (ad 13, .inl (cI, 9, .inl (S.2.1 7))), (ad 14, .inl (cI, 9, .inl (S.2.1 8))), (ad 15, .inl (cI, 9, .inl (S.2.1 9))), (ad 16, .inr (2, [.ref (ad 17), .ref (ad 19), .ref (ad 20), .ref (ad 21), .ref (ad 22), .int (S.1 13), .int (S.1 14), .int (S.1 15), .int (S.1 16), .int (S.1 17)])), (ad 17, .inr (3, [.ref (ad 18)])), (ad 18, .inl (cI, 8, .inl (S.2.1 10))), (ad 19, .inl (cZ, 8, .inl (S.2.1 11))), (ad 20, .inl (cI, 9, .inl (S.2.1 12))), (ad 21, .inl (cI, 9, .inl (S.2.1 13))), (ad 22, .inl (cI, 9, .inl (S.2.1 14))), (ad 23, .inr (2, [.ref (ad 24), .ref (ad 26), .ref (ad 27), .ref (ad 28), .ref (ad 29), .int (S.1 18), .int (S.1 19), .int (S.1 20), .int (S.1 21), .int (S.1 22)])), (ad 24, .inr (3, [.ref (ad 25)])), (ad 25, .inl (cI, 8, .inl (S.2.1 15))), (ad 26, .inl (cZ, 8, .inl (S.2.1 16))), (ad 27, .inl (cI, 9, .inl (S.2.1 17))), (ad 28, .inl (cI, 9, .inl (S.2.1 18))), (ad 29, .inl (cI, 9, .inl (S.2.1 19))), (ad 30, .inr (2, [.ref (ad 31), .ref (ad 33), .ref (ad 34), .ref (ad 35), .ref (ad 36), .int (S.1 23), .int (S.1 24), .int (S.1 25), .int (S.1 26), .int (S.1 27)])), (ad 31, .inr (3, [.ref (ad 32)])), (ad 32, .inl (cI, 8, .inl (S.2.1 20))), (ad 33, .inl (cZ, 8, .inl (S.2.1 21))), (ad 34, .inl (cI, 9, .inl (S.2.1 22))), (ad 35, .inl (cI, 9, .inl (S.2.1 23))), (ad 36, .inl (cI, 9, .inl (S.2.1 24))), (ad 37, .inr (1, [.ref (ad 38), .ref (ad 39), .ref (ad 40), .ref (ad 41), .ref (ad 42), .ref (ad 43), .int (S.1 28)])), (ad 38, .inl (cI, 300, .inl (S.2.1 25))), (ad 39, .inl (cI, 300, .inl (S.2.1 26))), (ad 40, .inl (cZ, 300, .inl (S.2.1 27))), (ad 41, .inl (cZ, 300, .inl (S.2.1 28))), (ad 42, .inl (cI, 300, .inl (S.2.1 29))), (ad 43, .inl (cI, 900, .inl (S.2.1 30))), (ad 44, .inr (0, [.ref (ad 45), .int (S.1 29), .long (S.2.2.1)])), (ad 45, .inl (cI, 2000, .inl (S.2.1 31))), (ad 46, .inr (4, [.ref (ad 47), .ref (ad 48), .int (S.1 30), .int (S.1 31)])), (ad 47, .inl (cI, 300, .inl (S.2.1 32))), (ad 48, .inl (cI, 300, .inl (S.2.1 33))), (ad 49, .inr (3, [.ref (ad 50)])), (ad 50, .inl (cI, 8, .inl (S.2.1 34))), (ad 51, .inr (6, [.int (S.1 32), .int (S.1 33), .int (S.1 34), .int (S.1 35), .int (S.1 36), .ref (ad 52), .ref (ad 53), .ref (ad 54), .ref (ad 55), .ref (ad 56), .ref (ad 57), .ref (ad 58), .ref (ad 59), .int (S.1 37), .long (S.2.2.2.1), .ref (ad 60), .ref (ad 61), .int (S.1 38), .int (S.1 39), .int (S.1 40), .int (S.1 41), .int (S.1 42)])), (ad 52, .inl (cI, 5, .inl (S.2.1 35))), (ad 53, .inl (cI, 5, .inl (S.2.1 36))), (ad 54, .inl (cI, 300, .inl (S.2.1 37))), (ad 55, .inl (cI, 300, .inl (S.2.1 38))), (ad 56, .inl (cI, 2000, .inl (S.2.1 39))), (ad 57, .inl (cZ, 300, .inl (S.2.1 40))), (ad 58, .inl (cZ, 900, .inl (S.2.1 41))), (ad 59, .inl (cI, 900, .inl (S.2.1 42))), (ad 60, .inl (cI, 7, .inl (S.2.1 43))), (ad 61, .inl (cZ, 7, .inl (S.2.1 44))), (ad 62, .inl (cJ, 1, .inr (.inl (S.2.2.2.2))))]
