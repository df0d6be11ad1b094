theorem fm_td {α : Type} {p : α → Prop} {L : List α} (n : Nat) (h1 : ∀ w ∈ L.take n, p w) (h2 : ∀ w ∈ L.drop n, p w) : ∀ w ∈ L, p w := fun w h => by
  rw [← List.take_append_drop n L] at h
  exact (List.mem_append.mp h).elim (h1 w) (h2 w)
theorem wx70 : ∀ w ∈ ((vx_atS RX5 70 "java/util/NoSuchElementException" ["java/lang/RuntimeException", "java/lang/Exception"]).filter goodWord), w ∈ lw_tbl := by sorry
