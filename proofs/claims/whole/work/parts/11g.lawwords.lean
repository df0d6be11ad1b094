theorem fm_td {α : Type} {p : α → Prop} {L : List α} (n : Nat) (h1 : ∀ w ∈ L.take n, p w) (h2 : ∀ w ∈ L.drop n, p w) : ∀ w ∈ L, p w := fun w h => by
  rw [← List.take_append_drop n L] at h
  exact (List.mem_append.mp h).elim (h1 w) (h2 w)
set_option maxRecDepth 20000 in
theorem wx70_0 : ∀ w ∈ ((sx_atX RX5 70 "java/util/NoSuchElementException" 13 sx_rx13 "java/lang/RuntimeException" ["java/lang/Exception"]).filter goodWord).take 8, w ∈ lw_tbl := by decide +kernel
set_option maxRecDepth 20000 in
theorem wx70_1 : ∀ w ∈ (((sx_atX RX5 70 "java/util/NoSuchElementException" 13 sx_rx13 "java/lang/RuntimeException" ["java/lang/Exception"]).filter goodWord).drop 8).take 8, w ∈ lw_tbl := by decide +kernel
set_option maxRecDepth 20000 in
theorem wx70_2 : ∀ w ∈ (((sx_atX RX5 70 "java/util/NoSuchElementException" 13 sx_rx13 "java/lang/RuntimeException" ["java/lang/Exception"]).filter goodWord).drop 16).take 8, w ∈ lw_tbl := by decide +kernel
set_option maxRecDepth 20000 in
theorem wx70_3 : ∀ w ∈ (((sx_atX RX5 70 "java/util/NoSuchElementException" 13 sx_rx13 "java/lang/RuntimeException" ["java/lang/Exception"]).filter goodWord).drop 24).take 8, w ∈ lw_tbl := by decide +kernel
set_option maxRecDepth 20000 in
theorem wx70_4 : ∀ w ∈ (((sx_atX RX5 70 "java/util/NoSuchElementException" 13 sx_rx13 "java/lang/RuntimeException" ["java/lang/Exception"]).filter goodWord).drop 32).take 8, w ∈ lw_tbl := by decide +kernel
set_option maxRecDepth 20000 in
theorem wx70_5 : ∀ w ∈ (((sx_atX RX5 70 "java/util/NoSuchElementException" 13 sx_rx13 "java/lang/RuntimeException" ["java/lang/Exception"]).filter goodWord).drop 40).take 8, w ∈ lw_tbl := by decide +kernel
set_option maxRecDepth 20000 in
theorem wx70_6 : ∀ w ∈ ((sx_atX RX5 70 "java/util/NoSuchElementException" 13 sx_rx13 "java/lang/RuntimeException" ["java/lang/Exception"]).filter goodWord).drop 48, w ∈ lw_tbl := by decide +kernel
theorem wy70_5 : ∀ w ∈ (((sx_atX RX5 70 "java/util/NoSuchElementException" 13 sx_rx13 "java/lang/RuntimeException" ["java/lang/Exception"]).filter goodWord).drop 40), w ∈ lw_tbl := fm_td 8 wx70_5 (fun w h => wx70_6 w (by rw [List.drop_drop] at h; exact h))
theorem wy70_4 : ∀ w ∈ (((sx_atX RX5 70 "java/util/NoSuchElementException" 13 sx_rx13 "java/lang/RuntimeException" ["java/lang/Exception"]).filter goodWord).drop 32), w ∈ lw_tbl := fm_td 8 wx70_4 (fun w h => wy70_5 w (by rw [List.drop_drop] at h; exact h))
theorem wy70_3 : ∀ w ∈ (((sx_atX RX5 70 "java/util/NoSuchElementException" 13 sx_rx13 "java/lang/RuntimeException" ["java/lang/Exception"]).filter goodWord).drop 24), w ∈ lw_tbl := fm_td 8 wx70_3 (fun w h => wy70_4 w (by rw [List.drop_drop] at h; exact h))
theorem wy70_2 : ∀ w ∈ (((sx_atX RX5 70 "java/util/NoSuchElementException" 13 sx_rx13 "java/lang/RuntimeException" ["java/lang/Exception"]).filter goodWord).drop 16), w ∈ lw_tbl := fm_td 8 wx70_2 (fun w h => wy70_3 w (by rw [List.drop_drop] at h; exact h))
theorem wy70_1 : ∀ w ∈ (((sx_atX RX5 70 "java/util/NoSuchElementException" 13 sx_rx13 "java/lang/RuntimeException" ["java/lang/Exception"]).filter goodWord).drop 8), w ∈ lw_tbl := fm_td 8 wx70_1 (fun w h => wy70_2 w (by rw [List.drop_drop] at h; exact h))
theorem wx70 : ∀ w ∈ ((sx_atX RX5 70 "java/util/NoSuchElementException" 13 sx_rx13 "java/lang/RuntimeException" ["java/lang/Exception"]).filter goodWord), w ∈ lw_tbl := fm_td 8 wx70_0 wy70_1
