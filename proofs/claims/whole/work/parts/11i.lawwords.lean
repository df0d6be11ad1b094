set_option maxRecDepth 20000 in
theorem wx147_0 : ∀ w ∈ ((vx_atS RX5 147 "java/lang/IllegalArgumentException" ["java/lang/RuntimeException", "java/lang/Exception"]).filter goodWord).take 8, w ∈ lw_tbl := by decide +kernel
set_option maxRecDepth 20000 in
theorem wx147_1 : ∀ w ∈ (((vx_atS RX5 147 "java/lang/IllegalArgumentException" ["java/lang/RuntimeException", "java/lang/Exception"]).filter goodWord).drop 8).take 8, w ∈ lw_tbl := by decide +kernel
set_option maxRecDepth 20000 in
theorem wx147_2 : ∀ w ∈ (((vx_atS RX5 147 "java/lang/IllegalArgumentException" ["java/lang/RuntimeException", "java/lang/Exception"]).filter goodWord).drop 16).take 8, w ∈ lw_tbl := by decide +kernel
set_option maxRecDepth 20000 in
theorem wx147_3 : ∀ w ∈ (((vx_atS RX5 147 "java/lang/IllegalArgumentException" ["java/lang/RuntimeException", "java/lang/Exception"]).filter goodWord).drop 24).take 8, w ∈ lw_tbl := by decide +kernel
set_option maxRecDepth 20000 in
theorem wx147_4 : ∀ w ∈ (((vx_atS RX5 147 "java/lang/IllegalArgumentException" ["java/lang/RuntimeException", "java/lang/Exception"]).filter goodWord).drop 32).take 8, w ∈ lw_tbl := by decide +kernel
set_option maxRecDepth 20000 in
theorem wx147_5 : ∀ w ∈ (((vx_atS RX5 147 "java/lang/IllegalArgumentException" ["java/lang/RuntimeException", "java/lang/Exception"]).filter goodWord).drop 40).take 8, w ∈ lw_tbl := by decide +kernel
set_option maxRecDepth 20000 in
theorem wx147_6 : ∀ w ∈ ((vx_atS RX5 147 "java/lang/IllegalArgumentException" ["java/lang/RuntimeException", "java/lang/Exception"]).filter goodWord).drop 48, w ∈ lw_tbl := by decide +kernel
theorem wy147_5 : ∀ w ∈ (((vx_atS RX5 147 "java/lang/IllegalArgumentException" ["java/lang/RuntimeException", "java/lang/Exception"]).filter goodWord).drop 40), w ∈ lw_tbl := fm_td 8 wx147_5 (fun w h => wx147_6 w (by rw [List.drop_drop] at h; exact h))
theorem wy147_4 : ∀ w ∈ (((vx_atS RX5 147 "java/lang/IllegalArgumentException" ["java/lang/RuntimeException", "java/lang/Exception"]).filter goodWord).drop 32), w ∈ lw_tbl := fm_td 8 wx147_4 (fun w h => wy147_5 w (by rw [List.drop_drop] at h; exact h))
theorem wy147_3 : ∀ w ∈ (((vx_atS RX5 147 "java/lang/IllegalArgumentException" ["java/lang/RuntimeException", "java/lang/Exception"]).filter goodWord).drop 24), w ∈ lw_tbl := fm_td 8 wx147_3 (fun w h => wy147_4 w (by rw [List.drop_drop] at h; exact h))
theorem wy147_2 : ∀ w ∈ (((vx_atS RX5 147 "java/lang/IllegalArgumentException" ["java/lang/RuntimeException", "java/lang/Exception"]).filter goodWord).drop 16), w ∈ lw_tbl := fm_td 8 wx147_2 (fun w h => wy147_3 w (by rw [List.drop_drop] at h; exact h))
theorem wy147_1 : ∀ w ∈ (((vx_atS RX5 147 "java/lang/IllegalArgumentException" ["java/lang/RuntimeException", "java/lang/Exception"]).filter goodWord).drop 8), w ∈ lw_tbl := fm_td 8 wx147_1 (fun w h => wy147_2 w (by rw [List.drop_drop] at h; exact h))
theorem wx147 : ∀ w ∈ ((vx_atS RX5 147 "java/lang/IllegalArgumentException" ["java/lang/RuntimeException", "java/lang/Exception"]).filter goodWord), w ∈ lw_tbl := fm_td 8 wx147_0 wy147_1
