set_option maxRecDepth 20000 in
theorem wx99_0 : ∀ w ∈ ((vx_atS RX5 99 "java/lang/IllegalStateException" ["java/lang/RuntimeException", "java/lang/Exception"]).filter goodWord).take 8, w ∈ lw_tbl := by decide +kernel
set_option maxRecDepth 20000 in
theorem wx99_1 : ∀ w ∈ (((vx_atS RX5 99 "java/lang/IllegalStateException" ["java/lang/RuntimeException", "java/lang/Exception"]).filter goodWord).drop 8).take 8, w ∈ lw_tbl := by decide +kernel
set_option maxRecDepth 20000 in
theorem wx99_2 : ∀ w ∈ (((vx_atS RX5 99 "java/lang/IllegalStateException" ["java/lang/RuntimeException", "java/lang/Exception"]).filter goodWord).drop 16).take 8, w ∈ lw_tbl := by decide +kernel
set_option maxRecDepth 20000 in
theorem wx99_3 : ∀ w ∈ (((vx_atS RX5 99 "java/lang/IllegalStateException" ["java/lang/RuntimeException", "java/lang/Exception"]).filter goodWord).drop 24).take 8, w ∈ lw_tbl := by decide +kernel
set_option maxRecDepth 20000 in
theorem wx99_4 : ∀ w ∈ (((vx_atS RX5 99 "java/lang/IllegalStateException" ["java/lang/RuntimeException", "java/lang/Exception"]).filter goodWord).drop 32).take 8, w ∈ lw_tbl := by decide +kernel
set_option maxRecDepth 20000 in
theorem wx99_5 : ∀ w ∈ (((vx_atS RX5 99 "java/lang/IllegalStateException" ["java/lang/RuntimeException", "java/lang/Exception"]).filter goodWord).drop 40).take 8, w ∈ lw_tbl := by decide +kernel
set_option maxRecDepth 20000 in
theorem wx99_6 : ∀ w ∈ ((vx_atS RX5 99 "java/lang/IllegalStateException" ["java/lang/RuntimeException", "java/lang/Exception"]).filter goodWord).drop 48, w ∈ lw_tbl := by decide +kernel
theorem wy99_5 : ∀ w ∈ (((vx_atS RX5 99 "java/lang/IllegalStateException" ["java/lang/RuntimeException", "java/lang/Exception"]).filter goodWord).drop 40), w ∈ lw_tbl := fm_td 8 wx99_5 (fun w h => wx99_6 w (by rw [List.drop_drop] at h; exact h))
theorem wy99_4 : ∀ w ∈ (((vx_atS RX5 99 "java/lang/IllegalStateException" ["java/lang/RuntimeException", "java/lang/Exception"]).filter goodWord).drop 32), w ∈ lw_tbl := fm_td 8 wx99_4 (fun w h => wy99_5 w (by rw [List.drop_drop] at h; exact h))
theorem wy99_3 : ∀ w ∈ (((vx_atS RX5 99 "java/lang/IllegalStateException" ["java/lang/RuntimeException", "java/lang/Exception"]).filter goodWord).drop 24), w ∈ lw_tbl := fm_td 8 wx99_3 (fun w h => wy99_4 w (by rw [List.drop_drop] at h; exact h))
theorem wy99_2 : ∀ w ∈ (((vx_atS RX5 99 "java/lang/IllegalStateException" ["java/lang/RuntimeException", "java/lang/Exception"]).filter goodWord).drop 16), w ∈ lw_tbl := fm_td 8 wx99_2 (fun w h => wy99_3 w (by rw [List.drop_drop] at h; exact h))
theorem wy99_1 : ∀ w ∈ (((vx_atS RX5 99 "java/lang/IllegalStateException" ["java/lang/RuntimeException", "java/lang/Exception"]).filter goodWord).drop 8), w ∈ lw_tbl := fm_td 8 wx99_1 (fun w h => wy99_2 w (by rw [List.drop_drop] at h; exact h))
theorem wx99 : ∀ w ∈ ((vx_atS RX5 99 "java/lang/IllegalStateException" ["java/lang/RuntimeException", "java/lang/Exception"]).filter goodWord), w ∈ lw_tbl := fm_td 8 wx99_0 wy99_1
