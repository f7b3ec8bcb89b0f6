theorem wsL_law_x0 : ∀ w ∈ (vx_atS RX4 50 "java/lang/IllegalArgumentException" ["java/lang/RuntimeException", "java/lang/Exception"]).filter goodWord, w ∈ lw_tbl := by decide +kernel
