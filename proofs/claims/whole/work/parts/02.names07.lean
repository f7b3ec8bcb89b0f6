theorem wsL_law_x1 : ∀ w ∈ (vx_atS RX4 84 "java/lang/IllegalStateException" ["java/lang/RuntimeException", "java/lang/Exception"]).filter goodWord, w ∈ lw_tbl := by decide +kernel
