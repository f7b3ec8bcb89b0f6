set_option maxRecDepth 20000 in
theorem wsX40_pl : ∀ w ∈ wsX40, w ∈ lw_tbl := mem_places [121, 123, 125, 127, 129, 131, 133, 135, 137] (by decide +kernel)
set_option maxRecDepth 20000 in
theorem wsX50_pl : ∀ w ∈ wsX50, w ∈ lw_tbl := mem_places [703, 705, 707, 709, 711, 713, 715, 717, 719, 721, 723, 725, 727, 729, 731, 733] (by decide +kernel)
set_option maxRecDepth 20000 in
theorem wsJx4a65c0_pl : ∀ w ∈ wsJx4a65c0, w ∈ lw_tbl := mem_places [86, 82, 84] (by decide +kernel)
set_option maxRecDepth 20000 in
theorem wsX30_pl : ∀ w ∈ wsX30, w ∈ lw_tbl := mem_places [103, 105, 107, 109] (by decide +kernel)
set_option maxRecDepth 20000 in
theorem wsX10_pl : ∀ w ∈ wsX10, w ∈ lw_tbl := mem_places [516, 518, 520, 522, 524, 526, 528, 530, 532, 534, 536, 538, 540, 542, 544, 546, 548] (by decide +kernel)
set_option maxRecDepth 20000 in
theorem wsX00_pl : ∀ w ∈ wsX00, w ∈ lw_tbl := mem_places [622, 624, 626] (by decide +kernel)
set_option maxRecDepth 20000 in
theorem wsX20_pl : ∀ w ∈ wsX20, w ∈ lw_tbl := mem_places [314, 316] (by decide +kernel)
