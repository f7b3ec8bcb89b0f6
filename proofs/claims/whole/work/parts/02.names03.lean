set_option maxRecDepth 20000 in
theorem wsL_law0_r17_pl : ∀ w ∈ wsL_law0_r17, w ∈ lw_tbl := mem_places [672, 673, 617, 801, 802, 803, 804, 674, 675, 676, 677, 678, 679, 680, 509, 212, 214, 4, 215, 216, 217, 218, 219, 226] (by decide +kernel)
set_option maxRecDepth 20000 in
theorem wsL_law0_r18_pl : ∀ w ∈ wsL_law0_r18, w ∈ lw_tbl := mem_places [494, 220, 221, 222, 223, 224, 225, 227, 229, 5, 230, 498, 620, 616, 231, 233, 6, 234, 496, 481, 500, 506, 504, 502] (by decide +kernel)
set_option maxRecDepth 20000 in
theorem wsL_law0_r19_pl : ∀ w ∈ wsL_law0_r19, w ∈ lw_tbl := mem_places [235, 236, 238, 7, 239, 301, 240, 297, 299, 11, 300, 476, 508, 302, 304, 12, 305, 805, 806, 807, 808, 809, 811, 30] (by decide +kernel)
set_option maxRecDepth 20000 in
theorem wsL_law0_r20_pl : ∀ w ∈ wsL_law0_r20, w ∈ lw_tbl := mem_places [812, 813, 815, 31, 816, 208, 209, 210, 211, 306, 307, 53, 98, 308, 309, 310, 311, 312, 313, 319, 320, 321, 322, 334] (by decide +kernel)
set_option maxRecDepth 20000 in
theorem wsL_law0_r21_pl : ∀ w ∈ wsL_law0_r21, w ∈ lw_tbl := mem_places [336, 323, 325, 13, 326, 329, 327, 328, 330, 332, 14, 333, 478, 485, 337, 339, 15, 340, 512, 515, 341, 343, 16, 344] (by decide +kernel)
set_option maxRecDepth 20000 in
theorem wsL_law0_r22_pl : ∀ w ∈ wsL_law0_r22, w ∈ lw_tbl := mem_places [345, 347, 17, 348, 349, 350, 352, 18, 353, 354, 355, 356, 357, 358, 359, 360, 361, 362, 363, 364, 365, 366, 514, 511] (by decide +kernel)
set_option maxRecDepth 20000 in
theorem wsL_law0_r23_pl : ∀ w ∈ wsL_law0_r23, w ∈ lw_tbl := mem_places [367, 368, 369, 370, 371, 372, 373, 374, 375, 377, 19, 378, 379, 381, 20, 382, 383, 384, 54, 385, 386, 387, 388, 817] (by decide +kernel)
set_option maxRecDepth 20000 in
theorem wsL_law0_r24_pl : ∀ w ∈ wsL_law0_r24, w ∈ lw_tbl := mem_places [818, 819, 820, 389, 390, 391, 392, 100, 821, 822, 823, 824] (by decide +kernel)
