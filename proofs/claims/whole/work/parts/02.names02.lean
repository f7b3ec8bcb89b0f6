set_option maxRecDepth 20000 in
theorem wsL_law0_r9_pl : ∀ w ∈ wsL_law0_r9, w ∈ lw_tbl := mem_places [483, 565, 567, 23, 568, 569, 48, 174, 160, 161, 162, 163, 164, 165, 49, 166, 167, 168, 50, 169, 170, 171, 172, 173] (by decide +kernel)
set_option maxRecDepth 20000 in
theorem wsL_law0_r10_pl : ∀ w ∈ wsL_law0_r10, w ∈ lw_tbl := mem_places [585, 586, 587, 588, 183, 184, 185, 186, 605, 606, 607, 608, 609, 610, 52, 611, 612, 613, 614, 615, 618, 619, 750, 751] (by decide +kernel)
set_option maxRecDepth 20000 in
theorem wsL_law0_r11_pl : ∀ w ∈ wsL_law0_r11, w ∈ lw_tbl := mem_places [752, 753, 689, 754, 756, 25, 757, 758, 760, 26, 761, 629, 630, 631, 632, 633, 634, 635, 636, 637, 638, 639, 762, 763] (by decide +kernel)
set_option maxRecDepth 20000 in
theorem wsL_law0_r12_pl : ∀ w ∈ wsL_law0_r12, w ∈ lw_tbl := mem_places [764, 765, 640, 641, 642, 643, 644, 645, 646, 479, 486, 766, 767, 768, 769, 649, 650, 651, 652, 653, 654, 655, 489, 148] (by decide +kernel)
set_option maxRecDepth 20000 in
theorem wsL_law0_r13_pl : ∀ w ∈ wsL_law0_r13, w ∈ lw_tbl := mem_places [150, 1, 151, 152, 154, 2, 155, 492, 175, 177, 3, 178, 179, 180, 181, 182, 187, 188, 189, 190, 621, 191, 192, 193] (by decide +kernel)
set_option maxRecDepth 20000 in
theorem wsL_law0_r14_pl : ∀ w ∈ wsL_law0_r14, w ∈ lw_tbl := mem_places [194, 491, 195, 196, 197, 198, 488, 770, 771, 772, 773, 774, 776, 27, 777, 699, 778, 780, 28, 781, 782, 783, 784, 785] (by decide +kernel)
set_option maxRecDepth 20000 in
theorem wsL_law0_r15_pl : ∀ w ∈ wsL_law0_r15, w ∈ lw_tbl := mem_places [787, 29, 788, 656, 657, 658, 659, 660, 661, 662, 789, 790, 791, 792, 140, 141, 142, 143, 144, 146, 0, 147, 199, 200] (by decide +kernel)
set_option maxRecDepth 20000 in
theorem wsL_law0_r16_pl : ∀ w ∈ wsL_law0_r16, w ∈ lw_tbl := mem_places [201, 202, 203, 793, 794, 795, 796, 204, 205, 206, 207, 797, 798, 799, 800, 663, 664, 665, 666, 667, 668, 669, 670, 671] (by decide +kernel)
