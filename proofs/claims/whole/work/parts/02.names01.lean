theorem mem_places {big ws : List Cond} (ps : List Nat) (hp : ws = ps.filterMap (fun i => big[i]?)) : ∀ w ∈ ws, w ∈ big := by
  intro w hw
  rw [hp] at hw
  obtain ⟨i, -, hi⟩ := List.mem_filterMap.mp hw
  exact List.mem_of_getElem? hi
set_option maxRecDepth 20000 in
theorem wsL_law0_r1_pl : ∀ w ∈ wsL_law0_r1, w ∈ lw_tbl := mem_places [55, 56, 33, 681, 682, 38, 825, 57, 58, 59, 60, 61, 62, 63, 64, 36, 112, 89, 90, 37, 113, 114, 115, 116] (by decide +kernel)
set_option maxRecDepth 20000 in
theorem wsL_law0_r2_pl : ∀ w ∈ wsL_law0_r2, w ∈ lw_tbl := mem_places [117, 118, 119, 120, 65, 66, 67, 75, 77, 68, 69, 35, 70, 79, 71, 72, 34, 73, 74, 92, 93, 94, 95, 97] (by decide +kernel)
set_option maxRecDepth 20000 in
theorem wsL_law0_r3_pl : ∀ w ∈ wsL_law0_r3, w ∈ lw_tbl := mem_places [99, 101, 102, 96, 683, 684, 685, 686, 736, 691, 692, 693, 694, 737, 695, 696, 697, 698, 700, 701, 702, 393, 394, 32] (by decide +kernel)
set_option maxRecDepth 20000 in
theorem wsL_law0_r4_pl : ∀ w ∈ wsL_law0_r4, w ∈ lw_tbl := mem_places [395, 396, 397, 398, 399, 400, 401, 42, 174, 469, 43, 475, 156, 157, 158, 159, 78, 470, 471, 472, 473, 480, 482, 490] (by decide +kernel)
set_option maxRecDepth 20000 in
theorem wsL_law0_r5_pl : ∀ w ∈ wsL_law0_r5, w ∈ lw_tbl := mem_places [493, 495, 497, 499, 501, 503, 505, 507, 510, 513, 474, 477, 484, 487, 551, 241, 242, 243, 80, 81, 244, 246, 8, 247] (by decide +kernel)
set_option maxRecDepth 20000 in
theorem wsL_law0_r6_pl : ∀ w ∈ wsL_law0_r6, w ∈ lw_tbl := mem_places [248, 250, 9, 251, 252, 254, 10, 255, 295, 260, 45, 261, 296, 256, 257, 44, 258, 259, 262, 263, 264, 265, 266, 267] (by decide +kernel)
set_option maxRecDepth 20000 in
theorem wsL_law0_r7_pl : ∀ w ∈ wsL_law0_r7, w ∈ lw_tbl := mem_places [46, 268, 269, 829, 270, 282, 283, 284, 285, 286, 288, 289, 290, 291, 292, 294, 293, 47, 552, 554, 22, 555, 742, 743] (by decide +kernel)
set_option maxRecDepth 20000 in
theorem wsL_law0_r8_pl : ∀ w ∈ wsL_law0_r8, w ∈ lw_tbl := mem_places [744, 745, 688, 690, 746, 748, 24, 749, 687, 738, 739, 740, 741, 556, 557, 558, 559, 560, 561, 562, 563, 564, 589, 51] (by decide +kernel)
