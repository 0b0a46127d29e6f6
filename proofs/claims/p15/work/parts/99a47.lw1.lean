set_option maxRecDepth 20000 in
theorem wsL_law0_r1_in : ∀ w ∈ wsL_law0_r1, w ∈ lw_tbl := inPl wsL_law0_r1 [69, 70, 54, 672, 673, 58, 945, 71, 72, 73, 74, 75, 76, 77, 164, 79, 55, 168, 124, 125, 56, 165, 166, 142] rfl
set_option maxRecDepth 20000 in
theorem wsL_law0_r2_in : ∀ w ∈ wsL_law0_r2, w ∈ lw_tbl := inPl wsL_law0_r2 [143, 57, 167, 81, 82, 83, 123, 84, 87, 90, 94, 97, 98, 101, 127, 128, 129, 130, 144, 145, 146, 147, 148, 674] rfl
set_option maxRecDepth 20000 in
theorem wsL_law0_r3_in : ∀ w ∈ wsL_law0_r3, w ∈ lw_tbl := inPl wsL_law0_r3 [675, 676, 677, 679, 680, 681, 682, 684, 685, 687, 689, 691, 696, 697, 698, 700, 191, 192, 53, 193, 194, 195, 196, 197] rfl
set_option maxRecDepth 20000 in
theorem wsL_law0_r4_in : ∀ w ∈ wsL_law0_r4, w ∈ lw_tbl := inPl wsL_law0_r4 [198, 199, 200, 275, 63, 294, 64, 201, 203, 0, 204, 205, 62, 269, 270, 271, 272, 273, 274, 290, 291, 292, 293, 92] rfl
set_option maxRecDepth 20000 in
theorem wsL_law0_r5_in : ∀ w ∈ wsL_law0_r5, w ∈ lw_tbl := inPl wsL_law0_r5 [309, 310, 311, 312, 313, 314, 315, 316, 752, 753, 754, 755, 678, 756, 757, 758, 759, 760, 761, 317, 318, 319, 320, 321] rfl
