set_option maxRecDepth 20000 in
theorem wsL_law0_r11_in : ∀ w ∈ wsL_law0_r11, w ∈ lw_tbl := inPl wsL_law0_r11 [399, 400, 402, 4, 403, 404, 406, 5, 407, 409, 410, 411, 412, 414, 6, 415, 804, 805, 806, 807, 808, 810, 34, 811] rfl
set_option maxRecDepth 20000 in
theorem wsL_law0_r12_in : ∀ w ∈ wsL_law0_r12, w ∈ lw_tbl := inPl wsL_law0_r12 [812, 814, 35, 815, 816, 818, 36, 819, 820, 821, 822, 823, 825, 37, 826, 416, 417, 418, 419, 420, 421, 422, 423, 424] rfl
set_option maxRecDepth 20000 in
theorem wsL_law0_r13_in : ∀ w ∈ wsL_law0_r13, w ∈ lw_tbl := inPl wsL_law0_r13 [425, 426, 427, 428, 429, 430, 431, 66, 446, 447, 448, 449, 450, 452, 7, 453, 454, 456, 8, 457, 827, 828, 829, 830] rfl
set_option maxRecDepth 20000 in
theorem wsL_law0_r14_in : ∀ w ∈ wsL_law0_r14, w ∈ lw_tbl := inPl wsL_law0_r14 [831, 832, 833, 834, 458, 459, 460, 461, 462, 463, 464, 465, 466, 467, 468, 469, 470, 471, 472, 99, 473, 475, 9, 476] rfl
set_option maxRecDepth 20000 in
theorem wsL_law0_r15_in : ∀ w ∈ wsL_law0_r15, w ∈ lw_tbl := inPl wsL_law0_r15 [477, 479, 10, 480, 481, 483, 482, 67, 835, 836, 837, 838, 839, 841, 38, 842, 683, 843, 845, 39, 846, 847, 849, 40] rfl
