set_option maxRecDepth 20000 in
theorem ggL_law_L_poke : GoodIn wsL_law wsL_poke := goodIn_ca (goodIn_r _ [197, 68, 198, 199, 200, 2, 201, 79, 80, 81, 82, 83, 84, 14, 202, 203, 204, 694, 695, 696, 697, 698, 699, 700, 701, 702, 703, 666, 667, 668, 669, 670] rfl (by decide +kernel)) (goodIn_sub (fun _ h => List.mem_append_left _ (List.mem_append_right _ h)) (by decide +kernel))
set_option maxRecDepth 20000 in
theorem ggL_law_X4_poke : GoodIn wsL_law wsX4_poke := goodIn_r _ [208, 108, 53, 209, 210, 5, 211, 109, 110, 111, 671, 672, 673, 674, 675, 676, 677, 678, 679, 680, 681, 682, 683, 684, 685, 686, 687, 688, 689, 690, 691, 692, 693] rfl (by decide +kernel)
set_option maxRecDepth 20000 in
theorem ggL_law_L_word : GoodIn wsL_law wsL_word := goodIn_ca (goodIn_r _ [214, 68, 215, 216, 217, 2, 218, 79, 80, 81, 82, 83, 84, 14, 202, 203, 204, 694, 695, 696, 697, 698, 699, 700, 701, 702, 703, 666, 667, 668, 669, 670] rfl (by decide +kernel)) (goodIn_sub (fun _ h => List.mem_append_left _ (List.mem_append_right _ h)) (by decide +kernel))
set_option maxRecDepth 20000 in
theorem ggL_law_X4_word : GoodIn wsL_law wsX4_word := goodIn_r _ [222, 108, 53, 209, 210, 5, 211, 109, 110, 111, 671, 672, 673, 674, 675, 676, 677, 678, 679, 680, 681, 682, 683, 684, 685, 686, 687, 688, 689, 690, 691, 692, 693] rfl (by decide +kernel)
set_option maxRecDepth 20000 in
theorem ggL_law_L_check : GoodIn wsL_law wsL_check := goodIn_ca (goodIn_r _ [225, 68, 226, 227, 228, 2, 229, 79, 80, 81, 82, 83, 84, 14, 230, 231, 232, 16, 233, 95, 31, 129, 34, 32, 234, 126, 127, 128, 35, 130, 131, 132, 133, 134, 135, 136, 137, 138, 139, 140, 141, 142, 143, 144, 145, 85, 86, 87, 88, 89, 90, 235, 236, 237, 238, 239, 240, 241, 242, 243, 244, 245, 246, 247, 248, 249, 250, 251, 147, 148, 149, 33, 252, 253, 254, 255, 666, 667, 668, 669, 670, 694, 695, 696, 697, 698, 699, 700, 701, 702, 703] rfl (by decide +kernel)) (goodIn_sub (fun _ h => List.mem_append_left _ (List.mem_append_right _ h)) (by decide +kernel))
