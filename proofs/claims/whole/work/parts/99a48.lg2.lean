set_option maxRecDepth 20000 in
theorem ggL_law_X4_root : GoodIn wsL_law wsX4_root := goodIn_r _ [198, 108, 54, 109, 110, 5, 111, 671, 672, 673, 674, 675, 676, 677, 678, 679, 680, 681, 682, 683, 684, 685, 686, 687, 688, 689, 690, 691, 692, 693] rfl (by decide +kernel)
set_option maxRecDepth 20000 in
theorem ggL_law_L_poke : GoodIn wsL_law wsL_poke := goodIn_ca (goodIn_r _ [201, 68, 202, 203, 204, 2, 205, 79, 80, 81, 82, 83, 84, 14, 206, 207, 208, 694, 695, 696, 697, 698, 699, 700, 701, 702, 703, 666, 667, 668, 669, 670] rfl (by decide +kernel)) (goodIn_sub (fun _ h => List.mem_append_left _ (List.mem_append_right _ h)) (by decide +kernel))
set_option maxRecDepth 20000 in
theorem ggL_law_X4_poke : GoodIn wsL_law wsX4_poke := goodIn_r _ [212, 108, 53, 213, 214, 5, 215, 109, 110, 111, 671, 672, 673, 674, 675, 676, 677, 678, 679, 680, 681, 682, 683, 684, 685, 686, 687, 688, 689, 690, 691, 692, 693] rfl (by decide +kernel)
set_option maxRecDepth 20000 in
theorem ggL_law_L_word : GoodIn wsL_law wsL_word := goodIn_ca (goodIn_r _ [218, 68, 219, 220, 221, 2, 222, 79, 80, 81, 82, 83, 84, 14, 206, 207, 208, 694, 695, 696, 697, 698, 699, 700, 701, 702, 703, 666, 667, 668, 669, 670] rfl (by decide +kernel)) (goodIn_sub (fun _ h => List.mem_append_left _ (List.mem_append_right _ h)) (by decide +kernel))
set_option maxRecDepth 20000 in
theorem ggL_law_X4_word : GoodIn wsL_law wsX4_word := goodIn_r _ [226, 108, 53, 213, 214, 5, 215, 109, 110, 111, 671, 672, 673, 674, 675, 676, 677, 678, 679, 680, 681, 682, 683, 684, 685, 686, 687, 688, 689, 690, 691, 692, 693] rfl (by decide +kernel)
