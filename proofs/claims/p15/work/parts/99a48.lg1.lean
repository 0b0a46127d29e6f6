set_option maxRecDepth 20000 in
theorem ggL_law_X4_set : GoodIn wsL_law wsX4_set := goodIn_r _ [153, 108, 53, 154, 155, 156, 5, 157, 109, 110, 111, 158, 159, 160, 161, 52, 51, 162, 163, 164, 165, 166, 167, 168, 112, 113, 114, 169, 170, 171, 172, 671, 672, 673, 674, 675, 676, 677, 678, 679, 680, 681, 682, 683, 684, 685, 686, 687, 688, 689, 690, 691, 692, 693] rfl (by decide +kernel)
set_option maxRecDepth 20000 in
theorem ggL_law_L_at : GoodIn wsL_law wsL_at := goodIn_ca (goodIn_r _ [175, 68, 176, 177, 178, 2, 179, 79, 80, 81, 82, 83, 84, 14, 122, 123, 124, 125, 126, 127, 16, 128, 35, 129, 34, 31, 130, 131, 132, 133, 134, 135, 136, 137, 95, 138, 139, 140, 141, 142, 143, 144, 145, 85, 86, 87, 88, 89, 90, 146, 147, 148, 149, 33, 694, 695, 696, 697, 698, 699, 700, 701, 702, 703, 666, 667, 668, 669, 670] rfl (by decide +kernel)) (goodIn_sub (fun _ h => List.mem_append_left _ (List.mem_append_right _ h)) (by decide +kernel))
set_option maxRecDepth 20000 in
theorem ggL_law_X4_at : GoodIn wsL_law wsX4_at := goodIn_r _ [183, 108, 53, 154, 155, 156, 5, 157, 109, 110, 111, 158, 159, 160, 161, 52, 51, 162, 163, 164, 165, 166, 167, 168, 112, 113, 114, 169, 170, 171, 172, 671, 672, 673, 674, 675, 676, 677, 678, 679, 680, 681, 682, 683, 684, 685, 686, 687, 688, 689, 690, 691, 692, 693] rfl (by decide +kernel)
set_option maxRecDepth 20000 in
theorem ggL_law_L_root : GoodIn wsL_law wsL_root := goodIn_ca (goodIn_r _ [186, 68, 187, 188, 189, 2, 190, 83, 84, 79, 80, 81, 82, 14, 694, 695, 696, 697, 698, 699, 700, 701, 702, 703, 666, 667, 668, 669, 670] rfl (by decide +kernel)) (goodIn_sub (fun _ h => List.mem_append_left _ (List.mem_append_right _ h)) (by decide +kernel))
set_option maxRecDepth 20000 in
theorem ggL_law_X4_root : GoodIn wsL_law wsX4_root := goodIn_r _ [194, 108, 54, 109, 110, 5, 111, 671, 672, 673, 674, 675, 676, 677, 678, 679, 680, 681, 682, 683, 684, 685, 686, 687, 688, 689, 690, 691, 692, 693] rfl (by decide +kernel)
