set_option maxRecDepth 20000 in
theorem ggL_law_X3_clear : GoodIn wsL_law wsX3_clear := goodIn_r _ [661, 14, 21, 22, 490, 491, 492, 16, 493, 31, 32, 33, 95, 130, 131, 132, 133, 666, 667, 668, 669, 670, 704, 705, 694, 695, 696, 697, 698, 699, 700, 701, 702, 703] rfl (by decide +kernel)
set_option maxRecDepth 20000 in
theorem ggL_law_X4_clear : GoodIn wsL_law wsX4_clear := goodIn_r _ [665, 108, 53, 54, 51, 52, 413, 467, 671, 672, 673, 674, 675, 676, 677, 678, 679, 680, 681, 682, 683, 684, 685, 686, 687, 688, 689, 690, 691, 692, 693] rfl (by decide +kernel)
