set_option maxRecDepth 20000 in
theorem wsL_law0_r16_in : ∀ w ∈ wsL_law0_r16, w ∈ lw_tbl := inPl wsL_law0_r16 [850, 484, 485, 486, 487, 488, 489, 490, 491, 492, 493, 494, 495, 496, 497, 498, 133, 499, 500, 501, 502, 503, 504, 505] rfl
set_option maxRecDepth 20000 in
theorem wsL_law0_r17_in : ∀ w ∈ wsL_law0_r17, w ∈ lw_tbl := inPl wsL_law0_r17 [506, 508, 11, 509, 510, 512, 12, 513, 514, 515, 516, 517, 518, 520, 13, 521, 522, 523, 524, 525, 526, 527, 528, 529] rfl
set_option maxRecDepth 20000 in
theorem wsL_law0_r18_in : ∀ w ∈ wsL_law0_r18, w ∈ lw_tbl := inPl wsL_law0_r18 [530, 851, 852, 853, 854, 686, 855, 857, 41, 858, 859, 861, 42, 862, 863, 865, 43, 866, 867, 868, 869, 871, 44, 872] rfl
set_option maxRecDepth 20000 in
theorem wsL_law0_r19_in : ∀ w ∈ wsL_law0_r19, w ∈ lw_tbl := inPl wsL_law0_r19 [873, 874, 875, 876, 877, 878, 879, 880, 531, 532, 533, 534, 535, 536, 537, 538, 540, 14, 541, 881, 882, 883, 884, 542] rfl
set_option maxRecDepth 20000 in
theorem wsL_law0_r20_in : ∀ w ∈ wsL_law0_r20, w ∈ lw_tbl := inPl wsL_law0_r20 [543, 544, 545, 546, 547, 548, 549, 885, 886, 887, 888, 690, 550, 551, 552, 553, 554, 555, 556, 557, 558, 68, 559, 889] rfl
