set_option maxRecDepth 20000 in
theorem wsL_law0_r21_in : ∀ w ∈ wsL_law0_r21, w ∈ lw_tbl := inPl wsL_law0_r21 [890, 891, 892, 560, 561, 562, 563, 564, 565, 566, 184, 185, 186, 187, 567, 568, 569, 570, 149, 150, 152, 151, 571, 573] rfl
set_option maxRecDepth 20000 in
theorem wsL_law0_r22_in : ∀ w ∈ wsL_law0_r22, w ∈ lw_tbl := inPl wsL_law0_r22 [15, 574, 575, 577, 16, 578, 579, 581, 17, 582, 583, 585, 18, 586, 587, 589, 19, 590, 596, 597, 598, 599, 591, 593] rfl
set_option maxRecDepth 20000 in
theorem wsL_law0_r23_in : ∀ w ∈ wsL_law0_r23, w ∈ lw_tbl := inPl wsL_law0_r23 [20, 594, 595, 600, 602, 21, 603, 604, 606, 22, 607, 608, 609, 611, 23, 612, 613, 614, 615, 616, 617, 618, 620, 24] rfl
set_option maxRecDepth 20000 in
theorem wsL_law0_r24_in : ∀ w ∈ wsL_law0_r24, w ∈ lw_tbl := inPl wsL_law0_r24 [621, 623, 624, 625, 627, 25, 628, 631, 633, 26, 634, 635, 637, 27, 638, 639, 640, 641, 642, 643, 644, 646, 28, 647] rfl
set_option maxRecDepth 20000 in
theorem wsL_law0_r25_in : ∀ w ∈ wsL_law0_r25, w ∈ lw_tbl := inPl wsL_law0_r25 [648, 893, 894, 895, 896, 693, 692, 695, 897, 899, 45, 900, 694, 699, 914, 901, 903, 46, 904, 905, 907, 47, 908, 909] rfl
