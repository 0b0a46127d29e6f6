set_option maxRecDepth 20000 in
theorem wsL_law0_r26_in : ∀ w ∈ wsL_law0_r26, w ∈ lw_tbl := inPl wsL_law0_r26 [911, 48, 912, 913, 915, 917, 49, 918, 919, 920, 921, 923, 50, 924, 925, 927, 51, 928, 748, 749, 750, 751, 649, 650] rfl
set_option maxRecDepth 20000 in
theorem wsL_law0_r27_in : ∀ w ∈ wsL_law0_r27, w ∈ lw_tbl := inPl wsL_law0_r27 [651, 652, 653, 654, 655, 656, 657, 658, 659, 660, 662, 29, 663, 929, 930, 931, 932, 688, 664, 665, 666, 667, 668, 669] rfl
set_option maxRecDepth 20000 in
theorem wsL_law0_r28_in : ∀ w ∈ wsL_law0_r28, w ∈ lw_tbl := inPl wsL_law0_r28 [670, 671, 933, 934, 935, 936, 937, 939, 52, 940, 180, 181, 182, 183, 941, 942, 943, 944] rfl
