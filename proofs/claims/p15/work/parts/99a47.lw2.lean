set_option maxRecDepth 20000 in
theorem wsL_law0_r6_in : ∀ w ∈ wsL_law0_r6, w ∈ lw_tbl := inPl wsL_law0_r6 [322, 323, 324, 325, 326, 327, 328, 329, 330, 95, 188, 189, 65, 190, 331, 333, 2, 334, 336, 337, 338, 339, 340, 341] rfl
set_option maxRecDepth 20000 in
theorem wsL_law0_r7_in : ∀ w ∈ wsL_law0_r7, w ∈ lw_tbl := inPl wsL_law0_r7 [342, 343, 345, 346, 347, 348, 762, 763, 764, 765, 766, 768, 30, 769, 770, 772, 31, 773, 774, 776, 32, 777, 778, 779] rfl
set_option maxRecDepth 20000 in
theorem wsL_law0_r8_in : ∀ w ∈ wsL_law0_r8, w ∈ lw_tbl := inPl wsL_law0_r8 [780, 781, 783, 33, 784, 349, 350, 351, 352, 353, 354, 355, 785, 786, 787, 788, 356, 357, 358, 359, 360, 361, 362, 789] rfl
set_option maxRecDepth 20000 in
theorem wsL_law0_r9_in : ∀ w ∈ wsL_law0_r9, w ∈ lw_tbl := inPl wsL_law0_r9 [790, 791, 792, 363, 364, 365, 366, 367, 368, 369, 370, 371, 372, 793, 794, 795, 796, 797, 798, 799, 373, 374, 375, 376] rfl
set_option maxRecDepth 20000 in
theorem wsL_law0_r10_in : ∀ w ∈ wsL_law0_r10, w ∈ lw_tbl := inPl wsL_law0_r10 [377, 378, 379, 800, 801, 802, 803, 380, 381, 382, 383, 384, 385, 386, 387, 388, 389, 390, 391, 392, 394, 3, 395, 398] rfl
