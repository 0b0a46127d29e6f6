def ql_q87_cX2_tellsObject : List (Nat × Jvm.ClassFile.Instr × Nat) := [(36, .iconst 0, 1), (37, .ireturn, 1), (38, .lload_n 3, 1), (39, .aload_n 0, 1), (40, .getfield 22, 3), (43, .i2l, 1), (44, .lcmp, 1), (45, .ifCond .ne 13, 3), (48, .aload_n 0, 1), (49, .dup, 1), (50, .getfield 22, 3), (53, .iconst 1, 1), (54, .iadd, 1), (55, .putfield 22, 3), (58, .iconst 1, 1), (59, .ireturn, 1)]
theorem qt_q87_cX2_tellsObject : dcAll cX2_tellsObject ql_q87_cX2_tellsObject = true := by decide +kernel
theorem dX2_tellsObject_36 : decode cX2_tellsObject 36 = .ok (.iconst 0, 1) := dc_of qt_q87_cX2_tellsObject 0 rfl
theorem dX2_tellsObject_37 : decode cX2_tellsObject 37 = .ok (.ireturn, 1) := dc_of qt_q87_cX2_tellsObject 1 rfl
theorem dX2_tellsObject_38 : decode cX2_tellsObject 38 = .ok (.lload_n 3, 1) := dc_of qt_q87_cX2_tellsObject 2 rfl
theorem dX2_tellsObject_39 : decode cX2_tellsObject 39 = .ok (.aload_n 0, 1) := dc_of qt_q87_cX2_tellsObject 3 rfl
theorem dX2_tellsObject_40 : decode cX2_tellsObject 40 = .ok (.getfield 22, 3) := dc_of qt_q87_cX2_tellsObject 4 rfl
theorem dX2_tellsObject_43 : decode cX2_tellsObject 43 = .ok (.i2l, 1) := dc_of qt_q87_cX2_tellsObject 5 rfl
theorem dX2_tellsObject_44 : decode cX2_tellsObject 44 = .ok (.lcmp, 1) := dc_of qt_q87_cX2_tellsObject 6 rfl
theorem dX2_tellsObject_45 : decode cX2_tellsObject 45 = .ok (.ifCond .ne 13, 3) := dc_of qt_q87_cX2_tellsObject 7 rfl
theorem dX2_tellsObject_48 : decode cX2_tellsObject 48 = .ok (.aload_n 0, 1) := dc_of qt_q87_cX2_tellsObject 8 rfl
theorem dX2_tellsObject_49 : decode cX2_tellsObject 49 = .ok (.dup, 1) := dc_of qt_q87_cX2_tellsObject 9 rfl
theorem dX2_tellsObject_50 : decode cX2_tellsObject 50 = .ok (.getfield 22, 3) := dc_of qt_q87_cX2_tellsObject 10 rfl
theorem dX2_tellsObject_53 : decode cX2_tellsObject 53 = .ok (.iconst 1, 1) := dc_of qt_q87_cX2_tellsObject 11 rfl
theorem dX2_tellsObject_54 : decode cX2_tellsObject 54 = .ok (.iadd, 1) := dc_of qt_q87_cX2_tellsObject 12 rfl
theorem dX2_tellsObject_55 : decode cX2_tellsObject 55 = .ok (.putfield 22, 3) := dc_of qt_q87_cX2_tellsObject 13 rfl
theorem dX2_tellsObject_58 : decode cX2_tellsObject 58 = .ok (.iconst 1, 1) := dc_of qt_q87_cX2_tellsObject 14 rfl
theorem dX2_tellsObject_59 : decode cX2_tellsObject 59 = .ok (.ireturn, 1) := dc_of qt_q87_cX2_tellsObject 15 rfl
def ql_q88_cX2_numberOf : List (Nat × Jvm.ClassFile.Instr × Nat) := [(0, .lload_n 0, 1), (1, .iconst 2, 1), (2, .lshr, 1), (3, .l2i, 1), (4, .istore_n 2, 1), (5, .lload_n 0, 1), (6, .ldc2_w 95, 3), (9, .land, 1), (10, .lconst 1, 1), (11, .lcmp, 1), (12, .ifCond .ne 7, 3), (15, .iload_n 2, 1), (16, .goto 6, 3), (19, .iconst (-1), 1), (20, .iload_n 2, 1), (21, .isub, 1), (22, .istore_n 3, 1), (23, .iconst 2, 1), (24, .iload_n 3, 1), (25, .imul, 1), (26, .iconst 1, 1), (27, .iadd, 1), (28, .ireturn, 1)]
theorem qt_q88_cX2_numberOf : dcAll cX2_numberOf ql_q88_cX2_numberOf = true := by decide +kernel
theorem dX2_numberOf_0 : decode cX2_numberOf 0 = .ok (.lload_n 0, 1) := dc_of qt_q88_cX2_numberOf 0 rfl
theorem dX2_numberOf_1 : decode cX2_numberOf 1 = .ok (.iconst 2, 1) := dc_of qt_q88_cX2_numberOf 1 rfl
theorem dX2_numberOf_2 : decode cX2_numberOf 2 = .ok (.lshr, 1) := dc_of qt_q88_cX2_numberOf 2 rfl
theorem dX2_numberOf_3 : decode cX2_numberOf 3 = .ok (.l2i, 1) := dc_of qt_q88_cX2_numberOf 3 rfl
theorem dX2_numberOf_4 : decode cX2_numberOf 4 = .ok (.istore_n 2, 1) := dc_of qt_q88_cX2_numberOf 4 rfl
theorem dX2_numberOf_5 : decode cX2_numberOf 5 = .ok (.lload_n 0, 1) := dc_of qt_q88_cX2_numberOf 5 rfl
theorem dX2_numberOf_6 : decode cX2_numberOf 6 = .ok (.ldc2_w 95, 3) := dc_of qt_q88_cX2_numberOf 6 rfl
theorem dX2_numberOf_9 : decode cX2_numberOf 9 = .ok (.land, 1) := dc_of qt_q88_cX2_numberOf 7 rfl
theorem dX2_numberOf_10 : decode cX2_numberOf 10 = .ok (.lconst 1, 1) := dc_of qt_q88_cX2_numberOf 8 rfl
theorem dX2_numberOf_11 : decode cX2_numberOf 11 = .ok (.lcmp, 1) := dc_of qt_q88_cX2_numberOf 9 rfl
theorem dX2_numberOf_12 : decode cX2_numberOf 12 = .ok (.ifCond .ne 7, 3) := dc_of qt_q88_cX2_numberOf 10 rfl
theorem dX2_numberOf_15 : decode cX2_numberOf 15 = .ok (.iload_n 2, 1) := dc_of qt_q88_cX2_numberOf 11 rfl
theorem dX2_numberOf_16 : decode cX2_numberOf 16 = .ok (.goto 6, 3) := dc_of qt_q88_cX2_numberOf 12 rfl
theorem dX2_numberOf_19 : decode cX2_numberOf 19 = .ok (.iconst (-1), 1) := dc_of qt_q88_cX2_numberOf 13 rfl
theorem dX2_numberOf_20 : decode cX2_numberOf 20 = .ok (.iload_n 2, 1) := dc_of qt_q88_cX2_numberOf 14 rfl
theorem dX2_numberOf_21 : decode cX2_numberOf 21 = .ok (.isub, 1) := dc_of qt_q88_cX2_numberOf 15 rfl
theorem dX2_numberOf_22 : decode cX2_numberOf 22 = .ok (.istore_n 3, 1) := dc_of qt_q88_cX2_numberOf 16 rfl
theorem dX2_numberOf_23 : decode cX2_numberOf 23 = .ok (.iconst 2, 1) := dc_of qt_q88_cX2_numberOf 17 rfl
theorem dX2_numberOf_24 : decode cX2_numberOf 24 = .ok (.iload_n 3, 1) := dc_of qt_q88_cX2_numberOf 18 rfl
theorem dX2_numberOf_25 : decode cX2_numberOf 25 = .ok (.imul, 1) := dc_of qt_q88_cX2_numberOf 19 rfl
theorem dX2_numberOf_26 : decode cX2_numberOf 26 = .ok (.iconst 1, 1) := dc_of qt_q88_cX2_numberOf 20 rfl
theorem dX2_numberOf_27 : decode cX2_numberOf 27 = .ok (.iadd, 1) := dc_of qt_q88_cX2_numberOf 21 rfl
theorem dX2_numberOf_28 : decode cX2_numberOf 28 = .ok (.ireturn, 1) := dc_of qt_q88_cX2_numberOf 22 rfl
set_option maxRecDepth 20000 in
theorem ggX2_readSum_X0_sumOf : GoodIn wsX2_readSum wsX0_sumOf := goodIn_r _ [7, 8, 9, 25, 26] rfl (by decide +kernel)
set_option maxRecDepth 20000 in
theorem ggX2_readSum_X2_nextByte : GoodIn wsX2_readSum wsX2_nextByte := goodIn_r _ [14, 1, 2, 15, 16, 17, 13, 18, 19, 20, 21, 22, 23, 24, 25, 26] rfl (by decide +kernel)
set_option maxRecDepth 20000 in
theorem ggX2_readSum_X2_endAt : GoodIn wsX2_readSum wsX2_endAt := goodIn_r _ [18, 19, 20, 21, 22, 23, 24] rfl (by decide +kernel)
def ql_q89_cX2_readSum : List (Nat × Jvm.ClassFile.Instr × Nat) := [(0, .aload_n 0, 1), (1, .getfield 15, 3), (4, .istore_n 1, 1), (5, .aload_n 0, 1), (6, .getfield 9, 3), (9, .iload_n 1, 1), (10, .invokevirtual 134, 3), (13, .istore_n 2, 1), (14, .aload_n 0, 1), (15, .invokevirtual 74, 3), (18, .istore_n 3, 1), (19, .iload_n 3, 1), (20, .aload_n 0, 1), (21, .invokevirtual 74, 3), (24, .bipush 8, 2), (26, .ishl, 1), (27, .iadd, 1), (28, .istore_n 3, 1), (29, .iload_n 3, 1), (30, .iload_n 2, 1), (31, .if_icmp .eq 8, 3), (34, .aload_n 0, 1), (35, .iload_n 1, 1), (36, .invokevirtual 64, 3)]
theorem qt_q89_cX2_readSum : dcAll cX2_readSum ql_q89_cX2_readSum = true := by decide +kernel
theorem dX2_readSum_0 : decode cX2_readSum 0 = .ok (.aload_n 0, 1) := dc_of qt_q89_cX2_readSum 0 rfl
theorem dX2_readSum_1 : decode cX2_readSum 1 = .ok (.getfield 15, 3) := dc_of qt_q89_cX2_readSum 1 rfl
theorem dX2_readSum_4 : decode cX2_readSum 4 = .ok (.istore_n 1, 1) := dc_of qt_q89_cX2_readSum 2 rfl
theorem dX2_readSum_5 : decode cX2_readSum 5 = .ok (.aload_n 0, 1) := dc_of qt_q89_cX2_readSum 3 rfl
theorem dX2_readSum_6 : decode cX2_readSum 6 = .ok (.getfield 9, 3) := dc_of qt_q89_cX2_readSum 4 rfl
theorem dX2_readSum_9 : decode cX2_readSum 9 = .ok (.iload_n 1, 1) := dc_of qt_q89_cX2_readSum 5 rfl
theorem dX2_readSum_10 : decode cX2_readSum 10 = .ok (.invokevirtual 134, 3) := dc_of qt_q89_cX2_readSum 6 rfl
theorem dX2_readSum_13 : decode cX2_readSum 13 = .ok (.istore_n 2, 1) := dc_of qt_q89_cX2_readSum 7 rfl
theorem dX2_readSum_14 : decode cX2_readSum 14 = .ok (.aload_n 0, 1) := dc_of qt_q89_cX2_readSum 8 rfl
theorem dX2_readSum_15 : decode cX2_readSum 15 = .ok (.invokevirtual 74, 3) := dc_of qt_q89_cX2_readSum 9 rfl
theorem dX2_readSum_18 : decode cX2_readSum 18 = .ok (.istore_n 3, 1) := dc_of qt_q89_cX2_readSum 10 rfl
theorem dX2_readSum_19 : decode cX2_readSum 19 = .ok (.iload_n 3, 1) := dc_of qt_q89_cX2_readSum 11 rfl
theorem dX2_readSum_20 : decode cX2_readSum 20 = .ok (.aload_n 0, 1) := dc_of qt_q89_cX2_readSum 12 rfl
theorem dX2_readSum_21 : decode cX2_readSum 21 = .ok (.invokevirtual 74, 3) := dc_of qt_q89_cX2_readSum 13 rfl
theorem dX2_readSum_24 : decode cX2_readSum 24 = .ok (.bipush 8, 2) := dc_of qt_q89_cX2_readSum 14 rfl
theorem dX2_readSum_26 : decode cX2_readSum 26 = .ok (.ishl, 1) := dc_of qt_q89_cX2_readSum 15 rfl
theorem dX2_readSum_27 : decode cX2_readSum 27 = .ok (.iadd, 1) := dc_of qt_q89_cX2_readSum 16 rfl
theorem dX2_readSum_28 : decode cX2_readSum 28 = .ok (.istore_n 3, 1) := dc_of qt_q89_cX2_readSum 17 rfl
theorem dX2_readSum_29 : decode cX2_readSum 29 = .ok (.iload_n 3, 1) := dc_of qt_q89_cX2_readSum 18 rfl
theorem dX2_readSum_30 : decode cX2_readSum 30 = .ok (.iload_n 2, 1) := dc_of qt_q89_cX2_readSum 19 rfl
theorem dX2_readSum_31 : decode cX2_readSum 31 = .ok (.if_icmp .eq 8, 3) := dc_of qt_q89_cX2_readSum 20 rfl
theorem dX2_readSum_34 : decode cX2_readSum 34 = .ok (.aload_n 0, 1) := dc_of qt_q89_cX2_readSum 21 rfl
theorem dX2_readSum_35 : decode cX2_readSum 35 = .ok (.iload_n 1, 1) := dc_of qt_q89_cX2_readSum 22 rfl
theorem dX2_readSum_36 : decode cX2_readSum 36 = .ok (.invokevirtual 64, 3) := dc_of qt_q89_cX2_readSum 23 rfl
def ql_q90_cX2_readSum : List (Nat × Jvm.ClassFile.Instr × Nat) := [(39, .return_, 1)]
theorem qt_q90_cX2_readSum : dcAll cX2_readSum ql_q90_cX2_readSum = true := by decide +kernel
theorem dX2_readSum_39 : decode cX2_readSum 39 = .ok (.return_, 1) := dc_of qt_q90_cX2_readSum 0 rfl
set_option maxRecDepth 20000 in
theorem ggX3_init_X1_init : GoodIn wsX3_init wsX1_init := goodIn_r _ [19, 20, 2, 3, 21, 22, 23, 24, 25, 26, 27, 28, 43, 44, 45, 46, 47, 48, 49, 50, 51, 52] rfl (by decide +kernel)
set_option maxRecDepth 20000 in
theorem ggX3_init_X0_init : GoodIn wsX3_init wsX0_init := goodIn_r _ [30, 31, 2, 3, 21, 32, 53, 54] rfl (by decide +kernel)
set_option maxRecDepth 20000 in
theorem ggX3_init_X2_init : GoodIn wsX3_init wsX2_init := goodIn_r _ [35, 36, 2, 3, 37, 55, 56, 57, 58, 59] rfl (by decide +kernel)
def ql_q91_cX3_init : List (Nat × Jvm.ClassFile.Instr × Nat) := [(0, .aload_n 0, 1), (1, .invokespecial 1, 3), (4, .aload_n 0, 1), (5, .iconst 2, 1), (6, .anewarray 9, 3), (9, .putfield 11, 3), (12, .iconst 0, 1), (13, .istore_n 1, 1), (14, .iload_n 1, 1), (15, .iconst 2, 1), (16, .if_icmp .ge 22, 3), (19, .aload_n 0, 1), (20, .getfield 11, 3), (23, .iload_n 1, 1), (24, .new 9, 3), (27, .dup, 1), (28, .invokespecial 15, 3), (31, .aastore, 1), (32, .iinc 1 1, 3), (35, .goto (-21), 3), (38, .aload_n 0, 1), (39, .new 9, 3), (42, .dup, 1), (43, .invokespecial 15, 3)]
theorem qt_q91_cX3_init : dcAll cX3_init ql_q91_cX3_init = true := by decide +kernel
theorem dX3_init_0 : decode cX3_init 0 = .ok (.aload_n 0, 1) := dc_of qt_q91_cX3_init 0 rfl
theorem dX3_init_1 : decode cX3_init 1 = .ok (.invokespecial 1, 3) := dc_of qt_q91_cX3_init 1 rfl
theorem dX3_init_4 : decode cX3_init 4 = .ok (.aload_n 0, 1) := dc_of qt_q91_cX3_init 2 rfl
theorem dX3_init_5 : decode cX3_init 5 = .ok (.iconst 2, 1) := dc_of qt_q91_cX3_init 3 rfl
theorem dX3_init_6 : decode cX3_init 6 = .ok (.anewarray 9, 3) := dc_of qt_q91_cX3_init 4 rfl
theorem dX3_init_9 : decode cX3_init 9 = .ok (.putfield 11, 3) := dc_of qt_q91_cX3_init 5 rfl
theorem dX3_init_12 : decode cX3_init 12 = .ok (.iconst 0, 1) := dc_of qt_q91_cX3_init 6 rfl
theorem dX3_init_13 : decode cX3_init 13 = .ok (.istore_n 1, 1) := dc_of qt_q91_cX3_init 7 rfl
theorem dX3_init_14 : decode cX3_init 14 = .ok (.iload_n 1, 1) := dc_of qt_q91_cX3_init 8 rfl
theorem dX3_init_15 : decode cX3_init 15 = .ok (.iconst 2, 1) := dc_of qt_q91_cX3_init 9 rfl
theorem dX3_init_16 : decode cX3_init 16 = .ok (.if_icmp .ge 22, 3) := dc_of qt_q91_cX3_init 10 rfl
theorem dX3_init_19 : decode cX3_init 19 = .ok (.aload_n 0, 1) := dc_of qt_q91_cX3_init 11 rfl
theorem dX3_init_20 : decode cX3_init 20 = .ok (.getfield 11, 3) := dc_of qt_q91_cX3_init 12 rfl
theorem dX3_init_23 : decode cX3_init 23 = .ok (.iload_n 1, 1) := dc_of qt_q91_cX3_init 13 rfl
theorem dX3_init_24 : decode cX3_init 24 = .ok (.new 9, 3) := dc_of qt_q91_cX3_init 14 rfl
theorem dX3_init_27 : decode cX3_init 27 = .ok (.dup, 1) := dc_of qt_q91_cX3_init 15 rfl
theorem dX3_init_28 : decode cX3_init 28 = .ok (.invokespecial 15, 3) := dc_of qt_q91_cX3_init 16 rfl
theorem dX3_init_31 : decode cX3_init 31 = .ok (.aastore, 1) := dc_of qt_q91_cX3_init 17 rfl
theorem dX3_init_32 : decode cX3_init 32 = .ok (.iinc 1 1, 3) := dc_of qt_q91_cX3_init 18 rfl
theorem dX3_init_35 : decode cX3_init 35 = .ok (.goto (-21), 3) := dc_of qt_q91_cX3_init 19 rfl
theorem dX3_init_38 : decode cX3_init 38 = .ok (.aload_n 0, 1) := dc_of qt_q91_cX3_init 20 rfl
theorem dX3_init_39 : decode cX3_init 39 = .ok (.new 9, 3) := dc_of qt_q91_cX3_init 21 rfl
theorem dX3_init_42 : decode cX3_init 42 = .ok (.dup, 1) := dc_of qt_q91_cX3_init 22 rfl
theorem dX3_init_43 : decode cX3_init 43 = .ok (.invokespecial 15, 3) := dc_of qt_q91_cX3_init 23 rfl
def ql_q92_cX3_init : List (Nat × Jvm.ClassFile.Instr × Nat) := [(46, .putfield 16, 3), (49, .aload_n 0, 1), (50, .new 20, 3), (53, .dup, 1), (54, .invokespecial 22, 3), (57, .putfield 23, 3), (60, .aload_n 0, 1), (61, .new 20, 3), (64, .dup, 1), (65, .invokespecial 22, 3), (68, .putfield 27, 3), (71, .aload_n 0, 1), (72, .new 30, 3), (75, .dup, 1), (76, .aload_n 0, 1), (77, .getfield 27, 3), (80, .invokespecial 32, 3), (83, .putfield 35, 3), (86, .return_, 1)]
theorem qt_q92_cX3_init : dcAll cX3_init ql_q92_cX3_init = true := by decide +kernel
theorem dX3_init_46 : decode cX3_init 46 = .ok (.putfield 16, 3) := dc_of qt_q92_cX3_init 0 rfl
theorem dX3_init_49 : decode cX3_init 49 = .ok (.aload_n 0, 1) := dc_of qt_q92_cX3_init 1 rfl
theorem dX3_init_50 : decode cX3_init 50 = .ok (.new 20, 3) := dc_of qt_q92_cX3_init 2 rfl
theorem dX3_init_53 : decode cX3_init 53 = .ok (.dup, 1) := dc_of qt_q92_cX3_init 3 rfl
theorem dX3_init_54 : decode cX3_init 54 = .ok (.invokespecial 22, 3) := dc_of qt_q92_cX3_init 4 rfl
theorem dX3_init_57 : decode cX3_init 57 = .ok (.putfield 23, 3) := dc_of qt_q92_cX3_init 5 rfl
theorem dX3_init_60 : decode cX3_init 60 = .ok (.aload_n 0, 1) := dc_of qt_q92_cX3_init 6 rfl
theorem dX3_init_61 : decode cX3_init 61 = .ok (.new 20, 3) := dc_of qt_q92_cX3_init 7 rfl
theorem dX3_init_64 : decode cX3_init 64 = .ok (.dup, 1) := dc_of qt_q92_cX3_init 8 rfl
theorem dX3_init_65 : decode cX3_init 65 = .ok (.invokespecial 22, 3) := dc_of qt_q92_cX3_init 9 rfl
theorem dX3_init_68 : decode cX3_init 68 = .ok (.putfield 27, 3) := dc_of qt_q92_cX3_init 10 rfl
theorem dX3_init_71 : decode cX3_init 71 = .ok (.aload_n 0, 1) := dc_of qt_q92_cX3_init 11 rfl
theorem dX3_init_72 : decode cX3_init 72 = .ok (.new 30, 3) := dc_of qt_q92_cX3_init 12 rfl
theorem dX3_init_75 : decode cX3_init 75 = .ok (.dup, 1) := dc_of qt_q92_cX3_init 13 rfl
theorem dX3_init_76 : decode cX3_init 76 = .ok (.aload_n 0, 1) := dc_of qt_q92_cX3_init 14 rfl
theorem dX3_init_77 : decode cX3_init 77 = .ok (.getfield 27, 3) := dc_of qt_q92_cX3_init 15 rfl
theorem dX3_init_80 : decode cX3_init 80 = .ok (.invokespecial 32, 3) := dc_of qt_q92_cX3_init 16 rfl
theorem dX3_init_83 : decode cX3_init 83 = .ok (.putfield 35, 3) := dc_of qt_q92_cX3_init 17 rfl
theorem dX3_init_86 : decode cX3_init 86 = .ok (.return_, 1) := dc_of qt_q92_cX3_init 18 rfl
set_option maxRecDepth 20000 in
theorem ggX3_make_X3_heapOf : GoodIn wsX3_make wsX3_heapOf := goodIn_ca (goodIn_r _ [9, 10, 11, 12, 35, 36, 37, 38, 39] rfl (by decide +kernel)) (goodIn_sub (fun _ h => List.mem_cons_of_mem _ (List.mem_append_right _ h)) (by decide +kernel))
set_option maxRecDepth 20000 in
theorem ggX3_make_X3_mayHaveSlots : GoodIn wsX3_make wsX3_mayHaveSlots := goodIn_r _ [15, 16, 17, 18] rfl (by decide +kernel)
set_option maxRecDepth 20000 in
theorem ggX3_make_X1_hasRoomFor : GoodIn wsX3_make wsX1_hasRoomFor := goodIn_r _ [23, 24, 40, 41, 42, 43, 44, 45, 46, 47, 48, 49] rfl (by decide +kernel)
set_option maxRecDepth 20000 in
theorem ggX3_make_X1_append : GoodIn wsX3_make wsX1_append := goodIn_r _ [28, 24, 29, 40, 41, 42, 43, 44, 45, 46, 47, 48, 49] rfl (by decide +kernel)
set_option maxRecDepth 20000 in
theorem ggX3_make_X1_addressOf : GoodIn wsX3_make wsX1_addressOf := goodIn_r _ [33, 34, 40, 41, 42, 43, 44, 45, 46, 47, 48, 49] rfl (by decide +kernel)
def ql_q93_cX3_make : List (Nat × Jvm.ClassFile.Instr × Nat) := [(0, .aload_n 0, 1), (1, .iload_n 1, 1), (2, .invokevirtual 39, 3), (5, .astore 4, 2), (7, .iload_n 2, 1), (8, .i2l, 1), (9, .iload_n 3, 1), (10, .i2l, 1), (11, .invokestatic 43, 3), (14, .ifCond .ne 11, 3), (17, .new 47, 3), (20, .dup, 1), (21, .invokespecial 49, 3), (24, .athrow, 1), (25, .aload 4, 2), (27, .iload_n 3, 1), (28, .invokevirtual 50, 3), (31, .ifCond .ne 11, 3), (34, .new 54, 3), (37, .dup, 1), (38, .invokespecial 56, 3), (41, .athrow, 1), (42, .aload 4, 2), (44, .aload 4, 2)]
theorem qt_q93_cX3_make : dcAll cX3_make ql_q93_cX3_make = true := by decide +kernel
theorem dX3_make_0 : decode cX3_make 0 = .ok (.aload_n 0, 1) := dc_of qt_q93_cX3_make 0 rfl
theorem dX3_make_1 : decode cX3_make 1 = .ok (.iload_n 1, 1) := dc_of qt_q93_cX3_make 1 rfl
theorem dX3_make_2 : decode cX3_make 2 = .ok (.invokevirtual 39, 3) := dc_of qt_q93_cX3_make 2 rfl
theorem dX3_make_5 : decode cX3_make 5 = .ok (.astore 4, 2) := dc_of qt_q93_cX3_make 3 rfl
theorem dX3_make_7 : decode cX3_make 7 = .ok (.iload_n 2, 1) := dc_of qt_q93_cX3_make 4 rfl
theorem dX3_make_8 : decode cX3_make 8 = .ok (.i2l, 1) := dc_of qt_q93_cX3_make 5 rfl
theorem dX3_make_9 : decode cX3_make 9 = .ok (.iload_n 3, 1) := dc_of qt_q93_cX3_make 6 rfl
theorem dX3_make_10 : decode cX3_make 10 = .ok (.i2l, 1) := dc_of qt_q93_cX3_make 7 rfl
theorem dX3_make_11 : decode cX3_make 11 = .ok (.invokestatic 43, 3) := dc_of qt_q93_cX3_make 8 rfl
theorem dX3_make_14 : decode cX3_make 14 = .ok (.ifCond .ne 11, 3) := dc_of qt_q93_cX3_make 9 rfl
theorem dX3_make_17 : decode cX3_make 17 = .ok (.new 47, 3) := dc_of qt_q93_cX3_make 10 rfl
theorem dX3_make_20 : decode cX3_make 20 = .ok (.dup, 1) := dc_of qt_q93_cX3_make 11 rfl
theorem dX3_make_21 : decode cX3_make 21 = .ok (.invokespecial 49, 3) := dc_of qt_q93_cX3_make 12 rfl
theorem dX3_make_24 : decode cX3_make 24 = .ok (.athrow, 1) := dc_of qt_q93_cX3_make 13 rfl
theorem dX3_make_25 : decode cX3_make 25 = .ok (.aload 4, 2) := dc_of qt_q93_cX3_make 14 rfl
theorem dX3_make_27 : decode cX3_make 27 = .ok (.iload_n 3, 1) := dc_of qt_q93_cX3_make 15 rfl
theorem dX3_make_28 : decode cX3_make 28 = .ok (.invokevirtual 50, 3) := dc_of qt_q93_cX3_make 16 rfl
theorem dX3_make_31 : decode cX3_make 31 = .ok (.ifCond .ne 11, 3) := dc_of qt_q93_cX3_make 17 rfl
theorem dX3_make_34 : decode cX3_make 34 = .ok (.new 54, 3) := dc_of qt_q93_cX3_make 18 rfl
theorem dX3_make_37 : decode cX3_make 37 = .ok (.dup, 1) := dc_of qt_q93_cX3_make 19 rfl
theorem dX3_make_38 : decode cX3_make 38 = .ok (.invokespecial 56, 3) := dc_of qt_q93_cX3_make 20 rfl
theorem dX3_make_41 : decode cX3_make 41 = .ok (.athrow, 1) := dc_of qt_q93_cX3_make 21 rfl
theorem dX3_make_42 : decode cX3_make 42 = .ok (.aload 4, 2) := dc_of qt_q93_cX3_make 22 rfl
theorem dX3_make_44 : decode cX3_make 44 = .ok (.aload 4, 2) := dc_of qt_q93_cX3_make 23 rfl
def ql_q94_cX3_make : List (Nat × Jvm.ClassFile.Instr × Nat) := [(46, .iload_n 2, 1), (47, .iload_n 3, 1), (48, .invokevirtual 57, 3), (51, .invokevirtual 61, 3), (54, .ireturn, 1)]
theorem qt_q94_cX3_make : dcAll cX3_make ql_q94_cX3_make = true := by decide +kernel
theorem dX3_make_46 : decode cX3_make 46 = .ok (.iload_n 2, 1) := dc_of qt_q94_cX3_make 0 rfl
theorem dX3_make_47 : decode cX3_make 47 = .ok (.iload_n 3, 1) := dc_of qt_q94_cX3_make 1 rfl
theorem dX3_make_48 : decode cX3_make 48 = .ok (.invokevirtual 57, 3) := dc_of qt_q94_cX3_make 2 rfl
theorem dX3_make_51 : decode cX3_make 51 = .ok (.invokevirtual 61, 3) := dc_of qt_q94_cX3_make 3 rfl
theorem dX3_make_54 : decode cX3_make 54 = .ok (.ireturn, 1) := dc_of qt_q94_cX3_make 4 rfl
set_option maxRecDepth 20000 in
theorem ggX3_set_X3_heapOf : GoodIn wsX3_set wsX3_heapOf := goodIn_ca (goodIn_r _ [5, 6, 7, 8, 59, 60, 61, 62, 63] rfl (by decide +kernel)) (goodIn_sub (fun _ h => List.mem_cons_of_mem _ (List.mem_append_right _ h)) (by decide +kernel))
set_option maxRecDepth 20000 in
theorem ggX3_set_X3_slotPlace : GoodIn wsX3_set wsX3_slotPlace := goodIn_ca (goodIn_r _ [11, 6, 7, 12, 13, 14, 15, 16, 17, 18, 19, 20, 21, 22, 23, 24, 25, 26, 27, 28, 29, 30, 4, 31, 32, 33, 34, 35, 36, 37, 38, 39, 40, 41, 42, 43, 44, 45, 46, 47, 48, 49, 50, 51, 52, 53, 54, 55, 56, 57, 58] rfl (by decide +kernel)) (goodIn_sub (fun _ h => List.mem_cons_of_mem _ (List.mem_append_right _ h)) (by decide +kernel))
def ql_q95_cX3_set : List (Nat × Jvm.ClassFile.Instr × Nat) := [(0, .aload_n 0, 1), (1, .iload_n 1, 1), (2, .invokevirtual 39, 3), (5, .astore 5, 2), (7, .aload 5, 2), (9, .iload_n 2, 1), (10, .iload_n 3, 1), (11, .invokestatic 65, 3), (14, .istore 6, 2), (16, .aload 5, 2), (18, .getfield 69, 3), (21, .iload 6, 2), (23, .iaload, 1), (24, .istore 7, 2), (26, .aload 5, 2), (28, .getfield 69, 3), (31, .iload 6, 2), (33, .iload 4, 2), (35, .iastore, 1), (36, .iload 7, 2), (38, .ireturn, 1)]
theorem qt_q95_cX3_set : dcAll cX3_set ql_q95_cX3_set = true := by decide +kernel
theorem dX3_set_0 : decode cX3_set 0 = .ok (.aload_n 0, 1) := dc_of qt_q95_cX3_set 0 rfl
theorem dX3_set_1 : decode cX3_set 1 = .ok (.iload_n 1, 1) := dc_of qt_q95_cX3_set 1 rfl
theorem dX3_set_2 : decode cX3_set 2 = .ok (.invokevirtual 39, 3) := dc_of qt_q95_cX3_set 2 rfl
theorem dX3_set_5 : decode cX3_set 5 = .ok (.astore 5, 2) := dc_of qt_q95_cX3_set 3 rfl
theorem dX3_set_7 : decode cX3_set 7 = .ok (.aload 5, 2) := dc_of qt_q95_cX3_set 4 rfl
theorem dX3_set_9 : decode cX3_set 9 = .ok (.iload_n 2, 1) := dc_of qt_q95_cX3_set 5 rfl
theorem dX3_set_10 : decode cX3_set 10 = .ok (.iload_n 3, 1) := dc_of qt_q95_cX3_set 6 rfl
theorem dX3_set_11 : decode cX3_set 11 = .ok (.invokestatic 65, 3) := dc_of qt_q95_cX3_set 7 rfl
theorem dX3_set_14 : decode cX3_set 14 = .ok (.istore 6, 2) := dc_of qt_q95_cX3_set 8 rfl
theorem dX3_set_16 : decode cX3_set 16 = .ok (.aload 5, 2) := dc_of qt_q95_cX3_set 9 rfl
theorem dX3_set_18 : decode cX3_set 18 = .ok (.getfield 69, 3) := dc_of qt_q95_cX3_set 10 rfl
theorem dX3_set_21 : decode cX3_set 21 = .ok (.iload 6, 2) := dc_of qt_q95_cX3_set 11 rfl
theorem dX3_set_23 : decode cX3_set 23 = .ok (.iaload, 1) := dc_of qt_q95_cX3_set 12 rfl
theorem dX3_set_24 : decode cX3_set 24 = .ok (.istore 7, 2) := dc_of qt_q95_cX3_set 13 rfl
theorem dX3_set_26 : decode cX3_set 26 = .ok (.aload 5, 2) := dc_of qt_q95_cX3_set 14 rfl
theorem dX3_set_28 : decode cX3_set 28 = .ok (.getfield 69, 3) := dc_of qt_q95_cX3_set 15 rfl
theorem dX3_set_31 : decode cX3_set 31 = .ok (.iload 6, 2) := dc_of qt_q95_cX3_set 16 rfl
theorem dX3_set_33 : decode cX3_set 33 = .ok (.iload 4, 2) := dc_of qt_q95_cX3_set 17 rfl
theorem dX3_set_35 : decode cX3_set 35 = .ok (.iastore, 1) := dc_of qt_q95_cX3_set 18 rfl
theorem dX3_set_36 : decode cX3_set 36 = .ok (.iload 7, 2) := dc_of qt_q95_cX3_set 19 rfl
theorem dX3_set_38 : decode cX3_set 38 = .ok (.ireturn, 1) := dc_of qt_q95_cX3_set 20 rfl
set_option maxRecDepth 20000 in
theorem ggX3_at_X3_heapOf : GoodIn wsX3_at wsX3_heapOf := goodIn_ca (goodIn_r _ [5, 6, 7, 8, 59, 60, 61, 62, 63] rfl (by decide +kernel)) (goodIn_sub (fun _ h => List.mem_cons_of_mem _ (List.mem_append_right _ h)) (by decide +kernel))
set_option maxRecDepth 20000 in
theorem ggX3_at_X3_slotPlace : GoodIn wsX3_at wsX3_slotPlace := goodIn_ca (goodIn_r _ [11, 6, 7, 12, 13, 14, 15, 16, 17, 18, 19, 20, 21, 22, 23, 24, 25, 26, 27, 28, 29, 30, 4, 31, 32, 33, 34, 35, 36, 37, 38, 39, 40, 41, 42, 43, 44, 45, 46, 47, 48, 49, 50, 51, 52, 53, 54, 55, 56, 57, 58] rfl (by decide +kernel)) (goodIn_sub (fun _ h => List.mem_cons_of_mem _ (List.mem_append_right _ h)) (by decide +kernel))
def ql_q96_cX3_at : List (Nat × Jvm.ClassFile.Instr × Nat) := [(0, .aload_n 0, 1), (1, .iload_n 1, 1), (2, .invokevirtual 39, 3), (5, .astore 4, 2), (7, .aload 4, 2), (9, .getfield 69, 3), (12, .aload 4, 2), (14, .iload_n 2, 1), (15, .iload_n 3, 1), (16, .invokestatic 65, 3), (19, .iaload, 1), (20, .ireturn, 1)]
theorem qt_q96_cX3_at : dcAll cX3_at ql_q96_cX3_at = true := by decide +kernel
theorem dX3_at_0 : decode cX3_at 0 = .ok (.aload_n 0, 1) := dc_of qt_q96_cX3_at 0 rfl
theorem dX3_at_1 : decode cX3_at 1 = .ok (.iload_n 1, 1) := dc_of qt_q96_cX3_at 1 rfl
theorem dX3_at_2 : decode cX3_at 2 = .ok (.invokevirtual 39, 3) := dc_of qt_q96_cX3_at 2 rfl
theorem dX3_at_5 : decode cX3_at 5 = .ok (.astore 4, 2) := dc_of qt_q96_cX3_at 3 rfl
theorem dX3_at_7 : decode cX3_at 7 = .ok (.aload 4, 2) := dc_of qt_q96_cX3_at 4 rfl
theorem dX3_at_9 : decode cX3_at 9 = .ok (.getfield 69, 3) := dc_of qt_q96_cX3_at 5 rfl
theorem dX3_at_12 : decode cX3_at 12 = .ok (.aload 4, 2) := dc_of qt_q96_cX3_at 6 rfl
theorem dX3_at_14 : decode cX3_at 14 = .ok (.iload_n 2, 1) := dc_of qt_q96_cX3_at 7 rfl
theorem dX3_at_15 : decode cX3_at 15 = .ok (.iload_n 3, 1) := dc_of qt_q96_cX3_at 8 rfl
theorem dX3_at_16 : decode cX3_at 16 = .ok (.invokestatic 65, 3) := dc_of qt_q96_cX3_at 9 rfl
theorem dX3_at_19 : decode cX3_at 19 = .ok (.iaload, 1) := dc_of qt_q96_cX3_at 10 rfl
theorem dX3_at_20 : decode cX3_at 20 = .ok (.ireturn, 1) := dc_of qt_q96_cX3_at 11 rfl
set_option maxRecDepth 20000 in
theorem ggX3_root_X3_heapOf : GoodIn wsX3_root wsX3_heapOf := goodIn_ca (goodIn_r _ [7, 1, 2, 8, 19, 20, 21, 22, 23] rfl (by decide +kernel)) (goodIn_sub (fun _ h => List.mem_cons_of_mem _ (List.mem_append_right _ h)) (by decide +kernel))
def ql_q97_cX3_root : List (Nat × Jvm.ClassFile.Instr × Nat) := [(0, .aload_n 0, 1), (1, .iload_n 1, 1), (2, .invokevirtual 39, 3), (5, .astore 4, 2), (7, .iload_n 2, 1), (8, .ifCond .lt 8, 3), (11, .iload_n 2, 1), (12, .iconst 4, 1), (13, .if_icmp .lt 11, 3), (16, .new 73, 3), (19, .dup, 1), (20, .invokespecial 75, 3), (23, .athrow, 1), (24, .aload 4, 2), (26, .getfield 76, 3), (29, .iload_n 2, 1), (30, .iaload, 1), (31, .istore 5, 2), (33, .aload 4, 2), (35, .getfield 76, 3), (38, .iload_n 2, 1), (39, .iload_n 3, 1), (40, .iastore, 1), (41, .iload 5, 2)]
theorem qt_q97_cX3_root : dcAll cX3_root ql_q97_cX3_root = true := by decide +kernel
theorem dX3_root_0 : decode cX3_root 0 = .ok (.aload_n 0, 1) := dc_of qt_q97_cX3_root 0 rfl
theorem dX3_root_1 : decode cX3_root 1 = .ok (.iload_n 1, 1) := dc_of qt_q97_cX3_root 1 rfl
theorem dX3_root_2 : decode cX3_root 2 = .ok (.invokevirtual 39, 3) := dc_of qt_q97_cX3_root 2 rfl
theorem dX3_root_5 : decode cX3_root 5 = .ok (.astore 4, 2) := dc_of qt_q97_cX3_root 3 rfl
theorem dX3_root_7 : decode cX3_root 7 = .ok (.iload_n 2, 1) := dc_of qt_q97_cX3_root 4 rfl
theorem dX3_root_8 : decode cX3_root 8 = .ok (.ifCond .lt 8, 3) := dc_of qt_q97_cX3_root 5 rfl
theorem dX3_root_11 : decode cX3_root 11 = .ok (.iload_n 2, 1) := dc_of qt_q97_cX3_root 6 rfl
theorem dX3_root_12 : decode cX3_root 12 = .ok (.iconst 4, 1) := dc_of qt_q97_cX3_root 7 rfl
theorem dX3_root_13 : decode cX3_root 13 = .ok (.if_icmp .lt 11, 3) := dc_of qt_q97_cX3_root 8 rfl
theorem dX3_root_16 : decode cX3_root 16 = .ok (.new 73, 3) := dc_of qt_q97_cX3_root 9 rfl
theorem dX3_root_19 : decode cX3_root 19 = .ok (.dup, 1) := dc_of qt_q97_cX3_root 10 rfl
theorem dX3_root_20 : decode cX3_root 20 = .ok (.invokespecial 75, 3) := dc_of qt_q97_cX3_root 11 rfl
theorem dX3_root_23 : decode cX3_root 23 = .ok (.athrow, 1) := dc_of qt_q97_cX3_root 12 rfl
theorem dX3_root_24 : decode cX3_root 24 = .ok (.aload 4, 2) := dc_of qt_q97_cX3_root 13 rfl
theorem dX3_root_26 : decode cX3_root 26 = .ok (.getfield 76, 3) := dc_of qt_q97_cX3_root 14 rfl
theorem dX3_root_29 : decode cX3_root 29 = .ok (.iload_n 2, 1) := dc_of qt_q97_cX3_root 15 rfl
theorem dX3_root_30 : decode cX3_root 30 = .ok (.iaload, 1) := dc_of qt_q97_cX3_root 16 rfl
theorem dX3_root_31 : decode cX3_root 31 = .ok (.istore 5, 2) := dc_of qt_q97_cX3_root 17 rfl
theorem dX3_root_33 : decode cX3_root 33 = .ok (.aload 4, 2) := dc_of qt_q97_cX3_root 18 rfl
theorem dX3_root_35 : decode cX3_root 35 = .ok (.getfield 76, 3) := dc_of qt_q97_cX3_root 19 rfl
theorem dX3_root_38 : decode cX3_root 38 = .ok (.iload_n 2, 1) := dc_of qt_q97_cX3_root 20 rfl
theorem dX3_root_39 : decode cX3_root 39 = .ok (.iload_n 3, 1) := dc_of qt_q97_cX3_root 21 rfl
theorem dX3_root_40 : decode cX3_root 40 = .ok (.iastore, 1) := dc_of qt_q97_cX3_root 22 rfl
theorem dX3_root_41 : decode cX3_root 41 = .ok (.iload 5, 2) := dc_of qt_q97_cX3_root 23 rfl
def ql_q98_cX3_root : List (Nat × Jvm.ClassFile.Instr × Nat) := [(43, .ireturn, 1)]
theorem qt_q98_cX3_root : dcAll cX3_root ql_q98_cX3_root = true := by decide +kernel
theorem dX3_root_43 : decode cX3_root 43 = .ok (.ireturn, 1) := dc_of qt_q98_cX3_root 0 rfl
set_option maxRecDepth 20000 in
theorem ggX3_poke_X3_heapOf : GoodIn wsX3_poke wsX3_heapOf := goodIn_ca (goodIn_r _ [5, 6, 7, 8, 22, 23, 24, 25, 26] rfl (by decide +kernel)) (goodIn_sub (fun _ h => List.mem_cons_of_mem _ (List.mem_append_right _ h)) (by decide +kernel))
set_option maxRecDepth 20000 in
theorem ggX3_poke_X3_wordPlace : GoodIn wsX3_poke wsX3_wordPlace := goodIn_ca (goodIn_r _ [11, 6, 7] rfl (by decide +kernel)) (goodIn_sub (fun _ h => List.mem_cons_of_mem _ (List.mem_append_right _ h)) (by decide +kernel))
def ql_q99_cX3_poke : List (Nat × Jvm.ClassFile.Instr × Nat) := [(0, .aload_n 0, 1), (1, .iload_n 1, 1), (2, .invokevirtual 39, 3), (5, .astore 4, 2), (7, .iload_n 2, 1), (8, .invokestatic 79, 3), (11, .istore 5, 2), (13, .aload 4, 2), (15, .getfield 69, 3), (18, .iload 5, 2), (20, .dup2, 1), (21, .iaload, 1), (22, .iload_n 3, 1), (23, .ixor, 1), (24, .iastore, 1), (25, .aload 4, 2), (27, .getfield 69, 3), (30, .iload 5, 2), (32, .iaload, 1), (33, .ireturn, 1)]
theorem qt_q99_cX3_poke : dcAll cX3_poke ql_q99_cX3_poke = true := by decide +kernel
theorem dX3_poke_0 : decode cX3_poke 0 = .ok (.aload_n 0, 1) := dc_of qt_q99_cX3_poke 0 rfl
theorem dX3_poke_1 : decode cX3_poke 1 = .ok (.iload_n 1, 1) := dc_of qt_q99_cX3_poke 1 rfl
theorem dX3_poke_2 : decode cX3_poke 2 = .ok (.invokevirtual 39, 3) := dc_of qt_q99_cX3_poke 2 rfl
theorem dX3_poke_5 : decode cX3_poke 5 = .ok (.astore 4, 2) := dc_of qt_q99_cX3_poke 3 rfl
theorem dX3_poke_7 : decode cX3_poke 7 = .ok (.iload_n 2, 1) := dc_of qt_q99_cX3_poke 4 rfl
theorem dX3_poke_8 : decode cX3_poke 8 = .ok (.invokestatic 79, 3) := dc_of qt_q99_cX3_poke 5 rfl
theorem dX3_poke_11 : decode cX3_poke 11 = .ok (.istore 5, 2) := dc_of qt_q99_cX3_poke 6 rfl
theorem dX3_poke_13 : decode cX3_poke 13 = .ok (.aload 4, 2) := dc_of qt_q99_cX3_poke 7 rfl
theorem dX3_poke_15 : decode cX3_poke 15 = .ok (.getfield 69, 3) := dc_of qt_q99_cX3_poke 8 rfl
theorem dX3_poke_18 : decode cX3_poke 18 = .ok (.iload 5, 2) := dc_of qt_q99_cX3_poke 9 rfl
theorem dX3_poke_20 : decode cX3_poke 20 = .ok (.dup2, 1) := dc_of qt_q99_cX3_poke 10 rfl
theorem dX3_poke_21 : decode cX3_poke 21 = .ok (.iaload, 1) := dc_of qt_q99_cX3_poke 11 rfl
theorem dX3_poke_22 : decode cX3_poke 22 = .ok (.iload_n 3, 1) := dc_of qt_q99_cX3_poke 12 rfl
theorem dX3_poke_23 : decode cX3_poke 23 = .ok (.ixor, 1) := dc_of qt_q99_cX3_poke 13 rfl
theorem dX3_poke_24 : decode cX3_poke 24 = .ok (.iastore, 1) := dc_of qt_q99_cX3_poke 14 rfl
theorem dX3_poke_25 : decode cX3_poke 25 = .ok (.aload 4, 2) := dc_of qt_q99_cX3_poke 15 rfl
theorem dX3_poke_27 : decode cX3_poke 27 = .ok (.getfield 69, 3) := dc_of qt_q99_cX3_poke 16 rfl
theorem dX3_poke_30 : decode cX3_poke 30 = .ok (.iload 5, 2) := dc_of qt_q99_cX3_poke 17 rfl
theorem dX3_poke_32 : decode cX3_poke 32 = .ok (.iaload, 1) := dc_of qt_q99_cX3_poke 18 rfl
theorem dX3_poke_33 : decode cX3_poke 33 = .ok (.ireturn, 1) := dc_of qt_q99_cX3_poke 19 rfl
set_option maxRecDepth 20000 in
theorem ggX3_word_X3_heapOf : GoodIn wsX3_word wsX3_heapOf := goodIn_ca (goodIn_r _ [5, 6, 7, 8, 22, 23, 24, 25, 26] rfl (by decide +kernel)) (goodIn_sub (fun _ h => List.mem_cons_of_mem _ (List.mem_append_right _ h)) (by decide +kernel))
set_option maxRecDepth 20000 in
theorem ggX3_word_X3_wordPlace : GoodIn wsX3_word wsX3_wordPlace := goodIn_ca (goodIn_r _ [11, 6, 7] rfl (by decide +kernel)) (goodIn_sub (fun _ h => List.mem_cons_of_mem _ (List.mem_append_right _ h)) (by decide +kernel))
def ql_q100_cX3_word : List (Nat × Jvm.ClassFile.Instr × Nat) := [(0, .aload_n 0, 1), (1, .iload_n 1, 1), (2, .invokevirtual 39, 3), (5, .astore_n 3, 1), (6, .aload_n 3, 1), (7, .getfield 69, 3), (10, .iload_n 2, 1), (11, .invokestatic 79, 3), (14, .iaload, 1), (15, .ireturn, 1)]
theorem qt_q100_cX3_word : dcAll cX3_word ql_q100_cX3_word = true := by decide +kernel
theorem dX3_word_0 : decode cX3_word 0 = .ok (.aload_n 0, 1) := dc_of qt_q100_cX3_word 0 rfl
theorem dX3_word_1 : decode cX3_word 1 = .ok (.iload_n 1, 1) := dc_of qt_q100_cX3_word 1 rfl
theorem dX3_word_2 : decode cX3_word 2 = .ok (.invokevirtual 39, 3) := dc_of qt_q100_cX3_word 2 rfl
theorem dX3_word_5 : decode cX3_word 5 = .ok (.astore_n 3, 1) := dc_of qt_q100_cX3_word 3 rfl
theorem dX3_word_6 : decode cX3_word 6 = .ok (.aload_n 3, 1) := dc_of qt_q100_cX3_word 4 rfl
theorem dX3_word_7 : decode cX3_word 7 = .ok (.getfield 69, 3) := dc_of qt_q100_cX3_word 5 rfl
theorem dX3_word_10 : decode cX3_word 10 = .ok (.iload_n 2, 1) := dc_of qt_q100_cX3_word 6 rfl
theorem dX3_word_11 : decode cX3_word 11 = .ok (.invokestatic 79, 3) := dc_of qt_q100_cX3_word 7 rfl
theorem dX3_word_14 : decode cX3_word 14 = .ok (.iaload, 1) := dc_of qt_q100_cX3_word 8 rfl
theorem dX3_word_15 : decode cX3_word 15 = .ok (.ireturn, 1) := dc_of qt_q100_cX3_word 9 rfl
set_option maxRecDepth 20000 in
theorem ggX3_check_X3_heapOf : GoodIn wsX3_check wsX3_heapOf := goodIn_ca (goodIn_r _ [5, 6, 7, 8, 71, 72, 73, 74, 75] rfl (by decide +kernel)) (goodIn_sub (fun _ h => List.mem_cons_of_mem _ (List.mem_append_right _ h)) (by decide +kernel))
set_option maxRecDepth 20000 in
theorem ggX3_check_X1_firstFault : GoodIn wsX3_check wsX1_firstFault := goodIn_r _ [13, 14, 15, 16, 17, 18, 19, 20, 21, 12, 22, 23, 24, 25, 26, 27, 28, 29, 30, 31, 32, 4, 33, 34, 35, 36, 37, 38, 39, 40, 41, 42, 43, 44, 45, 46, 47, 48, 49, 50, 51, 52, 53, 54, 55, 56, 57, 58, 59, 60, 61, 62, 63, 64, 65, 66, 67, 68, 69, 70, 76, 77, 78, 79, 80, 81, 82, 83, 84, 85] rfl (by decide +kernel)
def ql_q101_cX3_check : List (Nat × Jvm.ClassFile.Instr × Nat) := [(0, .aload_n 0, 1), (1, .iload_n 1, 1), (2, .invokevirtual 39, 3), (5, .invokevirtual 82, 3), (8, .ireturn, 1)]
theorem qt_q101_cX3_check : dcAll cX3_check ql_q101_cX3_check = true := by decide +kernel
theorem dX3_check_0 : decode cX3_check 0 = .ok (.aload_n 0, 1) := dc_of qt_q101_cX3_check 0 rfl
theorem dX3_check_1 : decode cX3_check 1 = .ok (.iload_n 1, 1) := dc_of qt_q101_cX3_check 1 rfl
