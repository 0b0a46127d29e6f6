theorem dX1_redirect_67 : decode cX1_redirect 67 = .ok (.iload_n 2, 1) := dc_of qt_q34_cX1_redirect 16 rfl
theorem dX1_redirect_68 : decode cX1_redirect 68 = .ok (.ireturn, 1) := dc_of qt_q34_cX1_redirect 17 rfl
set_option maxRecDepth 20000 in
theorem ggX1_redirectAll_X1_headOf : GoodIn wsX1_redirectAll wsX1_headOf := goodIn_r _ [6, 7, 8, 9, 10, 11, 12, 13, 14, 15, 16, 17, 18] rfl (by decide +kernel)
def ql_q35_cX1_redirectAll : List (Nat × Jvm.ClassFile.Instr × Nat) := [(0, .iconst 0, 1), (1, .istore 5, 2), (3, .iload_n 2, 1), (4, .istore 6, 2), (6, .iload 6, 2), (8, .iload_n 2, 1), (9, .iload_n 3, 1), (10, .iadd, 1), (11, .if_icmp .ge 63, 3), (14, .aload_n 0, 1), (15, .aload_n 1, 1), (16, .iload 6, 2), (18, .iaload, 1), (19, .invokevirtual 83, 3), (22, .istore 7, 2), (24, .iload 7, 2), (26, .ifCond .ge 10, 3), (29, .aload_n 1, 1), (30, .iload 6, 2), (32, .iaload, 1), (33, .goto 15, 3), (36, .iload 4, 2), (38, .iconst 4, 1), (39, .aload_n 0, 1)]
theorem qt_q35_cX1_redirectAll : dcAll cX1_redirectAll ql_q35_cX1_redirectAll = true := by decide +kernel
theorem dX1_redirectAll_0 : decode cX1_redirectAll 0 = .ok (.iconst 0, 1) := dc_of qt_q35_cX1_redirectAll 0 rfl
theorem dX1_redirectAll_1 : decode cX1_redirectAll 1 = .ok (.istore 5, 2) := dc_of qt_q35_cX1_redirectAll 1 rfl
theorem dX1_redirectAll_3 : decode cX1_redirectAll 3 = .ok (.iload_n 2, 1) := dc_of qt_q35_cX1_redirectAll 2 rfl
theorem dX1_redirectAll_4 : decode cX1_redirectAll 4 = .ok (.istore 6, 2) := dc_of qt_q35_cX1_redirectAll 3 rfl
theorem dX1_redirectAll_6 : decode cX1_redirectAll 6 = .ok (.iload 6, 2) := dc_of qt_q35_cX1_redirectAll 4 rfl
theorem dX1_redirectAll_8 : decode cX1_redirectAll 8 = .ok (.iload_n 2, 1) := dc_of qt_q35_cX1_redirectAll 5 rfl
theorem dX1_redirectAll_9 : decode cX1_redirectAll 9 = .ok (.iload_n 3, 1) := dc_of qt_q35_cX1_redirectAll 6 rfl
theorem dX1_redirectAll_10 : decode cX1_redirectAll 10 = .ok (.iadd, 1) := dc_of qt_q35_cX1_redirectAll 7 rfl
theorem dX1_redirectAll_11 : decode cX1_redirectAll 11 = .ok (.if_icmp .ge 63, 3) := dc_of qt_q35_cX1_redirectAll 8 rfl
theorem dX1_redirectAll_14 : decode cX1_redirectAll 14 = .ok (.aload_n 0, 1) := dc_of qt_q35_cX1_redirectAll 9 rfl
theorem dX1_redirectAll_15 : decode cX1_redirectAll 15 = .ok (.aload_n 1, 1) := dc_of qt_q35_cX1_redirectAll 10 rfl
theorem dX1_redirectAll_16 : decode cX1_redirectAll 16 = .ok (.iload 6, 2) := dc_of qt_q35_cX1_redirectAll 11 rfl
theorem dX1_redirectAll_18 : decode cX1_redirectAll 18 = .ok (.iaload, 1) := dc_of qt_q35_cX1_redirectAll 12 rfl
theorem dX1_redirectAll_19 : decode cX1_redirectAll 19 = .ok (.invokevirtual 83, 3) := dc_of qt_q35_cX1_redirectAll 13 rfl
theorem dX1_redirectAll_22 : decode cX1_redirectAll 22 = .ok (.istore 7, 2) := dc_of qt_q35_cX1_redirectAll 14 rfl
theorem dX1_redirectAll_24 : decode cX1_redirectAll 24 = .ok (.iload 7, 2) := dc_of qt_q35_cX1_redirectAll 15 rfl
theorem dX1_redirectAll_26 : decode cX1_redirectAll 26 = .ok (.ifCond .ge 10, 3) := dc_of qt_q35_cX1_redirectAll 16 rfl
theorem dX1_redirectAll_29 : decode cX1_redirectAll 29 = .ok (.aload_n 1, 1) := dc_of qt_q35_cX1_redirectAll 17 rfl
theorem dX1_redirectAll_30 : decode cX1_redirectAll 30 = .ok (.iload 6, 2) := dc_of qt_q35_cX1_redirectAll 18 rfl
theorem dX1_redirectAll_32 : decode cX1_redirectAll 32 = .ok (.iaload, 1) := dc_of qt_q35_cX1_redirectAll 19 rfl
theorem dX1_redirectAll_33 : decode cX1_redirectAll 33 = .ok (.goto 15, 3) := dc_of qt_q35_cX1_redirectAll 20 rfl
theorem dX1_redirectAll_36 : decode cX1_redirectAll 36 = .ok (.iload 4, 2) := dc_of qt_q35_cX1_redirectAll 21 rfl
theorem dX1_redirectAll_38 : decode cX1_redirectAll 38 = .ok (.iconst 4, 1) := dc_of qt_q35_cX1_redirectAll 22 rfl
theorem dX1_redirectAll_39 : decode cX1_redirectAll 39 = .ok (.aload_n 0, 1) := dc_of qt_q35_cX1_redirectAll 23 rfl
def ql_q36_cX1_redirectAll : List (Nat × Jvm.ClassFile.Instr × Nat) := [(40, .getfield 31, 3), (43, .iload 7, 2), (45, .iaload, 1), (46, .imul, 1), (47, .iadd, 1), (48, .istore 8, 2), (50, .iload 8, 2), (52, .aload_n 1, 1), (53, .iload 6, 2), (55, .iaload, 1), (56, .if_icmp .eq 12, 3), (59, .aload_n 1, 1), (60, .iload 6, 2), (62, .iload 8, 2), (64, .iastore, 1), (65, .iinc 5 1, 3), (68, .iinc 6 1, 3), (71, .goto (-65), 3), (74, .iload 5, 2), (76, .ireturn, 1)]
theorem qt_q36_cX1_redirectAll : dcAll cX1_redirectAll ql_q36_cX1_redirectAll = true := by decide +kernel
theorem dX1_redirectAll_40 : decode cX1_redirectAll 40 = .ok (.getfield 31, 3) := dc_of qt_q36_cX1_redirectAll 0 rfl
theorem dX1_redirectAll_43 : decode cX1_redirectAll 43 = .ok (.iload 7, 2) := dc_of qt_q36_cX1_redirectAll 1 rfl
theorem dX1_redirectAll_45 : decode cX1_redirectAll 45 = .ok (.iaload, 1) := dc_of qt_q36_cX1_redirectAll 2 rfl
theorem dX1_redirectAll_46 : decode cX1_redirectAll 46 = .ok (.imul, 1) := dc_of qt_q36_cX1_redirectAll 3 rfl
theorem dX1_redirectAll_47 : decode cX1_redirectAll 47 = .ok (.iadd, 1) := dc_of qt_q36_cX1_redirectAll 4 rfl
theorem dX1_redirectAll_48 : decode cX1_redirectAll 48 = .ok (.istore 8, 2) := dc_of qt_q36_cX1_redirectAll 5 rfl
theorem dX1_redirectAll_50 : decode cX1_redirectAll 50 = .ok (.iload 8, 2) := dc_of qt_q36_cX1_redirectAll 6 rfl
theorem dX1_redirectAll_52 : decode cX1_redirectAll 52 = .ok (.aload_n 1, 1) := dc_of qt_q36_cX1_redirectAll 7 rfl
theorem dX1_redirectAll_53 : decode cX1_redirectAll 53 = .ok (.iload 6, 2) := dc_of qt_q36_cX1_redirectAll 8 rfl
theorem dX1_redirectAll_55 : decode cX1_redirectAll 55 = .ok (.iaload, 1) := dc_of qt_q36_cX1_redirectAll 9 rfl
theorem dX1_redirectAll_56 : decode cX1_redirectAll 56 = .ok (.if_icmp .eq 12, 3) := dc_of qt_q36_cX1_redirectAll 10 rfl
theorem dX1_redirectAll_59 : decode cX1_redirectAll 59 = .ok (.aload_n 1, 1) := dc_of qt_q36_cX1_redirectAll 11 rfl
theorem dX1_redirectAll_60 : decode cX1_redirectAll 60 = .ok (.iload 6, 2) := dc_of qt_q36_cX1_redirectAll 12 rfl
theorem dX1_redirectAll_62 : decode cX1_redirectAll 62 = .ok (.iload 8, 2) := dc_of qt_q36_cX1_redirectAll 13 rfl
theorem dX1_redirectAll_64 : decode cX1_redirectAll 64 = .ok (.iastore, 1) := dc_of qt_q36_cX1_redirectAll 14 rfl
theorem dX1_redirectAll_65 : decode cX1_redirectAll 65 = .ok (.iinc 5 1, 3) := dc_of qt_q36_cX1_redirectAll 15 rfl
theorem dX1_redirectAll_68 : decode cX1_redirectAll 68 = .ok (.iinc 6 1, 3) := dc_of qt_q36_cX1_redirectAll 16 rfl
theorem dX1_redirectAll_71 : decode cX1_redirectAll 71 = .ok (.goto (-65), 3) := dc_of qt_q36_cX1_redirectAll 17 rfl
theorem dX1_redirectAll_74 : decode cX1_redirectAll 74 = .ok (.iload 5, 2) := dc_of qt_q36_cX1_redirectAll 18 rfl
theorem dX1_redirectAll_76 : decode cX1_redirectAll 76 = .ok (.ireturn, 1) := dc_of qt_q36_cX1_redirectAll 19 rfl
set_option maxRecDepth 20000 in
theorem ggX1_dropUnreached_X1_findOrder : GoodIn wsX1_dropUnreached wsX1_findOrder := goodIn_r _ [12, 13, 14, 5, 15, 16, 17, 18, 11, 19, 4, 20, 21, 22, 23, 6, 24, 25, 26, 27, 28, 29, 30, 31, 32, 49, 50, 51, 52, 53, 54, 55, 56, 57, 58] rfl (by decide +kernel)
set_option maxRecDepth 20000 in
theorem ggX1_dropUnreached_X3_slotsOf : GoodIn wsX1_dropUnreached wsX3_slotsOf := goodIn_r _ [32] rfl (by decide +kernel)
set_option maxRecDepth 20000 in
theorem ggX1_dropUnreached_X1_redirect : GoodIn wsX1_dropUnreached wsX1_redirect := goodIn_r _ [36, 14, 1, 2, 5, 6, 37, 38, 39, 11, 40, 3, 20, 21, 22, 23, 4, 24, 25, 26, 27, 28, 29, 30, 31, 32, 49, 50, 51, 52, 53, 54, 55, 56, 57, 58] rfl (by decide +kernel)
set_option maxRecDepth 20000 in
theorem ggX1_dropUnreached_X1_slideToTargets : GoodIn wsX1_dropUnreached wsX1_slideToTargets := goodIn_r _ [44, 1, 2, 4, 5, 3, 45, 46, 47, 48, 31, 25, 32, 49, 50, 51, 52, 53, 54, 55, 56, 57, 58] rfl (by decide +kernel)
def ql_q37_cX1_dropUnreached : List (Nat × Jvm.ClassFile.Instr × Nat) := [(0, .aload_n 0, 1), (1, .invokevirtual 100, 3), (4, .iconst 0, 1), (5, .istore_n 1, 1), (6, .iconst 0, 1), (7, .istore_n 2, 1), (8, .iload_n 2, 1), (9, .aload_n 0, 1), (10, .getfield 43, 3), (13, .if_icmp .ge 47, 3), (16, .aload_n 0, 1), (17, .getfield 22, 3), (20, .iload_n 2, 1), (21, .iaload, 1), (22, .istore_n 3, 1), (23, .aload_n 0, 1), (24, .getfield 31, 3), (27, .iload_n 3, 1), (28, .iload_n 1, 1), (29, .iastore, 1), (30, .aload_n 0, 1), (31, .getfield 25, 3), (34, .iload_n 3, 1), (35, .iaload, 1)]
theorem qt_q37_cX1_dropUnreached : dcAll cX1_dropUnreached ql_q37_cX1_dropUnreached = true := by decide +kernel
theorem dX1_dropUnreached_0 : decode cX1_dropUnreached 0 = .ok (.aload_n 0, 1) := dc_of qt_q37_cX1_dropUnreached 0 rfl
theorem dX1_dropUnreached_1 : decode cX1_dropUnreached 1 = .ok (.invokevirtual 100, 3) := dc_of qt_q37_cX1_dropUnreached 1 rfl
theorem dX1_dropUnreached_4 : decode cX1_dropUnreached 4 = .ok (.iconst 0, 1) := dc_of qt_q37_cX1_dropUnreached 2 rfl
theorem dX1_dropUnreached_5 : decode cX1_dropUnreached 5 = .ok (.istore_n 1, 1) := dc_of qt_q37_cX1_dropUnreached 3 rfl
theorem dX1_dropUnreached_6 : decode cX1_dropUnreached 6 = .ok (.iconst 0, 1) := dc_of qt_q37_cX1_dropUnreached 4 rfl
theorem dX1_dropUnreached_7 : decode cX1_dropUnreached 7 = .ok (.istore_n 2, 1) := dc_of qt_q37_cX1_dropUnreached 5 rfl
theorem dX1_dropUnreached_8 : decode cX1_dropUnreached 8 = .ok (.iload_n 2, 1) := dc_of qt_q37_cX1_dropUnreached 6 rfl
theorem dX1_dropUnreached_9 : decode cX1_dropUnreached 9 = .ok (.aload_n 0, 1) := dc_of qt_q37_cX1_dropUnreached 7 rfl
theorem dX1_dropUnreached_10 : decode cX1_dropUnreached 10 = .ok (.getfield 43, 3) := dc_of qt_q37_cX1_dropUnreached 8 rfl
theorem dX1_dropUnreached_13 : decode cX1_dropUnreached 13 = .ok (.if_icmp .ge 47, 3) := dc_of qt_q37_cX1_dropUnreached 9 rfl
theorem dX1_dropUnreached_16 : decode cX1_dropUnreached 16 = .ok (.aload_n 0, 1) := dc_of qt_q37_cX1_dropUnreached 10 rfl
theorem dX1_dropUnreached_17 : decode cX1_dropUnreached 17 = .ok (.getfield 22, 3) := dc_of qt_q37_cX1_dropUnreached 11 rfl
theorem dX1_dropUnreached_20 : decode cX1_dropUnreached 20 = .ok (.iload_n 2, 1) := dc_of qt_q37_cX1_dropUnreached 12 rfl
theorem dX1_dropUnreached_21 : decode cX1_dropUnreached 21 = .ok (.iaload, 1) := dc_of qt_q37_cX1_dropUnreached 13 rfl
theorem dX1_dropUnreached_22 : decode cX1_dropUnreached 22 = .ok (.istore_n 3, 1) := dc_of qt_q37_cX1_dropUnreached 14 rfl
theorem dX1_dropUnreached_23 : decode cX1_dropUnreached 23 = .ok (.aload_n 0, 1) := dc_of qt_q37_cX1_dropUnreached 15 rfl
theorem dX1_dropUnreached_24 : decode cX1_dropUnreached 24 = .ok (.getfield 31, 3) := dc_of qt_q37_cX1_dropUnreached 16 rfl
theorem dX1_dropUnreached_27 : decode cX1_dropUnreached 27 = .ok (.iload_n 3, 1) := dc_of qt_q37_cX1_dropUnreached 17 rfl
theorem dX1_dropUnreached_28 : decode cX1_dropUnreached 28 = .ok (.iload_n 1, 1) := dc_of qt_q37_cX1_dropUnreached 18 rfl
theorem dX1_dropUnreached_29 : decode cX1_dropUnreached 29 = .ok (.iastore, 1) := dc_of qt_q37_cX1_dropUnreached 19 rfl
theorem dX1_dropUnreached_30 : decode cX1_dropUnreached 30 = .ok (.aload_n 0, 1) := dc_of qt_q37_cX1_dropUnreached 20 rfl
theorem dX1_dropUnreached_31 : decode cX1_dropUnreached 31 = .ok (.getfield 25, 3) := dc_of qt_q37_cX1_dropUnreached 21 rfl
theorem dX1_dropUnreached_34 : decode cX1_dropUnreached 34 = .ok (.iload_n 3, 1) := dc_of qt_q37_cX1_dropUnreached 22 rfl
theorem dX1_dropUnreached_35 : decode cX1_dropUnreached 35 = .ok (.iaload, 1) := dc_of qt_q37_cX1_dropUnreached 23 rfl
def ql_q38_cX1_dropUnreached : List (Nat × Jvm.ClassFile.Instr × Nat) := [(36, .iconst (-1), 1), (37, .if_icmp .eq 17, 3), (40, .iload_n 1, 1), (41, .iconst 1, 1), (42, .aload_n 0, 1), (43, .getfield 9, 3), (46, .iload_n 3, 1), (47, .iaload, 1), (48, .invokestatic 50, 3), (51, .iadd, 1), (52, .iadd, 1), (53, .istore_n 1, 1), (54, .iinc 2 1, 3), (57, .goto (-49), 3), (60, .aload_n 0, 1), (61, .aload_n 0, 1), (62, .getfield 18, 3), (65, .invokevirtual 93, 3), (68, .pop, 1), (69, .aload_n 0, 1), (70, .invokevirtual 103, 3), (73, .iload_n 1, 1), (74, .istore_n 2, 1), (75, .iload_n 2, 1)]
theorem qt_q38_cX1_dropUnreached : dcAll cX1_dropUnreached ql_q38_cX1_dropUnreached = true := by decide +kernel
theorem dX1_dropUnreached_36 : decode cX1_dropUnreached 36 = .ok (.iconst (-1), 1) := dc_of qt_q38_cX1_dropUnreached 0 rfl
theorem dX1_dropUnreached_37 : decode cX1_dropUnreached 37 = .ok (.if_icmp .eq 17, 3) := dc_of qt_q38_cX1_dropUnreached 1 rfl
theorem dX1_dropUnreached_40 : decode cX1_dropUnreached 40 = .ok (.iload_n 1, 1) := dc_of qt_q38_cX1_dropUnreached 2 rfl
theorem dX1_dropUnreached_41 : decode cX1_dropUnreached 41 = .ok (.iconst 1, 1) := dc_of qt_q38_cX1_dropUnreached 3 rfl
theorem dX1_dropUnreached_42 : decode cX1_dropUnreached 42 = .ok (.aload_n 0, 1) := dc_of qt_q38_cX1_dropUnreached 4 rfl
theorem dX1_dropUnreached_43 : decode cX1_dropUnreached 43 = .ok (.getfield 9, 3) := dc_of qt_q38_cX1_dropUnreached 5 rfl
theorem dX1_dropUnreached_46 : decode cX1_dropUnreached 46 = .ok (.iload_n 3, 1) := dc_of qt_q38_cX1_dropUnreached 6 rfl
theorem dX1_dropUnreached_47 : decode cX1_dropUnreached 47 = .ok (.iaload, 1) := dc_of qt_q38_cX1_dropUnreached 7 rfl
theorem dX1_dropUnreached_48 : decode cX1_dropUnreached 48 = .ok (.invokestatic 50, 3) := dc_of qt_q38_cX1_dropUnreached 8 rfl
theorem dX1_dropUnreached_51 : decode cX1_dropUnreached 51 = .ok (.iadd, 1) := dc_of qt_q38_cX1_dropUnreached 9 rfl
theorem dX1_dropUnreached_52 : decode cX1_dropUnreached 52 = .ok (.iadd, 1) := dc_of qt_q38_cX1_dropUnreached 10 rfl
theorem dX1_dropUnreached_53 : decode cX1_dropUnreached 53 = .ok (.istore_n 1, 1) := dc_of qt_q38_cX1_dropUnreached 11 rfl
theorem dX1_dropUnreached_54 : decode cX1_dropUnreached 54 = .ok (.iinc 2 1, 3) := dc_of qt_q38_cX1_dropUnreached 12 rfl
theorem dX1_dropUnreached_57 : decode cX1_dropUnreached 57 = .ok (.goto (-49), 3) := dc_of qt_q38_cX1_dropUnreached 13 rfl
theorem dX1_dropUnreached_60 : decode cX1_dropUnreached 60 = .ok (.aload_n 0, 1) := dc_of qt_q38_cX1_dropUnreached 14 rfl
theorem dX1_dropUnreached_61 : decode cX1_dropUnreached 61 = .ok (.aload_n 0, 1) := dc_of qt_q38_cX1_dropUnreached 15 rfl
theorem dX1_dropUnreached_62 : decode cX1_dropUnreached 62 = .ok (.getfield 18, 3) := dc_of qt_q38_cX1_dropUnreached 16 rfl
theorem dX1_dropUnreached_65 : decode cX1_dropUnreached 65 = .ok (.invokevirtual 93, 3) := dc_of qt_q38_cX1_dropUnreached 17 rfl
theorem dX1_dropUnreached_68 : decode cX1_dropUnreached 68 = .ok (.pop, 1) := dc_of qt_q38_cX1_dropUnreached 18 rfl
theorem dX1_dropUnreached_69 : decode cX1_dropUnreached 69 = .ok (.aload_n 0, 1) := dc_of qt_q38_cX1_dropUnreached 19 rfl
theorem dX1_dropUnreached_70 : decode cX1_dropUnreached 70 = .ok (.invokevirtual 103, 3) := dc_of qt_q38_cX1_dropUnreached 20 rfl
theorem dX1_dropUnreached_73 : decode cX1_dropUnreached 73 = .ok (.iload_n 1, 1) := dc_of qt_q38_cX1_dropUnreached 21 rfl
theorem dX1_dropUnreached_74 : decode cX1_dropUnreached 74 = .ok (.istore_n 2, 1) := dc_of qt_q38_cX1_dropUnreached 22 rfl
theorem dX1_dropUnreached_75 : decode cX1_dropUnreached 75 = .ok (.iload_n 2, 1) := dc_of qt_q38_cX1_dropUnreached 23 rfl
def ql_q39_cX1_dropUnreached : List (Nat × Jvm.ClassFile.Instr × Nat) := [(76, .sipush 256, 3), (79, .if_icmp .ge 16, 3), (82, .aload_n 0, 1), (83, .getfield 9, 3), (86, .iload_n 2, 1), (87, .iconst 0, 1), (88, .iastore, 1), (89, .iinc 2 1, 3), (92, .goto (-17), 3), (95, .aload_n 0, 1), (96, .getfield 40, 3), (99, .iload_n 1, 1), (100, .isub, 1), (101, .istore_n 2, 1), (102, .aload_n 0, 1), (103, .iload_n 1, 1), (104, .putfield 40, 3), (107, .iload_n 2, 1), (108, .ireturn, 1)]
theorem qt_q39_cX1_dropUnreached : dcAll cX1_dropUnreached ql_q39_cX1_dropUnreached = true := by decide +kernel
theorem dX1_dropUnreached_76 : decode cX1_dropUnreached 76 = .ok (.sipush 256, 3) := dc_of qt_q39_cX1_dropUnreached 0 rfl
theorem dX1_dropUnreached_79 : decode cX1_dropUnreached 79 = .ok (.if_icmp .ge 16, 3) := dc_of qt_q39_cX1_dropUnreached 1 rfl
theorem dX1_dropUnreached_82 : decode cX1_dropUnreached 82 = .ok (.aload_n 0, 1) := dc_of qt_q39_cX1_dropUnreached 2 rfl
theorem dX1_dropUnreached_83 : decode cX1_dropUnreached 83 = .ok (.getfield 9, 3) := dc_of qt_q39_cX1_dropUnreached 3 rfl
theorem dX1_dropUnreached_86 : decode cX1_dropUnreached 86 = .ok (.iload_n 2, 1) := dc_of qt_q39_cX1_dropUnreached 4 rfl
theorem dX1_dropUnreached_87 : decode cX1_dropUnreached 87 = .ok (.iconst 0, 1) := dc_of qt_q39_cX1_dropUnreached 5 rfl
theorem dX1_dropUnreached_88 : decode cX1_dropUnreached 88 = .ok (.iastore, 1) := dc_of qt_q39_cX1_dropUnreached 6 rfl
theorem dX1_dropUnreached_89 : decode cX1_dropUnreached 89 = .ok (.iinc 2 1, 3) := dc_of qt_q39_cX1_dropUnreached 7 rfl
theorem dX1_dropUnreached_92 : decode cX1_dropUnreached 92 = .ok (.goto (-17), 3) := dc_of qt_q39_cX1_dropUnreached 8 rfl
theorem dX1_dropUnreached_95 : decode cX1_dropUnreached 95 = .ok (.aload_n 0, 1) := dc_of qt_q39_cX1_dropUnreached 9 rfl
theorem dX1_dropUnreached_96 : decode cX1_dropUnreached 96 = .ok (.getfield 40, 3) := dc_of qt_q39_cX1_dropUnreached 10 rfl
theorem dX1_dropUnreached_99 : decode cX1_dropUnreached 99 = .ok (.iload_n 1, 1) := dc_of qt_q39_cX1_dropUnreached 11 rfl
theorem dX1_dropUnreached_100 : decode cX1_dropUnreached 100 = .ok (.isub, 1) := dc_of qt_q39_cX1_dropUnreached 12 rfl
theorem dX1_dropUnreached_101 : decode cX1_dropUnreached 101 = .ok (.istore_n 2, 1) := dc_of qt_q39_cX1_dropUnreached 13 rfl
theorem dX1_dropUnreached_102 : decode cX1_dropUnreached 102 = .ok (.aload_n 0, 1) := dc_of qt_q39_cX1_dropUnreached 14 rfl
theorem dX1_dropUnreached_103 : decode cX1_dropUnreached 103 = .ok (.iload_n 1, 1) := dc_of qt_q39_cX1_dropUnreached 15 rfl
theorem dX1_dropUnreached_104 : decode cX1_dropUnreached 104 = .ok (.putfield 40, 3) := dc_of qt_q39_cX1_dropUnreached 16 rfl
theorem dX1_dropUnreached_107 : decode cX1_dropUnreached 107 = .ok (.iload_n 2, 1) := dc_of qt_q39_cX1_dropUnreached 17 rfl
theorem dX1_dropUnreached_108 : decode cX1_dropUnreached 108 = .ok (.ireturn, 1) := dc_of qt_q39_cX1_dropUnreached 18 rfl
set_option maxRecDepth 20000 in
theorem ggX1_slideToTargets_X3_slotsOf : GoodIn wsX1_slideToTargets wsX3_slotsOf := goodIn_r _ [12] rfl (by decide +kernel)
def ql_q40_cX1_slideToTargets : List (Nat × Jvm.ClassFile.Instr × Nat) := [(0, .iconst 0, 1), (1, .istore_n 1, 1), (2, .iload_n 1, 1), (3, .aload_n 0, 1), (4, .getfield 43, 3), (7, .if_icmp .ge 55, 3), (10, .aload_n 0, 1), (11, .getfield 22, 3), (14, .iload_n 1, 1), (15, .iaload, 1), (16, .istore_n 2, 1), (17, .aload_n 0, 1), (18, .getfield 25, 3), (21, .iload_n 2, 1), (22, .iaload, 1), (23, .iconst (-1), 1), (24, .if_icmp .eq 32, 3), (27, .aload_n 0, 1), (28, .getfield 9, 3), (31, .iload_n 2, 1), (32, .aload_n 0, 1), (33, .getfield 9, 3), (36, .aload_n 0, 1), (37, .getfield 31, 3)]
theorem qt_q40_cX1_slideToTargets : dcAll cX1_slideToTargets ql_q40_cX1_slideToTargets = true := by decide +kernel
theorem dX1_slideToTargets_0 : decode cX1_slideToTargets 0 = .ok (.iconst 0, 1) := dc_of qt_q40_cX1_slideToTargets 0 rfl
theorem dX1_slideToTargets_1 : decode cX1_slideToTargets 1 = .ok (.istore_n 1, 1) := dc_of qt_q40_cX1_slideToTargets 1 rfl
theorem dX1_slideToTargets_2 : decode cX1_slideToTargets 2 = .ok (.iload_n 1, 1) := dc_of qt_q40_cX1_slideToTargets 2 rfl
theorem dX1_slideToTargets_3 : decode cX1_slideToTargets 3 = .ok (.aload_n 0, 1) := dc_of qt_q40_cX1_slideToTargets 3 rfl
theorem dX1_slideToTargets_4 : decode cX1_slideToTargets 4 = .ok (.getfield 43, 3) := dc_of qt_q40_cX1_slideToTargets 4 rfl
theorem dX1_slideToTargets_7 : decode cX1_slideToTargets 7 = .ok (.if_icmp .ge 55, 3) := dc_of qt_q40_cX1_slideToTargets 5 rfl
theorem dX1_slideToTargets_10 : decode cX1_slideToTargets 10 = .ok (.aload_n 0, 1) := dc_of qt_q40_cX1_slideToTargets 6 rfl
theorem dX1_slideToTargets_11 : decode cX1_slideToTargets 11 = .ok (.getfield 22, 3) := dc_of qt_q40_cX1_slideToTargets 7 rfl
theorem dX1_slideToTargets_14 : decode cX1_slideToTargets 14 = .ok (.iload_n 1, 1) := dc_of qt_q40_cX1_slideToTargets 8 rfl
theorem dX1_slideToTargets_15 : decode cX1_slideToTargets 15 = .ok (.iaload, 1) := dc_of qt_q40_cX1_slideToTargets 9 rfl
theorem dX1_slideToTargets_16 : decode cX1_slideToTargets 16 = .ok (.istore_n 2, 1) := dc_of qt_q40_cX1_slideToTargets 10 rfl
theorem dX1_slideToTargets_17 : decode cX1_slideToTargets 17 = .ok (.aload_n 0, 1) := dc_of qt_q40_cX1_slideToTargets 11 rfl
theorem dX1_slideToTargets_18 : decode cX1_slideToTargets 18 = .ok (.getfield 25, 3) := dc_of qt_q40_cX1_slideToTargets 12 rfl
theorem dX1_slideToTargets_21 : decode cX1_slideToTargets 21 = .ok (.iload_n 2, 1) := dc_of qt_q40_cX1_slideToTargets 13 rfl
theorem dX1_slideToTargets_22 : decode cX1_slideToTargets 22 = .ok (.iaload, 1) := dc_of qt_q40_cX1_slideToTargets 14 rfl
theorem dX1_slideToTargets_23 : decode cX1_slideToTargets 23 = .ok (.iconst (-1), 1) := dc_of qt_q40_cX1_slideToTargets 15 rfl
theorem dX1_slideToTargets_24 : decode cX1_slideToTargets 24 = .ok (.if_icmp .eq 32, 3) := dc_of qt_q40_cX1_slideToTargets 16 rfl
theorem dX1_slideToTargets_27 : decode cX1_slideToTargets 27 = .ok (.aload_n 0, 1) := dc_of qt_q40_cX1_slideToTargets 17 rfl
theorem dX1_slideToTargets_28 : decode cX1_slideToTargets 28 = .ok (.getfield 9, 3) := dc_of qt_q40_cX1_slideToTargets 18 rfl
theorem dX1_slideToTargets_31 : decode cX1_slideToTargets 31 = .ok (.iload_n 2, 1) := dc_of qt_q40_cX1_slideToTargets 19 rfl
theorem dX1_slideToTargets_32 : decode cX1_slideToTargets 32 = .ok (.aload_n 0, 1) := dc_of qt_q40_cX1_slideToTargets 20 rfl
theorem dX1_slideToTargets_33 : decode cX1_slideToTargets 33 = .ok (.getfield 9, 3) := dc_of qt_q40_cX1_slideToTargets 21 rfl
theorem dX1_slideToTargets_36 : decode cX1_slideToTargets 36 = .ok (.aload_n 0, 1) := dc_of qt_q40_cX1_slideToTargets 22 rfl
theorem dX1_slideToTargets_37 : decode cX1_slideToTargets 37 = .ok (.getfield 31, 3) := dc_of qt_q40_cX1_slideToTargets 23 rfl
def ql_q41_cX1_slideToTargets : List (Nat × Jvm.ClassFile.Instr × Nat) := [(40, .iload_n 2, 1), (41, .iaload, 1), (42, .iconst 1, 1), (43, .aload_n 0, 1), (44, .getfield 9, 3), (47, .iload_n 2, 1), (48, .iaload, 1), (49, .invokestatic 50, 3), (52, .iadd, 1), (53, .invokestatic 106, 3), (56, .iinc 1 1, 3), (59, .goto (-57), 3), (62, .return_, 1)]
theorem qt_q41_cX1_slideToTargets : dcAll cX1_slideToTargets ql_q41_cX1_slideToTargets = true := by decide +kernel
theorem dX1_slideToTargets_40 : decode cX1_slideToTargets 40 = .ok (.iload_n 2, 1) := dc_of qt_q41_cX1_slideToTargets 0 rfl
theorem dX1_slideToTargets_41 : decode cX1_slideToTargets 41 = .ok (.iaload, 1) := dc_of qt_q41_cX1_slideToTargets 1 rfl
theorem dX1_slideToTargets_42 : decode cX1_slideToTargets 42 = .ok (.iconst 1, 1) := dc_of qt_q41_cX1_slideToTargets 2 rfl
theorem dX1_slideToTargets_43 : decode cX1_slideToTargets 43 = .ok (.aload_n 0, 1) := dc_of qt_q41_cX1_slideToTargets 3 rfl
theorem dX1_slideToTargets_44 : decode cX1_slideToTargets 44 = .ok (.getfield 9, 3) := dc_of qt_q41_cX1_slideToTargets 4 rfl
theorem dX1_slideToTargets_47 : decode cX1_slideToTargets 47 = .ok (.iload_n 2, 1) := dc_of qt_q41_cX1_slideToTargets 5 rfl
theorem dX1_slideToTargets_48 : decode cX1_slideToTargets 48 = .ok (.iaload, 1) := dc_of qt_q41_cX1_slideToTargets 6 rfl
theorem dX1_slideToTargets_49 : decode cX1_slideToTargets 49 = .ok (.invokestatic 50, 3) := dc_of qt_q41_cX1_slideToTargets 7 rfl
theorem dX1_slideToTargets_52 : decode cX1_slideToTargets 52 = .ok (.iadd, 1) := dc_of qt_q41_cX1_slideToTargets 8 rfl
theorem dX1_slideToTargets_53 : decode cX1_slideToTargets 53 = .ok (.invokestatic 106, 3) := dc_of qt_q41_cX1_slideToTargets 9 rfl
theorem dX1_slideToTargets_56 : decode cX1_slideToTargets 56 = .ok (.iinc 1 1, 3) := dc_of qt_q41_cX1_slideToTargets 10 rfl
theorem dX1_slideToTargets_59 : decode cX1_slideToTargets 59 = .ok (.goto (-57), 3) := dc_of qt_q41_cX1_slideToTargets 11 rfl
theorem dX1_slideToTargets_62 : decode cX1_slideToTargets 62 = .ok (.return_, 1) := dc_of qt_q41_cX1_slideToTargets 12 rfl
set_option maxRecDepth 20000 in
theorem ggX1_writeTo_X1_findOrder : GoodIn wsX1_writeTo wsX1_findOrder := goodIn_r _ [8, 1, 2, 9, 3, 10, 11, 12, 7, 13, 14, 15, 16, 17, 18, 19, 20, 21, 22, 23, 24, 25, 26, 27, 28, 72, 73, 74, 75, 76, 77, 78, 79, 80, 81] rfl (by decide +kernel)
set_option maxRecDepth 20000 in
theorem ggX1_writeTo_X0_add : GoodIn wsX1_writeTo wsX0_add := goodIn_r _ [33, 34, 35, 70, 71] rfl (by decide +kernel)
set_option maxRecDepth 20000 in
theorem ggX1_writeTo_X0_addCount : GoodIn wsX1_writeTo wsX0_addCount := goodIn_r _ [39, 40, 41, 42, 30, 31, 32, 33, 34, 35, 70, 71] rfl (by decide +kernel)
set_option maxRecDepth 20000 in
theorem ggX1_writeTo_X1_writeValues : GoodIn wsX1_writeTo wsX1_writeValues := goodIn_r _ [46, 47, 48, 49, 7, 50, 51, 52, 53, 54, 14, 55, 21, 56, 15, 16, 17, 18, 19, 36, 37, 38, 32, 39, 40, 41, 42, 30, 31, 33, 34, 35, 72, 73, 74, 75, 76, 77, 78, 79, 80, 81, 70, 71] rfl (by decide +kernel)
set_option maxRecDepth 20000 in
theorem ggX1_writeTo_X1_writeObject : GoodIn wsX1_writeTo wsX1_writeObject := goodIn_r _ [60, 9, 24, 21, 25, 27, 28, 36, 37, 38, 32, 39, 40, 41, 42, 30, 31, 33, 34, 35, 43, 44, 45, 7, 46, 47, 48, 49, 50, 51, 52, 53, 54, 14, 55, 56, 15, 16, 17, 18, 19, 61, 62, 63, 64, 72, 73, 74, 75, 76, 77, 78, 79, 80, 81, 70, 71] rfl (by decide +kernel)
set_option maxRecDepth 20000 in
theorem ggX1_writeTo_X0_sumOf : GoodIn wsX1_writeTo wsX0_sumOf := goodIn_r _ [68, 35, 69, 70, 71] rfl (by decide +kernel)
set_option maxRecDepth 20000 in
theorem ggX1_writeTo_X0_addTwo : GoodIn wsX1_writeTo wsX0_addTwo := goodIn_r _ [64, 42, 30, 31, 32, 33, 34, 35, 70, 71] rfl (by decide +kernel)
def ql_q42_cX1_writeTo : List (Nat × Jvm.ClassFile.Instr × Nat) := [(0, .aload_n 0, 1), (1, .invokevirtual 100, 3), (4, .aload_n 1, 1), (5, .iconst 0, 1), (6, .putfield 112, 3), (9, .aload_n 1, 1), (10, .bipush 72, 2), (12, .invokevirtual 117, 3), (15, .aload_n 1, 1), (16, .bipush 73, 2), (18, .invokevirtual 117, 3), (21, .aload_n 1, 1), (22, .iconst 1, 1), (23, .invokevirtual 117, 3), (26, .aload_n 1, 1), (27, .aload_n 0, 1), (28, .getfield 86, 3), (31, .i2l, 1), (32, .invokevirtual 121, 3), (35, .aload_n 0, 1), (36, .aload_n 1, 1), (37, .aload_n 0, 1), (38, .getfield 15, 3), (41, .iconst 0, 1)]
theorem qt_q42_cX1_writeTo : dcAll cX1_writeTo ql_q42_cX1_writeTo = true := by decide +kernel
theorem dX1_writeTo_0 : decode cX1_writeTo 0 = .ok (.aload_n 0, 1) := dc_of qt_q42_cX1_writeTo 0 rfl
theorem dX1_writeTo_1 : decode cX1_writeTo 1 = .ok (.invokevirtual 100, 3) := dc_of qt_q42_cX1_writeTo 1 rfl
theorem dX1_writeTo_4 : decode cX1_writeTo 4 = .ok (.aload_n 1, 1) := dc_of qt_q42_cX1_writeTo 2 rfl
theorem dX1_writeTo_5 : decode cX1_writeTo 5 = .ok (.iconst 0, 1) := dc_of qt_q42_cX1_writeTo 3 rfl
theorem dX1_writeTo_6 : decode cX1_writeTo 6 = .ok (.putfield 112, 3) := dc_of qt_q42_cX1_writeTo 4 rfl
theorem dX1_writeTo_9 : decode cX1_writeTo 9 = .ok (.aload_n 1, 1) := dc_of qt_q42_cX1_writeTo 5 rfl
theorem dX1_writeTo_10 : decode cX1_writeTo 10 = .ok (.bipush 72, 2) := dc_of qt_q42_cX1_writeTo 6 rfl
theorem dX1_writeTo_12 : decode cX1_writeTo 12 = .ok (.invokevirtual 117, 3) := dc_of qt_q42_cX1_writeTo 7 rfl
theorem dX1_writeTo_15 : decode cX1_writeTo 15 = .ok (.aload_n 1, 1) := dc_of qt_q42_cX1_writeTo 8 rfl
theorem dX1_writeTo_16 : decode cX1_writeTo 16 = .ok (.bipush 73, 2) := dc_of qt_q42_cX1_writeTo 9 rfl
theorem dX1_writeTo_18 : decode cX1_writeTo 18 = .ok (.invokevirtual 117, 3) := dc_of qt_q42_cX1_writeTo 10 rfl
theorem dX1_writeTo_21 : decode cX1_writeTo 21 = .ok (.aload_n 1, 1) := dc_of qt_q42_cX1_writeTo 11 rfl
theorem dX1_writeTo_22 : decode cX1_writeTo 22 = .ok (.iconst 1, 1) := dc_of qt_q42_cX1_writeTo 12 rfl
theorem dX1_writeTo_23 : decode cX1_writeTo 23 = .ok (.invokevirtual 117, 3) := dc_of qt_q42_cX1_writeTo 13 rfl
theorem dX1_writeTo_26 : decode cX1_writeTo 26 = .ok (.aload_n 1, 1) := dc_of qt_q42_cX1_writeTo 14 rfl
theorem dX1_writeTo_27 : decode cX1_writeTo 27 = .ok (.aload_n 0, 1) := dc_of qt_q42_cX1_writeTo 15 rfl
theorem dX1_writeTo_28 : decode cX1_writeTo 28 = .ok (.getfield 86, 3) := dc_of qt_q42_cX1_writeTo 16 rfl
theorem dX1_writeTo_31 : decode cX1_writeTo 31 = .ok (.i2l, 1) := dc_of qt_q42_cX1_writeTo 17 rfl
theorem dX1_writeTo_32 : decode cX1_writeTo 32 = .ok (.invokevirtual 121, 3) := dc_of qt_q42_cX1_writeTo 18 rfl
theorem dX1_writeTo_35 : decode cX1_writeTo 35 = .ok (.aload_n 0, 1) := dc_of qt_q42_cX1_writeTo 19 rfl
theorem dX1_writeTo_36 : decode cX1_writeTo 36 = .ok (.aload_n 1, 1) := dc_of qt_q42_cX1_writeTo 20 rfl
theorem dX1_writeTo_37 : decode cX1_writeTo 37 = .ok (.aload_n 0, 1) := dc_of qt_q42_cX1_writeTo 21 rfl
theorem dX1_writeTo_38 : decode cX1_writeTo 38 = .ok (.getfield 15, 3) := dc_of qt_q42_cX1_writeTo 22 rfl
theorem dX1_writeTo_41 : decode cX1_writeTo 41 = .ok (.iconst 0, 1) := dc_of qt_q42_cX1_writeTo 23 rfl
def ql_q43_cX1_writeTo : List (Nat × Jvm.ClassFile.Instr × Nat) := [(42, .iconst 4, 1), (43, .invokevirtual 125, 3), (46, .iconst 0, 1), (47, .istore_n 2, 1), (48, .iload_n 2, 1), (49, .aload_n 0, 1), (50, .getfield 86, 3), (53, .if_icmp .ge 20, 3), (56, .aload_n 0, 1), (57, .aload_n 1, 1), (58, .aload_n 0, 1), (59, .getfield 28, 3), (62, .iload_n 2, 1), (63, .iaload, 1), (64, .invokevirtual 129, 3), (67, .iinc 2 1, 3), (70, .goto (-22), 3), (73, .aload_n 1, 1), (74, .aload_n 1, 1), (75, .aload_n 1, 1), (76, .getfield 112, 3), (79, .invokevirtual 133, 3), (82, .invokevirtual 136, 3), (85, .return_, 1)]
theorem qt_q43_cX1_writeTo : dcAll cX1_writeTo ql_q43_cX1_writeTo = true := by decide +kernel
theorem dX1_writeTo_42 : decode cX1_writeTo 42 = .ok (.iconst 4, 1) := dc_of qt_q43_cX1_writeTo 0 rfl
theorem dX1_writeTo_43 : decode cX1_writeTo 43 = .ok (.invokevirtual 125, 3) := dc_of qt_q43_cX1_writeTo 1 rfl
theorem dX1_writeTo_46 : decode cX1_writeTo 46 = .ok (.iconst 0, 1) := dc_of qt_q43_cX1_writeTo 2 rfl
theorem dX1_writeTo_47 : decode cX1_writeTo 47 = .ok (.istore_n 2, 1) := dc_of qt_q43_cX1_writeTo 3 rfl
theorem dX1_writeTo_48 : decode cX1_writeTo 48 = .ok (.iload_n 2, 1) := dc_of qt_q43_cX1_writeTo 4 rfl
theorem dX1_writeTo_49 : decode cX1_writeTo 49 = .ok (.aload_n 0, 1) := dc_of qt_q43_cX1_writeTo 5 rfl
theorem dX1_writeTo_50 : decode cX1_writeTo 50 = .ok (.getfield 86, 3) := dc_of qt_q43_cX1_writeTo 6 rfl
theorem dX1_writeTo_53 : decode cX1_writeTo 53 = .ok (.if_icmp .ge 20, 3) := dc_of qt_q43_cX1_writeTo 7 rfl
theorem dX1_writeTo_56 : decode cX1_writeTo 56 = .ok (.aload_n 0, 1) := dc_of qt_q43_cX1_writeTo 8 rfl
theorem dX1_writeTo_57 : decode cX1_writeTo 57 = .ok (.aload_n 1, 1) := dc_of qt_q43_cX1_writeTo 9 rfl
theorem dX1_writeTo_58 : decode cX1_writeTo 58 = .ok (.aload_n 0, 1) := dc_of qt_q43_cX1_writeTo 10 rfl
theorem dX1_writeTo_59 : decode cX1_writeTo 59 = .ok (.getfield 28, 3) := dc_of qt_q43_cX1_writeTo 11 rfl
theorem dX1_writeTo_62 : decode cX1_writeTo 62 = .ok (.iload_n 2, 1) := dc_of qt_q43_cX1_writeTo 12 rfl
theorem dX1_writeTo_63 : decode cX1_writeTo 63 = .ok (.iaload, 1) := dc_of qt_q43_cX1_writeTo 13 rfl
theorem dX1_writeTo_64 : decode cX1_writeTo 64 = .ok (.invokevirtual 129, 3) := dc_of qt_q43_cX1_writeTo 14 rfl
theorem dX1_writeTo_67 : decode cX1_writeTo 67 = .ok (.iinc 2 1, 3) := dc_of qt_q43_cX1_writeTo 15 rfl
theorem dX1_writeTo_70 : decode cX1_writeTo 70 = .ok (.goto (-22), 3) := dc_of qt_q43_cX1_writeTo 16 rfl
theorem dX1_writeTo_73 : decode cX1_writeTo 73 = .ok (.aload_n 1, 1) := dc_of qt_q43_cX1_writeTo 17 rfl
theorem dX1_writeTo_74 : decode cX1_writeTo 74 = .ok (.aload_n 1, 1) := dc_of qt_q43_cX1_writeTo 18 rfl
theorem dX1_writeTo_75 : decode cX1_writeTo 75 = .ok (.aload_n 1, 1) := dc_of qt_q43_cX1_writeTo 19 rfl
theorem dX1_writeTo_76 : decode cX1_writeTo 76 = .ok (.getfield 112, 3) := dc_of qt_q43_cX1_writeTo 20 rfl
theorem dX1_writeTo_79 : decode cX1_writeTo 79 = .ok (.invokevirtual 133, 3) := dc_of qt_q43_cX1_writeTo 21 rfl
theorem dX1_writeTo_82 : decode cX1_writeTo 82 = .ok (.invokevirtual 136, 3) := dc_of qt_q43_cX1_writeTo 22 rfl
theorem dX1_writeTo_85 : decode cX1_writeTo 85 = .ok (.return_, 1) := dc_of qt_q43_cX1_writeTo 23 rfl
set_option maxRecDepth 20000 in
theorem ggX1_writeObject_X3_kindOf : GoodIn wsX1_writeObject wsX3_kindOf := goodIn_r _ [4] rfl (by decide +kernel)
set_option maxRecDepth 20000 in
theorem ggX1_writeObject_X3_slotsOf : GoodIn wsX1_writeObject wsX3_slotsOf := goodIn_r _ [6] rfl (by decide +kernel)
set_option maxRecDepth 20000 in
theorem ggX1_writeObject_X0_addCount : GoodIn wsX1_writeObject wsX0_addCount := goodIn_r _ [11, 12, 13, 14, 15, 16, 10, 17, 18, 19, 55, 56] rfl (by decide +kernel)
set_option maxRecDepth 20000 in
theorem ggX1_writeObject_X1_writeValues : GoodIn wsX1_writeObject wsX1_writeValues := goodIn_r _ [24, 25, 26, 27, 23, 28, 29, 30, 31, 32, 33, 34, 3, 35, 36, 37, 38, 39, 40, 7, 8, 9, 10, 11, 12, 13, 14, 15, 16, 17, 18, 19, 45, 46, 47, 48, 49, 50, 51, 52, 53, 54, 55, 56] rfl (by decide +kernel)
set_option maxRecDepth 20000 in
theorem ggX1_writeObject_X0_addTwo : GoodIn wsX1_writeObject wsX0_addTwo := goodIn_r _ [44, 14, 15, 16, 10, 17, 18, 19, 55, 56] rfl (by decide +kernel)
def ql_q44_cX1_writeObject : List (Nat × Jvm.ClassFile.Instr × Nat) := [(0, .aload_n 0, 1), (1, .getfield 9, 3), (4, .iload_n 2, 1), (5, .iaload, 1), (6, .invokestatic 67, 3), (9, .istore_n 3, 1), (10, .aload_n 0, 1), (11, .getfield 9, 3), (14, .iload_n 2, 1), (15, .iaload, 1), (16, .invokestatic 50, 3), (19, .istore 4, 2), (21, .aload_n 1, 1), (22, .iload_n 3, 1), (23, .i2l, 1), (24, .invokevirtual 121, 3), (27, .aload_n 1, 1), (28, .iload 4, 2), (30, .i2l, 1), (31, .invokevirtual 121, 3), (34, .iload_n 3, 1), (35, .iconst 2, 1), (36, .if_icmp .eq 18, 3), (39, .aload_n 0, 1)]
theorem qt_q44_cX1_writeObject : dcAll cX1_writeObject ql_q44_cX1_writeObject = true := by decide +kernel
theorem dX1_writeObject_0 : decode cX1_writeObject 0 = .ok (.aload_n 0, 1) := dc_of qt_q44_cX1_writeObject 0 rfl
theorem dX1_writeObject_1 : decode cX1_writeObject 1 = .ok (.getfield 9, 3) := dc_of qt_q44_cX1_writeObject 1 rfl
theorem dX1_writeObject_4 : decode cX1_writeObject 4 = .ok (.iload_n 2, 1) := dc_of qt_q44_cX1_writeObject 2 rfl
theorem dX1_writeObject_5 : decode cX1_writeObject 5 = .ok (.iaload, 1) := dc_of qt_q44_cX1_writeObject 3 rfl
theorem dX1_writeObject_6 : decode cX1_writeObject 6 = .ok (.invokestatic 67, 3) := dc_of qt_q44_cX1_writeObject 4 rfl
theorem dX1_writeObject_9 : decode cX1_writeObject 9 = .ok (.istore_n 3, 1) := dc_of qt_q44_cX1_writeObject 5 rfl
theorem dX1_writeObject_10 : decode cX1_writeObject 10 = .ok (.aload_n 0, 1) := dc_of qt_q44_cX1_writeObject 6 rfl
theorem dX1_writeObject_11 : decode cX1_writeObject 11 = .ok (.getfield 9, 3) := dc_of qt_q44_cX1_writeObject 7 rfl
theorem dX1_writeObject_14 : decode cX1_writeObject 14 = .ok (.iload_n 2, 1) := dc_of qt_q44_cX1_writeObject 8 rfl
theorem dX1_writeObject_15 : decode cX1_writeObject 15 = .ok (.iaload, 1) := dc_of qt_q44_cX1_writeObject 9 rfl
theorem dX1_writeObject_16 : decode cX1_writeObject 16 = .ok (.invokestatic 50, 3) := dc_of qt_q44_cX1_writeObject 10 rfl
theorem dX1_writeObject_19 : decode cX1_writeObject 19 = .ok (.istore 4, 2) := dc_of qt_q44_cX1_writeObject 11 rfl
theorem dX1_writeObject_21 : decode cX1_writeObject 21 = .ok (.aload_n 1, 1) := dc_of qt_q44_cX1_writeObject 12 rfl
theorem dX1_writeObject_22 : decode cX1_writeObject 22 = .ok (.iload_n 3, 1) := dc_of qt_q44_cX1_writeObject 13 rfl
theorem dX1_writeObject_23 : decode cX1_writeObject 23 = .ok (.i2l, 1) := dc_of qt_q44_cX1_writeObject 14 rfl
theorem dX1_writeObject_24 : decode cX1_writeObject 24 = .ok (.invokevirtual 121, 3) := dc_of qt_q44_cX1_writeObject 15 rfl
theorem dX1_writeObject_27 : decode cX1_writeObject 27 = .ok (.aload_n 1, 1) := dc_of qt_q44_cX1_writeObject 16 rfl
theorem dX1_writeObject_28 : decode cX1_writeObject 28 = .ok (.iload 4, 2) := dc_of qt_q44_cX1_writeObject 17 rfl
theorem dX1_writeObject_30 : decode cX1_writeObject 30 = .ok (.i2l, 1) := dc_of qt_q44_cX1_writeObject 18 rfl
theorem dX1_writeObject_31 : decode cX1_writeObject 31 = .ok (.invokevirtual 121, 3) := dc_of qt_q44_cX1_writeObject 19 rfl
theorem dX1_writeObject_34 : decode cX1_writeObject 34 = .ok (.iload_n 3, 1) := dc_of qt_q44_cX1_writeObject 20 rfl
theorem dX1_writeObject_35 : decode cX1_writeObject 35 = .ok (.iconst 2, 1) := dc_of qt_q44_cX1_writeObject 21 rfl
theorem dX1_writeObject_36 : decode cX1_writeObject 36 = .ok (.if_icmp .eq 18, 3) := dc_of qt_q44_cX1_writeObject 22 rfl
theorem dX1_writeObject_39 : decode cX1_writeObject 39 = .ok (.aload_n 0, 1) := dc_of qt_q44_cX1_writeObject 23 rfl
def ql_q45_cX1_writeObject : List (Nat × Jvm.ClassFile.Instr × Nat) := [(40, .aload_n 1, 1), (41, .aload_n 0, 1), (42, .getfield 9, 3), (45, .iload_n 2, 1), (46, .iconst 1, 1), (47, .iadd, 1), (48, .iload 4, 2), (50, .invokevirtual 125, 3), (53, .return_, 1), (54, .iload_n 2, 1), (55, .iconst 1, 1), (56, .iadd, 1), (57, .istore 5, 2), (59, .iload 5, 2), (61, .iload_n 2, 1), (62, .iload 4, 2), (64, .iadd, 1), (65, .if_icmp .gt 34, 3), (68, .aload_n 1, 1), (69, .aload_n 0, 1), (70, .getfield 9, 3), (73, .iload 5, 2), (75, .iaload, 1), (76, .invokevirtual 136, 3)]
theorem qt_q45_cX1_writeObject : dcAll cX1_writeObject ql_q45_cX1_writeObject = true := by decide +kernel
theorem dX1_writeObject_40 : decode cX1_writeObject 40 = .ok (.aload_n 1, 1) := dc_of qt_q45_cX1_writeObject 0 rfl
theorem dX1_writeObject_41 : decode cX1_writeObject 41 = .ok (.aload_n 0, 1) := dc_of qt_q45_cX1_writeObject 1 rfl
theorem dX1_writeObject_42 : decode cX1_writeObject 42 = .ok (.getfield 9, 3) := dc_of qt_q45_cX1_writeObject 2 rfl
theorem dX1_writeObject_45 : decode cX1_writeObject 45 = .ok (.iload_n 2, 1) := dc_of qt_q45_cX1_writeObject 3 rfl
theorem dX1_writeObject_46 : decode cX1_writeObject 46 = .ok (.iconst 1, 1) := dc_of qt_q45_cX1_writeObject 4 rfl
theorem dX1_writeObject_47 : decode cX1_writeObject 47 = .ok (.iadd, 1) := dc_of qt_q45_cX1_writeObject 5 rfl
theorem dX1_writeObject_48 : decode cX1_writeObject 48 = .ok (.iload 4, 2) := dc_of qt_q45_cX1_writeObject 6 rfl
theorem dX1_writeObject_50 : decode cX1_writeObject 50 = .ok (.invokevirtual 125, 3) := dc_of qt_q45_cX1_writeObject 7 rfl
theorem dX1_writeObject_53 : decode cX1_writeObject 53 = .ok (.return_, 1) := dc_of qt_q45_cX1_writeObject 8 rfl
theorem dX1_writeObject_54 : decode cX1_writeObject 54 = .ok (.iload_n 2, 1) := dc_of qt_q45_cX1_writeObject 9 rfl
theorem dX1_writeObject_55 : decode cX1_writeObject 55 = .ok (.iconst 1, 1) := dc_of qt_q45_cX1_writeObject 10 rfl
theorem dX1_writeObject_56 : decode cX1_writeObject 56 = .ok (.iadd, 1) := dc_of qt_q45_cX1_writeObject 11 rfl
theorem dX1_writeObject_57 : decode cX1_writeObject 57 = .ok (.istore 5, 2) := dc_of qt_q45_cX1_writeObject 12 rfl
theorem dX1_writeObject_59 : decode cX1_writeObject 59 = .ok (.iload 5, 2) := dc_of qt_q45_cX1_writeObject 13 rfl
theorem dX1_writeObject_61 : decode cX1_writeObject 61 = .ok (.iload_n 2, 1) := dc_of qt_q45_cX1_writeObject 14 rfl
theorem dX1_writeObject_62 : decode cX1_writeObject 62 = .ok (.iload 4, 2) := dc_of qt_q45_cX1_writeObject 15 rfl
theorem dX1_writeObject_64 : decode cX1_writeObject 64 = .ok (.iadd, 1) := dc_of qt_q45_cX1_writeObject 16 rfl
theorem dX1_writeObject_65 : decode cX1_writeObject 65 = .ok (.if_icmp .gt 34, 3) := dc_of qt_q45_cX1_writeObject 17 rfl
theorem dX1_writeObject_68 : decode cX1_writeObject 68 = .ok (.aload_n 1, 1) := dc_of qt_q45_cX1_writeObject 18 rfl
theorem dX1_writeObject_69 : decode cX1_writeObject 69 = .ok (.aload_n 0, 1) := dc_of qt_q45_cX1_writeObject 19 rfl
