set_option maxRecDepth 20000 in
theorem ggX1_faultInObject_X3_kindOf : GoodIn wsX1_faultInObject wsX3_kindOf := goodIn_r _ [4] rfl (by decide +kernel)
set_option maxRecDepth 20000 in
theorem ggX1_faultInObject_X3_valuesOf : GoodIn wsX1_faultInObject wsX3_valuesOf := goodIn_r _ [6, 7, 2, 3, 4, 8, 9, 10] rfl (by decide +kernel)
set_option maxRecDepth 20000 in
theorem ggX1_faultInObject_X1_faultInLink : GoodIn wsX1_faultInObject wsX1_faultInLink := goodIn_r _ [15, 16, 17, 18, 14, 19, 20, 3, 21, 22, 23, 24, 25, 26, 27, 32, 33, 34, 35, 36, 37, 38, 39, 40, 41] rfl (by decide +kernel)
set_option maxRecDepth 20000 in
theorem ggX1_faultInObject_X1_faultInCell : GoodIn wsX1_faultInObject wsX1_faultInCell := goodIn_r _ [31, 16, 17, 18, 14, 19, 20, 3, 21, 22, 23, 24, 25, 26, 27, 32, 33, 34, 35, 36, 37, 38, 39, 40, 41] rfl (by decide +kernel)
def ql_q22_cX1_faultInObject : List (Nat × Jvm.ClassFile.Instr × Nat) := [(0, .aload_n 0, 1), (1, .getfield 9, 3), (4, .iload_n 1, 1), (5, .iaload, 1), (6, .invokestatic 67, 3), (9, .iconst 3, 1), (10, .if_icmp .ne 7, 3), (13, .iconst 1, 1), (14, .goto 4, 3), (17, .iconst 0, 1), (18, .istore_n 2, 1), (19, .aload_n 0, 1), (20, .getfield 9, 3), (23, .iload_n 1, 1), (24, .iaload, 1), (25, .invokestatic 70, 3), (28, .istore_n 3, 1), (29, .iconst 0, 1), (30, .istore 4, 2), (32, .iload 4, 2), (34, .iload_n 3, 1), (35, .if_icmp .ge 65, 3), (38, .iload_n 1, 1), (39, .iconst 1, 1)]
theorem qt_q22_cX1_faultInObject : dcAll cX1_faultInObject ql_q22_cX1_faultInObject = true := by decide +kernel
theorem dX1_faultInObject_0 : decode cX1_faultInObject 0 = .ok (.aload_n 0, 1) := dc_of qt_q22_cX1_faultInObject 0 rfl
theorem dX1_faultInObject_1 : decode cX1_faultInObject 1 = .ok (.getfield 9, 3) := dc_of qt_q22_cX1_faultInObject 1 rfl
theorem dX1_faultInObject_4 : decode cX1_faultInObject 4 = .ok (.iload_n 1, 1) := dc_of qt_q22_cX1_faultInObject 2 rfl
theorem dX1_faultInObject_5 : decode cX1_faultInObject 5 = .ok (.iaload, 1) := dc_of qt_q22_cX1_faultInObject 3 rfl
theorem dX1_faultInObject_6 : decode cX1_faultInObject 6 = .ok (.invokestatic 67, 3) := dc_of qt_q22_cX1_faultInObject 4 rfl
theorem dX1_faultInObject_9 : decode cX1_faultInObject 9 = .ok (.iconst 3, 1) := dc_of qt_q22_cX1_faultInObject 5 rfl
theorem dX1_faultInObject_10 : decode cX1_faultInObject 10 = .ok (.if_icmp .ne 7, 3) := dc_of qt_q22_cX1_faultInObject 6 rfl
theorem dX1_faultInObject_13 : decode cX1_faultInObject 13 = .ok (.iconst 1, 1) := dc_of qt_q22_cX1_faultInObject 7 rfl
theorem dX1_faultInObject_14 : decode cX1_faultInObject 14 = .ok (.goto 4, 3) := dc_of qt_q22_cX1_faultInObject 8 rfl
theorem dX1_faultInObject_17 : decode cX1_faultInObject 17 = .ok (.iconst 0, 1) := dc_of qt_q22_cX1_faultInObject 9 rfl
theorem dX1_faultInObject_18 : decode cX1_faultInObject 18 = .ok (.istore_n 2, 1) := dc_of qt_q22_cX1_faultInObject 10 rfl
theorem dX1_faultInObject_19 : decode cX1_faultInObject 19 = .ok (.aload_n 0, 1) := dc_of qt_q22_cX1_faultInObject 11 rfl
theorem dX1_faultInObject_20 : decode cX1_faultInObject 20 = .ok (.getfield 9, 3) := dc_of qt_q22_cX1_faultInObject 12 rfl
theorem dX1_faultInObject_23 : decode cX1_faultInObject 23 = .ok (.iload_n 1, 1) := dc_of qt_q22_cX1_faultInObject 13 rfl
theorem dX1_faultInObject_24 : decode cX1_faultInObject 24 = .ok (.iaload, 1) := dc_of qt_q22_cX1_faultInObject 14 rfl
theorem dX1_faultInObject_25 : decode cX1_faultInObject 25 = .ok (.invokestatic 70, 3) := dc_of qt_q22_cX1_faultInObject 15 rfl
theorem dX1_faultInObject_28 : decode cX1_faultInObject 28 = .ok (.istore_n 3, 1) := dc_of qt_q22_cX1_faultInObject 16 rfl
theorem dX1_faultInObject_29 : decode cX1_faultInObject 29 = .ok (.iconst 0, 1) := dc_of qt_q22_cX1_faultInObject 17 rfl
theorem dX1_faultInObject_30 : decode cX1_faultInObject 30 = .ok (.istore 4, 2) := dc_of qt_q22_cX1_faultInObject 18 rfl
theorem dX1_faultInObject_32 : decode cX1_faultInObject 32 = .ok (.iload 4, 2) := dc_of qt_q22_cX1_faultInObject 19 rfl
theorem dX1_faultInObject_34 : decode cX1_faultInObject 34 = .ok (.iload_n 3, 1) := dc_of qt_q22_cX1_faultInObject 20 rfl
theorem dX1_faultInObject_35 : decode cX1_faultInObject 35 = .ok (.if_icmp .ge 65, 3) := dc_of qt_q22_cX1_faultInObject 21 rfl
theorem dX1_faultInObject_38 : decode cX1_faultInObject 38 = .ok (.iload_n 1, 1) := dc_of qt_q22_cX1_faultInObject 22 rfl
theorem dX1_faultInObject_39 : decode cX1_faultInObject 39 = .ok (.iconst 1, 1) := dc_of qt_q22_cX1_faultInObject 23 rfl
def ql_q23_cX1_faultInObject : List (Nat × Jvm.ClassFile.Instr × Nat) := [(40, .iadd, 1), (41, .iload 4, 2), (43, .iadd, 1), (44, .istore 5, 2), (46, .iload_n 2, 1), (47, .ifCond .eq 19, 3), (50, .aload_n 0, 1), (51, .iload 4, 2), (53, .aload_n 0, 1), (54, .getfield 9, 3), (57, .iload 5, 2), (59, .iaload, 1), (60, .invokevirtual 73, 3), (63, .goto 14, 3), (66, .aload_n 0, 1), (67, .aload_n 0, 1), (68, .getfield 9, 3), (71, .iload 5, 2), (73, .iaload, 1), (74, .invokevirtual 77, 3), (77, .istore 6, 2), (79, .iload 6, 2), (81, .ifCond .eq 13, 3), (84, .sipush 1000, 3)]
theorem qt_q23_cX1_faultInObject : dcAll cX1_faultInObject ql_q23_cX1_faultInObject = true := by decide +kernel
theorem dX1_faultInObject_40 : decode cX1_faultInObject 40 = .ok (.iadd, 1) := dc_of qt_q23_cX1_faultInObject 0 rfl
theorem dX1_faultInObject_41 : decode cX1_faultInObject 41 = .ok (.iload 4, 2) := dc_of qt_q23_cX1_faultInObject 1 rfl
theorem dX1_faultInObject_43 : decode cX1_faultInObject 43 = .ok (.iadd, 1) := dc_of qt_q23_cX1_faultInObject 2 rfl
theorem dX1_faultInObject_44 : decode cX1_faultInObject 44 = .ok (.istore 5, 2) := dc_of qt_q23_cX1_faultInObject 3 rfl
theorem dX1_faultInObject_46 : decode cX1_faultInObject 46 = .ok (.iload_n 2, 1) := dc_of qt_q23_cX1_faultInObject 4 rfl
theorem dX1_faultInObject_47 : decode cX1_faultInObject 47 = .ok (.ifCond .eq 19, 3) := dc_of qt_q23_cX1_faultInObject 5 rfl
theorem dX1_faultInObject_50 : decode cX1_faultInObject 50 = .ok (.aload_n 0, 1) := dc_of qt_q23_cX1_faultInObject 6 rfl
theorem dX1_faultInObject_51 : decode cX1_faultInObject 51 = .ok (.iload 4, 2) := dc_of qt_q23_cX1_faultInObject 7 rfl
theorem dX1_faultInObject_53 : decode cX1_faultInObject 53 = .ok (.aload_n 0, 1) := dc_of qt_q23_cX1_faultInObject 8 rfl
theorem dX1_faultInObject_54 : decode cX1_faultInObject 54 = .ok (.getfield 9, 3) := dc_of qt_q23_cX1_faultInObject 9 rfl
theorem dX1_faultInObject_57 : decode cX1_faultInObject 57 = .ok (.iload 5, 2) := dc_of qt_q23_cX1_faultInObject 10 rfl
theorem dX1_faultInObject_59 : decode cX1_faultInObject 59 = .ok (.iaload, 1) := dc_of qt_q23_cX1_faultInObject 11 rfl
theorem dX1_faultInObject_60 : decode cX1_faultInObject 60 = .ok (.invokevirtual 73, 3) := dc_of qt_q23_cX1_faultInObject 12 rfl
theorem dX1_faultInObject_63 : decode cX1_faultInObject 63 = .ok (.goto 14, 3) := dc_of qt_q23_cX1_faultInObject 13 rfl
theorem dX1_faultInObject_66 : decode cX1_faultInObject 66 = .ok (.aload_n 0, 1) := dc_of qt_q23_cX1_faultInObject 14 rfl
theorem dX1_faultInObject_67 : decode cX1_faultInObject 67 = .ok (.aload_n 0, 1) := dc_of qt_q23_cX1_faultInObject 15 rfl
theorem dX1_faultInObject_68 : decode cX1_faultInObject 68 = .ok (.getfield 9, 3) := dc_of qt_q23_cX1_faultInObject 16 rfl
theorem dX1_faultInObject_71 : decode cX1_faultInObject 71 = .ok (.iload 5, 2) := dc_of qt_q23_cX1_faultInObject 17 rfl
theorem dX1_faultInObject_73 : decode cX1_faultInObject 73 = .ok (.iaload, 1) := dc_of qt_q23_cX1_faultInObject 18 rfl
theorem dX1_faultInObject_74 : decode cX1_faultInObject 74 = .ok (.invokevirtual 77, 3) := dc_of qt_q23_cX1_faultInObject 19 rfl
theorem dX1_faultInObject_77 : decode cX1_faultInObject 77 = .ok (.istore 6, 2) := dc_of qt_q23_cX1_faultInObject 20 rfl
theorem dX1_faultInObject_79 : decode cX1_faultInObject 79 = .ok (.iload 6, 2) := dc_of qt_q23_cX1_faultInObject 21 rfl
theorem dX1_faultInObject_81 : decode cX1_faultInObject 81 = .ok (.ifCond .eq 13, 3) := dc_of qt_q23_cX1_faultInObject 22 rfl
theorem dX1_faultInObject_84 : decode cX1_faultInObject 84 = .ok (.sipush 1000, 3) := dc_of qt_q23_cX1_faultInObject 23 rfl
def ql_q24_cX1_faultInObject : List (Nat × Jvm.ClassFile.Instr × Nat) := [(87, .iload 6, 2), (89, .imul, 1), (90, .iload 5, 2), (92, .iadd, 1), (93, .ireturn, 1), (94, .iinc 4 1, 3), (97, .goto (-65), 3), (100, .iconst 0, 1), (101, .ireturn, 1)]
theorem qt_q24_cX1_faultInObject : dcAll cX1_faultInObject ql_q24_cX1_faultInObject = true := by decide +kernel
theorem dX1_faultInObject_87 : decode cX1_faultInObject 87 = .ok (.iload 6, 2) := dc_of qt_q24_cX1_faultInObject 0 rfl
theorem dX1_faultInObject_89 : decode cX1_faultInObject 89 = .ok (.imul, 1) := dc_of qt_q24_cX1_faultInObject 1 rfl
theorem dX1_faultInObject_90 : decode cX1_faultInObject 90 = .ok (.iload 5, 2) := dc_of qt_q24_cX1_faultInObject 2 rfl
theorem dX1_faultInObject_92 : decode cX1_faultInObject 92 = .ok (.iadd, 1) := dc_of qt_q24_cX1_faultInObject 3 rfl
theorem dX1_faultInObject_93 : decode cX1_faultInObject 93 = .ok (.ireturn, 1) := dc_of qt_q24_cX1_faultInObject 4 rfl
theorem dX1_faultInObject_94 : decode cX1_faultInObject 94 = .ok (.iinc 4 1, 3) := dc_of qt_q24_cX1_faultInObject 5 rfl
theorem dX1_faultInObject_97 : decode cX1_faultInObject 97 = .ok (.goto (-65), 3) := dc_of qt_q24_cX1_faultInObject 6 rfl
theorem dX1_faultInObject_100 : decode cX1_faultInObject 100 = .ok (.iconst 0, 1) := dc_of qt_q24_cX1_faultInObject 7 rfl
theorem dX1_faultInObject_101 : decode cX1_faultInObject 101 = .ok (.ireturn, 1) := dc_of qt_q24_cX1_faultInObject 8 rfl
set_option maxRecDepth 20000 in
theorem ggX1_faultInCell_X1_isValue : GoodIn wsX1_faultInCell wsX1_isValue := goodIn_r _ [5, 6, 7, 8, 9, 10, 11, 4, 12, 13, 14, 15, 16, 17, 18, 19, 20, 21, 22, 23, 24] rfl (by decide +kernel)
def ql_q25_cX1_faultInCell : List (Nat × Jvm.ClassFile.Instr × Nat) := [(0, .aload_n 0, 1), (1, .iload_n 1, 1), (2, .invokevirtual 64, 3), (5, .ifCond .eq 7, 3), (8, .iconst 0, 1), (9, .goto 4, 3), (12, .iconst 3, 1), (13, .ireturn, 1)]
theorem qt_q25_cX1_faultInCell : dcAll cX1_faultInCell ql_q25_cX1_faultInCell = true := by decide +kernel
theorem dX1_faultInCell_0 : decode cX1_faultInCell 0 = .ok (.aload_n 0, 1) := dc_of qt_q25_cX1_faultInCell 0 rfl
theorem dX1_faultInCell_1 : decode cX1_faultInCell 1 = .ok (.iload_n 1, 1) := dc_of qt_q25_cX1_faultInCell 1 rfl
theorem dX1_faultInCell_2 : decode cX1_faultInCell 2 = .ok (.invokevirtual 64, 3) := dc_of qt_q25_cX1_faultInCell 2 rfl
theorem dX1_faultInCell_5 : decode cX1_faultInCell 5 = .ok (.ifCond .eq 7, 3) := dc_of qt_q25_cX1_faultInCell 3 rfl
theorem dX1_faultInCell_8 : decode cX1_faultInCell 8 = .ok (.iconst 0, 1) := dc_of qt_q25_cX1_faultInCell 4 rfl
theorem dX1_faultInCell_9 : decode cX1_faultInCell 9 = .ok (.goto 4, 3) := dc_of qt_q25_cX1_faultInCell 5 rfl
theorem dX1_faultInCell_12 : decode cX1_faultInCell 12 = .ok (.iconst 3, 1) := dc_of qt_q25_cX1_faultInCell 6 rfl
theorem dX1_faultInCell_13 : decode cX1_faultInCell 13 = .ok (.ireturn, 1) := dc_of qt_q25_cX1_faultInCell 7 rfl
set_option maxRecDepth 20000 in
theorem ggX1_faultInLink_X1_isValue : GoodIn wsX1_faultInLink wsX1_isValue := goodIn_r _ [5, 6, 7, 8, 9, 10, 11, 4, 12, 13, 14, 15, 16, 17, 18, 19, 20, 21, 22, 23, 24] rfl (by decide +kernel)
set_option maxRecDepth 20000 in
theorem ggX1_faultInLink_X3_isNumber : GoodIn wsX1_faultInLink wsX3_isNumber := goodIn_r _ [8] rfl (by decide +kernel)
def ql_q26_cX1_faultInLink : List (Nat × Jvm.ClassFile.Instr × Nat) := [(0, .aload_n 0, 1), (1, .iload_n 2, 1), (2, .invokevirtual 64, 3), (5, .ifCond .ne 5, 3), (8, .iconst 3, 1), (9, .ireturn, 1), (10, .iload_n 1, 1), (11, .ifCond .ne 16, 3), (14, .iload_n 2, 1), (15, .invokestatic 80, 3), (18, .ifCond .eq 7, 3), (21, .iconst 4, 1), (22, .goto 4, 3), (25, .iconst 0, 1), (26, .ireturn, 1), (27, .iload_n 2, 1), (28, .invokestatic 80, 3), (31, .ifCond .eq 7, 3), (34, .iconst 0, 1), (35, .goto 4, 3), (38, .iconst 5, 1), (39, .ireturn, 1)]
theorem qt_q26_cX1_faultInLink : dcAll cX1_faultInLink ql_q26_cX1_faultInLink = true := by decide +kernel
theorem dX1_faultInLink_0 : decode cX1_faultInLink 0 = .ok (.aload_n 0, 1) := dc_of qt_q26_cX1_faultInLink 0 rfl
theorem dX1_faultInLink_1 : decode cX1_faultInLink 1 = .ok (.iload_n 2, 1) := dc_of qt_q26_cX1_faultInLink 1 rfl
theorem dX1_faultInLink_2 : decode cX1_faultInLink 2 = .ok (.invokevirtual 64, 3) := dc_of qt_q26_cX1_faultInLink 2 rfl
theorem dX1_faultInLink_5 : decode cX1_faultInLink 5 = .ok (.ifCond .ne 5, 3) := dc_of qt_q26_cX1_faultInLink 3 rfl
theorem dX1_faultInLink_8 : decode cX1_faultInLink 8 = .ok (.iconst 3, 1) := dc_of qt_q26_cX1_faultInLink 4 rfl
theorem dX1_faultInLink_9 : decode cX1_faultInLink 9 = .ok (.ireturn, 1) := dc_of qt_q26_cX1_faultInLink 5 rfl
theorem dX1_faultInLink_10 : decode cX1_faultInLink 10 = .ok (.iload_n 1, 1) := dc_of qt_q26_cX1_faultInLink 6 rfl
theorem dX1_faultInLink_11 : decode cX1_faultInLink 11 = .ok (.ifCond .ne 16, 3) := dc_of qt_q26_cX1_faultInLink 7 rfl
theorem dX1_faultInLink_14 : decode cX1_faultInLink 14 = .ok (.iload_n 2, 1) := dc_of qt_q26_cX1_faultInLink 8 rfl
theorem dX1_faultInLink_15 : decode cX1_faultInLink 15 = .ok (.invokestatic 80, 3) := dc_of qt_q26_cX1_faultInLink 9 rfl
theorem dX1_faultInLink_18 : decode cX1_faultInLink 18 = .ok (.ifCond .eq 7, 3) := dc_of qt_q26_cX1_faultInLink 10 rfl
theorem dX1_faultInLink_21 : decode cX1_faultInLink 21 = .ok (.iconst 4, 1) := dc_of qt_q26_cX1_faultInLink 11 rfl
theorem dX1_faultInLink_22 : decode cX1_faultInLink 22 = .ok (.goto 4, 3) := dc_of qt_q26_cX1_faultInLink 12 rfl
theorem dX1_faultInLink_25 : decode cX1_faultInLink 25 = .ok (.iconst 0, 1) := dc_of qt_q26_cX1_faultInLink 13 rfl
theorem dX1_faultInLink_26 : decode cX1_faultInLink 26 = .ok (.ireturn, 1) := dc_of qt_q26_cX1_faultInLink 14 rfl
theorem dX1_faultInLink_27 : decode cX1_faultInLink 27 = .ok (.iload_n 2, 1) := dc_of qt_q26_cX1_faultInLink 15 rfl
theorem dX1_faultInLink_28 : decode cX1_faultInLink 28 = .ok (.invokestatic 80, 3) := dc_of qt_q26_cX1_faultInLink 16 rfl
theorem dX1_faultInLink_31 : decode cX1_faultInLink 31 = .ok (.ifCond .eq 7, 3) := dc_of qt_q26_cX1_faultInLink 17 rfl
theorem dX1_faultInLink_34 : decode cX1_faultInLink 34 = .ok (.iconst 0, 1) := dc_of qt_q26_cX1_faultInLink 18 rfl
theorem dX1_faultInLink_35 : decode cX1_faultInLink 35 = .ok (.goto 4, 3) := dc_of qt_q26_cX1_faultInLink 19 rfl
theorem dX1_faultInLink_38 : decode cX1_faultInLink 38 = .ok (.iconst 5, 1) := dc_of qt_q26_cX1_faultInLink 20 rfl
theorem dX1_faultInLink_39 : decode cX1_faultInLink 39 = .ok (.ireturn, 1) := dc_of qt_q26_cX1_faultInLink 21 rfl
set_option maxRecDepth 20000 in
theorem ggX1_isValue_X3_isNumber : GoodIn wsX1_isValue wsX3_isNumber := goodIn_r _ [3] rfl (by decide +kernel)
set_option maxRecDepth 20000 in
theorem ggX1_isValue_X1_headOf : GoodIn wsX1_isValue wsX1_headOf := goodIn_r _ [8, 9, 10, 11, 12, 13, 14, 15, 16, 17, 18, 19, 20] rfl (by decide +kernel)
def ql_q27_cX1_isValue : List (Nat × Jvm.ClassFile.Instr × Nat) := [(0, .iload_n 1, 1), (1, .ifCond .eq 18, 3), (4, .iload_n 1, 1), (5, .invokestatic 80, 3), (8, .ifCond .ne 11, 3), (11, .aload_n 0, 1), (12, .iload_n 1, 1), (13, .invokevirtual 83, 3), (16, .ifCond .lt 7, 3), (19, .iconst 1, 1), (20, .goto 4, 3), (23, .iconst 0, 1), (24, .ireturn, 1)]
theorem qt_q27_cX1_isValue : dcAll cX1_isValue ql_q27_cX1_isValue = true := by decide +kernel
theorem dX1_isValue_0 : decode cX1_isValue 0 = .ok (.iload_n 1, 1) := dc_of qt_q27_cX1_isValue 0 rfl
theorem dX1_isValue_1 : decode cX1_isValue 1 = .ok (.ifCond .eq 18, 3) := dc_of qt_q27_cX1_isValue 1 rfl
theorem dX1_isValue_4 : decode cX1_isValue 4 = .ok (.iload_n 1, 1) := dc_of qt_q27_cX1_isValue 2 rfl
theorem dX1_isValue_5 : decode cX1_isValue 5 = .ok (.invokestatic 80, 3) := dc_of qt_q27_cX1_isValue 3 rfl
theorem dX1_isValue_8 : decode cX1_isValue 8 = .ok (.ifCond .ne 11, 3) := dc_of qt_q27_cX1_isValue 4 rfl
theorem dX1_isValue_11 : decode cX1_isValue 11 = .ok (.aload_n 0, 1) := dc_of qt_q27_cX1_isValue 5 rfl
theorem dX1_isValue_12 : decode cX1_isValue 12 = .ok (.iload_n 1, 1) := dc_of qt_q27_cX1_isValue 6 rfl
theorem dX1_isValue_13 : decode cX1_isValue 13 = .ok (.invokevirtual 83, 3) := dc_of qt_q27_cX1_isValue 7 rfl
theorem dX1_isValue_16 : decode cX1_isValue 16 = .ok (.ifCond .lt 7, 3) := dc_of qt_q27_cX1_isValue 8 rfl
theorem dX1_isValue_19 : decode cX1_isValue 19 = .ok (.iconst 1, 1) := dc_of qt_q27_cX1_isValue 9 rfl
theorem dX1_isValue_20 : decode cX1_isValue 20 = .ok (.goto 4, 3) := dc_of qt_q27_cX1_isValue 10 rfl
theorem dX1_isValue_23 : decode cX1_isValue 23 = .ok (.iconst 0, 1) := dc_of qt_q27_cX1_isValue 11 rfl
theorem dX1_isValue_24 : decode cX1_isValue 24 = .ok (.ireturn, 1) := dc_of qt_q27_cX1_isValue 12 rfl
set_option maxRecDepth 20000 in
theorem ggX1_findOrder_X1_reachAll : GoodIn wsX1_findOrder wsX1_reachAll := goodIn_r _ [9, 10, 1, 4, 11, 12, 13, 8, 14, 15, 25, 26, 27, 28, 29, 30, 31, 32, 33, 34] rfl (by decide +kernel)
set_option maxRecDepth 20000 in
theorem ggX1_findOrder_X3_valuesOf : GoodIn wsX1_findOrder wsX3_valuesOf := goodIn_r _ [18, 19, 20, 17, 21, 22, 23, 24] rfl (by decide +kernel)
def ql_q28_cX1_findOrder : List (Nat × Jvm.ClassFile.Instr × Nat) := [(0, .aload_n 0, 1), (1, .iconst 0, 1), (2, .putfield 86, 3), (5, .aload_n 0, 1), (6, .aload_n 0, 1), (7, .getfield 15, 3), (10, .iconst 0, 1), (11, .iconst 4, 1), (12, .invokevirtual 89, 3), (15, .iconst 0, 1), (16, .istore_n 1, 1), (17, .iload_n 1, 1), (18, .aload_n 0, 1), (19, .getfield 86, 3), (22, .if_icmp .ge 46, 3), (25, .iload_n 1, 1), (26, .sipush 256, 3), (29, .if_icmp .ge 39, 3), (32, .aload_n 0, 1), (33, .aload_n 0, 1), (34, .getfield 9, 3), (37, .aload_n 0, 1), (38, .getfield 28, 3), (41, .iload_n 1, 1)]
theorem qt_q28_cX1_findOrder : dcAll cX1_findOrder ql_q28_cX1_findOrder = true := by decide +kernel
theorem dX1_findOrder_0 : decode cX1_findOrder 0 = .ok (.aload_n 0, 1) := dc_of qt_q28_cX1_findOrder 0 rfl
theorem dX1_findOrder_1 : decode cX1_findOrder 1 = .ok (.iconst 0, 1) := dc_of qt_q28_cX1_findOrder 1 rfl
theorem dX1_findOrder_2 : decode cX1_findOrder 2 = .ok (.putfield 86, 3) := dc_of qt_q28_cX1_findOrder 2 rfl
theorem dX1_findOrder_5 : decode cX1_findOrder 5 = .ok (.aload_n 0, 1) := dc_of qt_q28_cX1_findOrder 3 rfl
theorem dX1_findOrder_6 : decode cX1_findOrder 6 = .ok (.aload_n 0, 1) := dc_of qt_q28_cX1_findOrder 4 rfl
theorem dX1_findOrder_7 : decode cX1_findOrder 7 = .ok (.getfield 15, 3) := dc_of qt_q28_cX1_findOrder 5 rfl
theorem dX1_findOrder_10 : decode cX1_findOrder 10 = .ok (.iconst 0, 1) := dc_of qt_q28_cX1_findOrder 6 rfl
theorem dX1_findOrder_11 : decode cX1_findOrder 11 = .ok (.iconst 4, 1) := dc_of qt_q28_cX1_findOrder 7 rfl
theorem dX1_findOrder_12 : decode cX1_findOrder 12 = .ok (.invokevirtual 89, 3) := dc_of qt_q28_cX1_findOrder 8 rfl
theorem dX1_findOrder_15 : decode cX1_findOrder 15 = .ok (.iconst 0, 1) := dc_of qt_q28_cX1_findOrder 9 rfl
theorem dX1_findOrder_16 : decode cX1_findOrder 16 = .ok (.istore_n 1, 1) := dc_of qt_q28_cX1_findOrder 10 rfl
theorem dX1_findOrder_17 : decode cX1_findOrder 17 = .ok (.iload_n 1, 1) := dc_of qt_q28_cX1_findOrder 11 rfl
theorem dX1_findOrder_18 : decode cX1_findOrder 18 = .ok (.aload_n 0, 1) := dc_of qt_q28_cX1_findOrder 12 rfl
theorem dX1_findOrder_19 : decode cX1_findOrder 19 = .ok (.getfield 86, 3) := dc_of qt_q28_cX1_findOrder 13 rfl
theorem dX1_findOrder_22 : decode cX1_findOrder 22 = .ok (.if_icmp .ge 46, 3) := dc_of qt_q28_cX1_findOrder 14 rfl
theorem dX1_findOrder_25 : decode cX1_findOrder 25 = .ok (.iload_n 1, 1) := dc_of qt_q28_cX1_findOrder 15 rfl
theorem dX1_findOrder_26 : decode cX1_findOrder 26 = .ok (.sipush 256, 3) := dc_of qt_q28_cX1_findOrder 16 rfl
theorem dX1_findOrder_29 : decode cX1_findOrder 29 = .ok (.if_icmp .ge 39, 3) := dc_of qt_q28_cX1_findOrder 17 rfl
theorem dX1_findOrder_32 : decode cX1_findOrder 32 = .ok (.aload_n 0, 1) := dc_of qt_q28_cX1_findOrder 18 rfl
theorem dX1_findOrder_33 : decode cX1_findOrder 33 = .ok (.aload_n 0, 1) := dc_of qt_q28_cX1_findOrder 19 rfl
theorem dX1_findOrder_34 : decode cX1_findOrder 34 = .ok (.getfield 9, 3) := dc_of qt_q28_cX1_findOrder 20 rfl
theorem dX1_findOrder_37 : decode cX1_findOrder 37 = .ok (.aload_n 0, 1) := dc_of qt_q28_cX1_findOrder 21 rfl
theorem dX1_findOrder_38 : decode cX1_findOrder 38 = .ok (.getfield 28, 3) := dc_of qt_q28_cX1_findOrder 22 rfl
theorem dX1_findOrder_41 : decode cX1_findOrder 41 = .ok (.iload_n 1, 1) := dc_of qt_q28_cX1_findOrder 23 rfl
def ql_q29_cX1_findOrder : List (Nat × Jvm.ClassFile.Instr × Nat) := [(42, .iaload, 1), (43, .iconst 1, 1), (44, .iadd, 1), (45, .aload_n 0, 1), (46, .getfield 9, 3), (49, .aload_n 0, 1), (50, .getfield 28, 3), (53, .iload_n 1, 1), (54, .iaload, 1), (55, .iaload, 1), (56, .invokestatic 70, 3), (59, .invokevirtual 89, 3), (62, .iinc 1 1, 3), (65, .goto (-48), 3), (68, .return_, 1)]
theorem qt_q29_cX1_findOrder : dcAll cX1_findOrder ql_q29_cX1_findOrder = true := by decide +kernel
theorem dX1_findOrder_42 : decode cX1_findOrder 42 = .ok (.iaload, 1) := dc_of qt_q29_cX1_findOrder 0 rfl
theorem dX1_findOrder_43 : decode cX1_findOrder 43 = .ok (.iconst 1, 1) := dc_of qt_q29_cX1_findOrder 1 rfl
theorem dX1_findOrder_44 : decode cX1_findOrder 44 = .ok (.iadd, 1) := dc_of qt_q29_cX1_findOrder 2 rfl
theorem dX1_findOrder_45 : decode cX1_findOrder 45 = .ok (.aload_n 0, 1) := dc_of qt_q29_cX1_findOrder 3 rfl
theorem dX1_findOrder_46 : decode cX1_findOrder 46 = .ok (.getfield 9, 3) := dc_of qt_q29_cX1_findOrder 4 rfl
theorem dX1_findOrder_49 : decode cX1_findOrder 49 = .ok (.aload_n 0, 1) := dc_of qt_q29_cX1_findOrder 5 rfl
theorem dX1_findOrder_50 : decode cX1_findOrder 50 = .ok (.getfield 28, 3) := dc_of qt_q29_cX1_findOrder 6 rfl
theorem dX1_findOrder_53 : decode cX1_findOrder 53 = .ok (.iload_n 1, 1) := dc_of qt_q29_cX1_findOrder 7 rfl
theorem dX1_findOrder_54 : decode cX1_findOrder 54 = .ok (.iaload, 1) := dc_of qt_q29_cX1_findOrder 8 rfl
theorem dX1_findOrder_55 : decode cX1_findOrder 55 = .ok (.iaload, 1) := dc_of qt_q29_cX1_findOrder 9 rfl
theorem dX1_findOrder_56 : decode cX1_findOrder 56 = .ok (.invokestatic 70, 3) := dc_of qt_q29_cX1_findOrder 10 rfl
theorem dX1_findOrder_59 : decode cX1_findOrder 59 = .ok (.invokevirtual 89, 3) := dc_of qt_q29_cX1_findOrder 11 rfl
theorem dX1_findOrder_62 : decode cX1_findOrder 62 = .ok (.iinc 1 1, 3) := dc_of qt_q29_cX1_findOrder 12 rfl
theorem dX1_findOrder_65 : decode cX1_findOrder 65 = .ok (.goto (-48), 3) := dc_of qt_q29_cX1_findOrder 13 rfl
theorem dX1_findOrder_68 : decode cX1_findOrder 68 = .ok (.return_, 1) := dc_of qt_q29_cX1_findOrder 14 rfl
set_option maxRecDepth 20000 in
theorem ggX1_reachAll_X1_headOf : GoodIn wsX1_reachAll wsX1_headOf := goodIn_r _ [8, 9, 1, 10, 11, 12, 13, 14, 15, 16, 17, 18, 19] rfl (by decide +kernel)
def ql_q30_cX1_reachAll : List (Nat × Jvm.ClassFile.Instr × Nat) := [(0, .iload_n 2, 1), (1, .istore 4, 2), (3, .iload 4, 2), (5, .iload_n 2, 1), (6, .iload_n 3, 1), (7, .iadd, 1), (8, .if_icmp .ge 67, 3), (11, .aload_n 0, 1), (12, .aload_n 1, 1), (13, .iload 4, 2), (15, .iaload, 1), (16, .invokevirtual 83, 3), (19, .istore 5, 2), (21, .iload 5, 2), (23, .ifCond .lt 46, 3), (26, .aload_n 0, 1), (27, .getfield 25, 3), (30, .iload 5, 2), (32, .iaload, 1), (33, .iconst (-1), 1), (34, .if_icmp .ne 35, 3), (37, .aload_n 0, 1), (38, .getfield 25, 3), (41, .iload 5, 2)]
theorem qt_q30_cX1_reachAll : dcAll cX1_reachAll ql_q30_cX1_reachAll = true := by decide +kernel
theorem dX1_reachAll_0 : decode cX1_reachAll 0 = .ok (.iload_n 2, 1) := dc_of qt_q30_cX1_reachAll 0 rfl
theorem dX1_reachAll_1 : decode cX1_reachAll 1 = .ok (.istore 4, 2) := dc_of qt_q30_cX1_reachAll 1 rfl
theorem dX1_reachAll_3 : decode cX1_reachAll 3 = .ok (.iload 4, 2) := dc_of qt_q30_cX1_reachAll 2 rfl
theorem dX1_reachAll_5 : decode cX1_reachAll 5 = .ok (.iload_n 2, 1) := dc_of qt_q30_cX1_reachAll 3 rfl
theorem dX1_reachAll_6 : decode cX1_reachAll 6 = .ok (.iload_n 3, 1) := dc_of qt_q30_cX1_reachAll 4 rfl
theorem dX1_reachAll_7 : decode cX1_reachAll 7 = .ok (.iadd, 1) := dc_of qt_q30_cX1_reachAll 5 rfl
theorem dX1_reachAll_8 : decode cX1_reachAll 8 = .ok (.if_icmp .ge 67, 3) := dc_of qt_q30_cX1_reachAll 6 rfl
theorem dX1_reachAll_11 : decode cX1_reachAll 11 = .ok (.aload_n 0, 1) := dc_of qt_q30_cX1_reachAll 7 rfl
theorem dX1_reachAll_12 : decode cX1_reachAll 12 = .ok (.aload_n 1, 1) := dc_of qt_q30_cX1_reachAll 8 rfl
theorem dX1_reachAll_13 : decode cX1_reachAll 13 = .ok (.iload 4, 2) := dc_of qt_q30_cX1_reachAll 9 rfl
theorem dX1_reachAll_15 : decode cX1_reachAll 15 = .ok (.iaload, 1) := dc_of qt_q30_cX1_reachAll 10 rfl
theorem dX1_reachAll_16 : decode cX1_reachAll 16 = .ok (.invokevirtual 83, 3) := dc_of qt_q30_cX1_reachAll 11 rfl
theorem dX1_reachAll_19 : decode cX1_reachAll 19 = .ok (.istore 5, 2) := dc_of qt_q30_cX1_reachAll 12 rfl
theorem dX1_reachAll_21 : decode cX1_reachAll 21 = .ok (.iload 5, 2) := dc_of qt_q30_cX1_reachAll 13 rfl
theorem dX1_reachAll_23 : decode cX1_reachAll 23 = .ok (.ifCond .lt 46, 3) := dc_of qt_q30_cX1_reachAll 14 rfl
theorem dX1_reachAll_26 : decode cX1_reachAll 26 = .ok (.aload_n 0, 1) := dc_of qt_q30_cX1_reachAll 15 rfl
theorem dX1_reachAll_27 : decode cX1_reachAll 27 = .ok (.getfield 25, 3) := dc_of qt_q30_cX1_reachAll 16 rfl
theorem dX1_reachAll_30 : decode cX1_reachAll 30 = .ok (.iload 5, 2) := dc_of qt_q30_cX1_reachAll 17 rfl
theorem dX1_reachAll_32 : decode cX1_reachAll 32 = .ok (.iaload, 1) := dc_of qt_q30_cX1_reachAll 18 rfl
theorem dX1_reachAll_33 : decode cX1_reachAll 33 = .ok (.iconst (-1), 1) := dc_of qt_q30_cX1_reachAll 19 rfl
theorem dX1_reachAll_34 : decode cX1_reachAll 34 = .ok (.if_icmp .ne 35, 3) := dc_of qt_q30_cX1_reachAll 20 rfl
theorem dX1_reachAll_37 : decode cX1_reachAll 37 = .ok (.aload_n 0, 1) := dc_of qt_q30_cX1_reachAll 21 rfl
theorem dX1_reachAll_38 : decode cX1_reachAll 38 = .ok (.getfield 25, 3) := dc_of qt_q30_cX1_reachAll 22 rfl
theorem dX1_reachAll_41 : decode cX1_reachAll 41 = .ok (.iload 5, 2) := dc_of qt_q30_cX1_reachAll 23 rfl
def ql_q31_cX1_reachAll : List (Nat × Jvm.ClassFile.Instr × Nat) := [(43, .aload_n 0, 1), (44, .getfield 86, 3), (47, .iastore, 1), (48, .aload_n 0, 1), (49, .getfield 28, 3), (52, .aload_n 0, 1), (53, .getfield 86, 3), (56, .iload 5, 2), (58, .iastore, 1), (59, .aload_n 0, 1), (60, .dup, 1), (61, .getfield 86, 3), (64, .iconst 1, 1), (65, .iadd, 1), (66, .putfield 86, 3), (69, .iinc 4 1, 3), (72, .goto (-69), 3), (75, .return_, 1)]
theorem qt_q31_cX1_reachAll : dcAll cX1_reachAll ql_q31_cX1_reachAll = true := by decide +kernel
theorem dX1_reachAll_43 : decode cX1_reachAll 43 = .ok (.aload_n 0, 1) := dc_of qt_q31_cX1_reachAll 0 rfl
theorem dX1_reachAll_44 : decode cX1_reachAll 44 = .ok (.getfield 86, 3) := dc_of qt_q31_cX1_reachAll 1 rfl
theorem dX1_reachAll_47 : decode cX1_reachAll 47 = .ok (.iastore, 1) := dc_of qt_q31_cX1_reachAll 2 rfl
theorem dX1_reachAll_48 : decode cX1_reachAll 48 = .ok (.aload_n 0, 1) := dc_of qt_q31_cX1_reachAll 3 rfl
theorem dX1_reachAll_49 : decode cX1_reachAll 49 = .ok (.getfield 28, 3) := dc_of qt_q31_cX1_reachAll 4 rfl
theorem dX1_reachAll_52 : decode cX1_reachAll 52 = .ok (.aload_n 0, 1) := dc_of qt_q31_cX1_reachAll 5 rfl
theorem dX1_reachAll_53 : decode cX1_reachAll 53 = .ok (.getfield 86, 3) := dc_of qt_q31_cX1_reachAll 6 rfl
theorem dX1_reachAll_56 : decode cX1_reachAll 56 = .ok (.iload 5, 2) := dc_of qt_q31_cX1_reachAll 7 rfl
theorem dX1_reachAll_58 : decode cX1_reachAll 58 = .ok (.iastore, 1) := dc_of qt_q31_cX1_reachAll 8 rfl
theorem dX1_reachAll_59 : decode cX1_reachAll 59 = .ok (.aload_n 0, 1) := dc_of qt_q31_cX1_reachAll 9 rfl
theorem dX1_reachAll_60 : decode cX1_reachAll 60 = .ok (.dup, 1) := dc_of qt_q31_cX1_reachAll 10 rfl
theorem dX1_reachAll_61 : decode cX1_reachAll 61 = .ok (.getfield 86, 3) := dc_of qt_q31_cX1_reachAll 11 rfl
theorem dX1_reachAll_64 : decode cX1_reachAll 64 = .ok (.iconst 1, 1) := dc_of qt_q31_cX1_reachAll 12 rfl
theorem dX1_reachAll_65 : decode cX1_reachAll 65 = .ok (.iadd, 1) := dc_of qt_q31_cX1_reachAll 13 rfl
theorem dX1_reachAll_66 : decode cX1_reachAll 66 = .ok (.putfield 86, 3) := dc_of qt_q31_cX1_reachAll 14 rfl
theorem dX1_reachAll_69 : decode cX1_reachAll 69 = .ok (.iinc 4 1, 3) := dc_of qt_q31_cX1_reachAll 15 rfl
theorem dX1_reachAll_72 : decode cX1_reachAll 72 = .ok (.goto (-69), 3) := dc_of qt_q31_cX1_reachAll 16 rfl
theorem dX1_reachAll_75 : decode cX1_reachAll 75 = .ok (.return_, 1) := dc_of qt_q31_cX1_reachAll 17 rfl
set_option maxRecDepth 20000 in
theorem ggX1_moveTo_X1_redirect : GoodIn wsX1_moveTo wsX1_redirect := goodIn_r _ [8, 9, 1, 3, 10, 11, 12, 13, 14, 7, 15, 2, 16, 17, 18, 19, 20, 21, 22, 23, 24, 25, 26, 27, 28, 29, 30, 31, 32, 33, 34, 35, 36, 37, 38, 39] rfl (by decide +kernel)
def ql_q32_cX1_moveTo : List (Nat × Jvm.ClassFile.Instr × Nat) := [(0, .iconst 0, 1), (1, .istore_n 2, 1), (2, .iload_n 2, 1), (3, .aload_n 0, 1), (4, .getfield 43, 3), (7, .if_icmp .ge 26, 3), (10, .aload_n 0, 1), (11, .getfield 31, 3), (14, .aload_n 0, 1), (15, .getfield 22, 3), (18, .iload_n 2, 1), (19, .iaload, 1), (20, .aload_n 0, 1), (21, .getfield 22, 3), (24, .iload_n 2, 1), (25, .iaload, 1), (26, .iastore, 1), (27, .iinc 2 1, 3), (30, .goto (-28), 3), (33, .aload_n 0, 1), (34, .iload_n 1, 1), (35, .invokevirtual 93, 3), (38, .ireturn, 1)]
theorem qt_q32_cX1_moveTo : dcAll cX1_moveTo ql_q32_cX1_moveTo = true := by decide +kernel
theorem dX1_moveTo_0 : decode cX1_moveTo 0 = .ok (.iconst 0, 1) := dc_of qt_q32_cX1_moveTo 0 rfl
theorem dX1_moveTo_1 : decode cX1_moveTo 1 = .ok (.istore_n 2, 1) := dc_of qt_q32_cX1_moveTo 1 rfl
theorem dX1_moveTo_2 : decode cX1_moveTo 2 = .ok (.iload_n 2, 1) := dc_of qt_q32_cX1_moveTo 2 rfl
theorem dX1_moveTo_3 : decode cX1_moveTo 3 = .ok (.aload_n 0, 1) := dc_of qt_q32_cX1_moveTo 3 rfl
theorem dX1_moveTo_4 : decode cX1_moveTo 4 = .ok (.getfield 43, 3) := dc_of qt_q32_cX1_moveTo 4 rfl
theorem dX1_moveTo_7 : decode cX1_moveTo 7 = .ok (.if_icmp .ge 26, 3) := dc_of qt_q32_cX1_moveTo 5 rfl
theorem dX1_moveTo_10 : decode cX1_moveTo 10 = .ok (.aload_n 0, 1) := dc_of qt_q32_cX1_moveTo 6 rfl
theorem dX1_moveTo_11 : decode cX1_moveTo 11 = .ok (.getfield 31, 3) := dc_of qt_q32_cX1_moveTo 7 rfl
theorem dX1_moveTo_14 : decode cX1_moveTo 14 = .ok (.aload_n 0, 1) := dc_of qt_q32_cX1_moveTo 8 rfl
theorem dX1_moveTo_15 : decode cX1_moveTo 15 = .ok (.getfield 22, 3) := dc_of qt_q32_cX1_moveTo 9 rfl
theorem dX1_moveTo_18 : decode cX1_moveTo 18 = .ok (.iload_n 2, 1) := dc_of qt_q32_cX1_moveTo 10 rfl
theorem dX1_moveTo_19 : decode cX1_moveTo 19 = .ok (.iaload, 1) := dc_of qt_q32_cX1_moveTo 11 rfl
theorem dX1_moveTo_20 : decode cX1_moveTo 20 = .ok (.aload_n 0, 1) := dc_of qt_q32_cX1_moveTo 12 rfl
theorem dX1_moveTo_21 : decode cX1_moveTo 21 = .ok (.getfield 22, 3) := dc_of qt_q32_cX1_moveTo 13 rfl
theorem dX1_moveTo_24 : decode cX1_moveTo 24 = .ok (.iload_n 2, 1) := dc_of qt_q32_cX1_moveTo 14 rfl
theorem dX1_moveTo_25 : decode cX1_moveTo 25 = .ok (.iaload, 1) := dc_of qt_q32_cX1_moveTo 15 rfl
theorem dX1_moveTo_26 : decode cX1_moveTo 26 = .ok (.iastore, 1) := dc_of qt_q32_cX1_moveTo 16 rfl
theorem dX1_moveTo_27 : decode cX1_moveTo 27 = .ok (.iinc 2 1, 3) := dc_of qt_q32_cX1_moveTo 17 rfl
theorem dX1_moveTo_30 : decode cX1_moveTo 30 = .ok (.goto (-28), 3) := dc_of qt_q32_cX1_moveTo 18 rfl
theorem dX1_moveTo_33 : decode cX1_moveTo 33 = .ok (.aload_n 0, 1) := dc_of qt_q32_cX1_moveTo 19 rfl
theorem dX1_moveTo_34 : decode cX1_moveTo 34 = .ok (.iload_n 1, 1) := dc_of qt_q32_cX1_moveTo 20 rfl
theorem dX1_moveTo_35 : decode cX1_moveTo 35 = .ok (.invokevirtual 93, 3) := dc_of qt_q32_cX1_moveTo 21 rfl
theorem dX1_moveTo_38 : decode cX1_moveTo 38 = .ok (.ireturn, 1) := dc_of qt_q32_cX1_moveTo 22 rfl
set_option maxRecDepth 20000 in
theorem ggX1_redirect_X1_redirectAll : GoodIn wsX1_redirect wsX1_redirectAll := goodIn_r _ [10, 11, 12, 13, 14, 9, 15, 5, 16, 26, 27, 28, 29, 30, 31, 32, 33, 34, 35] rfl (by decide +kernel)
set_option maxRecDepth 20000 in
theorem ggX1_redirect_X3_valuesOf : GoodIn wsX1_redirect wsX3_valuesOf := goodIn_r _ [19, 20, 21, 18, 22, 23, 24, 25] rfl (by decide +kernel)
def ql_q33_cX1_redirect : List (Nat × Jvm.ClassFile.Instr × Nat) := [(0, .aload_n 0, 1), (1, .aload_n 0, 1), (2, .getfield 15, 3), (5, .iconst 0, 1), (6, .iconst 4, 1), (7, .iload_n 1, 1), (8, .invokevirtual 96, 3), (11, .istore_n 2, 1), (12, .iconst 0, 1), (13, .istore_n 3, 1), (14, .iload_n 3, 1), (15, .aload_n 0, 1), (16, .getfield 43, 3), (19, .if_icmp .ge 43, 3), (22, .aload_n 0, 1), (23, .getfield 22, 3), (26, .iload_n 3, 1), (27, .iaload, 1), (28, .istore 4, 2), (30, .iload_n 2, 1), (31, .aload_n 0, 1), (32, .aload_n 0, 1), (33, .getfield 9, 3), (36, .iload 4, 2)]
theorem qt_q33_cX1_redirect : dcAll cX1_redirect ql_q33_cX1_redirect = true := by decide +kernel
theorem dX1_redirect_0 : decode cX1_redirect 0 = .ok (.aload_n 0, 1) := dc_of qt_q33_cX1_redirect 0 rfl
theorem dX1_redirect_1 : decode cX1_redirect 1 = .ok (.aload_n 0, 1) := dc_of qt_q33_cX1_redirect 1 rfl
theorem dX1_redirect_2 : decode cX1_redirect 2 = .ok (.getfield 15, 3) := dc_of qt_q33_cX1_redirect 2 rfl
theorem dX1_redirect_5 : decode cX1_redirect 5 = .ok (.iconst 0, 1) := dc_of qt_q33_cX1_redirect 3 rfl
theorem dX1_redirect_6 : decode cX1_redirect 6 = .ok (.iconst 4, 1) := dc_of qt_q33_cX1_redirect 4 rfl
theorem dX1_redirect_7 : decode cX1_redirect 7 = .ok (.iload_n 1, 1) := dc_of qt_q33_cX1_redirect 5 rfl
theorem dX1_redirect_8 : decode cX1_redirect 8 = .ok (.invokevirtual 96, 3) := dc_of qt_q33_cX1_redirect 6 rfl
theorem dX1_redirect_11 : decode cX1_redirect 11 = .ok (.istore_n 2, 1) := dc_of qt_q33_cX1_redirect 7 rfl
theorem dX1_redirect_12 : decode cX1_redirect 12 = .ok (.iconst 0, 1) := dc_of qt_q33_cX1_redirect 8 rfl
theorem dX1_redirect_13 : decode cX1_redirect 13 = .ok (.istore_n 3, 1) := dc_of qt_q33_cX1_redirect 9 rfl
theorem dX1_redirect_14 : decode cX1_redirect 14 = .ok (.iload_n 3, 1) := dc_of qt_q33_cX1_redirect 10 rfl
theorem dX1_redirect_15 : decode cX1_redirect 15 = .ok (.aload_n 0, 1) := dc_of qt_q33_cX1_redirect 11 rfl
theorem dX1_redirect_16 : decode cX1_redirect 16 = .ok (.getfield 43, 3) := dc_of qt_q33_cX1_redirect 12 rfl
theorem dX1_redirect_19 : decode cX1_redirect 19 = .ok (.if_icmp .ge 43, 3) := dc_of qt_q33_cX1_redirect 13 rfl
theorem dX1_redirect_22 : decode cX1_redirect 22 = .ok (.aload_n 0, 1) := dc_of qt_q33_cX1_redirect 14 rfl
theorem dX1_redirect_23 : decode cX1_redirect 23 = .ok (.getfield 22, 3) := dc_of qt_q33_cX1_redirect 15 rfl
theorem dX1_redirect_26 : decode cX1_redirect 26 = .ok (.iload_n 3, 1) := dc_of qt_q33_cX1_redirect 16 rfl
theorem dX1_redirect_27 : decode cX1_redirect 27 = .ok (.iaload, 1) := dc_of qt_q33_cX1_redirect 17 rfl
theorem dX1_redirect_28 : decode cX1_redirect 28 = .ok (.istore 4, 2) := dc_of qt_q33_cX1_redirect 18 rfl
theorem dX1_redirect_30 : decode cX1_redirect 30 = .ok (.iload_n 2, 1) := dc_of qt_q33_cX1_redirect 19 rfl
theorem dX1_redirect_31 : decode cX1_redirect 31 = .ok (.aload_n 0, 1) := dc_of qt_q33_cX1_redirect 20 rfl
theorem dX1_redirect_32 : decode cX1_redirect 32 = .ok (.aload_n 0, 1) := dc_of qt_q33_cX1_redirect 21 rfl
theorem dX1_redirect_33 : decode cX1_redirect 33 = .ok (.getfield 9, 3) := dc_of qt_q33_cX1_redirect 22 rfl
theorem dX1_redirect_36 : decode cX1_redirect 36 = .ok (.iload 4, 2) := dc_of qt_q33_cX1_redirect 23 rfl
def ql_q34_cX1_redirect : List (Nat × Jvm.ClassFile.Instr × Nat) := [(38, .iconst 1, 1), (39, .iadd, 1), (40, .aload_n 0, 1), (41, .getfield 9, 3), (44, .iload 4, 2), (46, .iaload, 1), (47, .invokestatic 70, 3), (50, .iload_n 1, 1), (51, .invokevirtual 96, 3), (54, .iadd, 1), (55, .istore_n 2, 1), (56, .iinc 3 1, 3), (59, .goto (-45), 3), (62, .aload_n 0, 1), (63, .iload_n 1, 1), (64, .putfield 18, 3), (67, .iload_n 2, 1), (68, .ireturn, 1)]
theorem qt_q34_cX1_redirect : dcAll cX1_redirect ql_q34_cX1_redirect = true := by decide +kernel
theorem dX1_redirect_38 : decode cX1_redirect 38 = .ok (.iconst 1, 1) := dc_of qt_q34_cX1_redirect 0 rfl
theorem dX1_redirect_39 : decode cX1_redirect 39 = .ok (.iadd, 1) := dc_of qt_q34_cX1_redirect 1 rfl
theorem dX1_redirect_40 : decode cX1_redirect 40 = .ok (.aload_n 0, 1) := dc_of qt_q34_cX1_redirect 2 rfl
theorem dX1_redirect_41 : decode cX1_redirect 41 = .ok (.getfield 9, 3) := dc_of qt_q34_cX1_redirect 3 rfl
theorem dX1_redirect_44 : decode cX1_redirect 44 = .ok (.iload 4, 2) := dc_of qt_q34_cX1_redirect 4 rfl
theorem dX1_redirect_46 : decode cX1_redirect 46 = .ok (.iaload, 1) := dc_of qt_q34_cX1_redirect 5 rfl
theorem dX1_redirect_47 : decode cX1_redirect 47 = .ok (.invokestatic 70, 3) := dc_of qt_q34_cX1_redirect 6 rfl
theorem dX1_redirect_50 : decode cX1_redirect 50 = .ok (.iload_n 1, 1) := dc_of qt_q34_cX1_redirect 7 rfl
theorem dX1_redirect_51 : decode cX1_redirect 51 = .ok (.invokevirtual 96, 3) := dc_of qt_q34_cX1_redirect 8 rfl
theorem dX1_redirect_54 : decode cX1_redirect 54 = .ok (.iadd, 1) := dc_of qt_q34_cX1_redirect 9 rfl
theorem dX1_redirect_55 : decode cX1_redirect 55 = .ok (.istore_n 2, 1) := dc_of qt_q34_cX1_redirect 10 rfl
theorem dX1_redirect_56 : decode cX1_redirect 56 = .ok (.iinc 3 1, 3) := dc_of qt_q34_cX1_redirect 11 rfl
theorem dX1_redirect_59 : decode cX1_redirect 59 = .ok (.goto (-45), 3) := dc_of qt_q34_cX1_redirect 12 rfl
theorem dX1_redirect_62 : decode cX1_redirect 62 = .ok (.aload_n 0, 1) := dc_of qt_q34_cX1_redirect 13 rfl
theorem dX1_redirect_63 : decode cX1_redirect 63 = .ok (.iload_n 1, 1) := dc_of qt_q34_cX1_redirect 14 rfl
theorem dX1_redirect_64 : decode cX1_redirect 64 = .ok (.putfield 18, 3) := dc_of qt_q34_cX1_redirect 15 rfl
