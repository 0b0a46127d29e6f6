theorem dX1_writeObject_70 : decode cX1_writeObject 70 = .ok (.getfield 9, 3) := dc_of qt_q45_cX1_writeObject 20 rfl
theorem dX1_writeObject_73 : decode cX1_writeObject 73 = .ok (.iload 5, 2) := dc_of qt_q45_cX1_writeObject 21 rfl
theorem dX1_writeObject_75 : decode cX1_writeObject 75 = .ok (.iaload, 1) := dc_of qt_q45_cX1_writeObject 22 rfl
theorem dX1_writeObject_76 : decode cX1_writeObject 76 = .ok (.invokevirtual 136, 3) := dc_of qt_q45_cX1_writeObject 23 rfl
def ql_q46_cX1_writeObject : List (Nat × Jvm.ClassFile.Instr × Nat) := [(79, .aload_n 1, 1), (80, .aload_n 0, 1), (81, .getfield 9, 3), (84, .iload 5, 2), (86, .iaload, 1), (87, .bipush 16, 2), (89, .iushr, 1), (90, .invokevirtual 136, 3), (93, .iinc 5 1, 3), (96, .goto (-37), 3), (99, .return_, 1)]
theorem qt_q46_cX1_writeObject : dcAll cX1_writeObject ql_q46_cX1_writeObject = true := by decide +kernel
theorem dX1_writeObject_79 : decode cX1_writeObject 79 = .ok (.aload_n 1, 1) := dc_of qt_q46_cX1_writeObject 0 rfl
theorem dX1_writeObject_80 : decode cX1_writeObject 80 = .ok (.aload_n 0, 1) := dc_of qt_q46_cX1_writeObject 1 rfl
theorem dX1_writeObject_81 : decode cX1_writeObject 81 = .ok (.getfield 9, 3) := dc_of qt_q46_cX1_writeObject 2 rfl
theorem dX1_writeObject_84 : decode cX1_writeObject 84 = .ok (.iload 5, 2) := dc_of qt_q46_cX1_writeObject 3 rfl
theorem dX1_writeObject_86 : decode cX1_writeObject 86 = .ok (.iaload, 1) := dc_of qt_q46_cX1_writeObject 4 rfl
theorem dX1_writeObject_87 : decode cX1_writeObject 87 = .ok (.bipush 16, 2) := dc_of qt_q46_cX1_writeObject 5 rfl
theorem dX1_writeObject_89 : decode cX1_writeObject 89 = .ok (.iushr, 1) := dc_of qt_q46_cX1_writeObject 6 rfl
theorem dX1_writeObject_90 : decode cX1_writeObject 90 = .ok (.invokevirtual 136, 3) := dc_of qt_q46_cX1_writeObject 7 rfl
theorem dX1_writeObject_93 : decode cX1_writeObject 93 = .ok (.iinc 5 1, 3) := dc_of qt_q46_cX1_writeObject 8 rfl
theorem dX1_writeObject_96 : decode cX1_writeObject 96 = .ok (.goto (-37), 3) := dc_of qt_q46_cX1_writeObject 9 rfl
theorem dX1_writeObject_99 : decode cX1_writeObject 99 = .ok (.return_, 1) := dc_of qt_q46_cX1_writeObject 10 rfl
set_option maxRecDepth 20000 in
theorem ggX1_writeValues_X1_countOf : GoodIn wsX1_writeValues wsX1_countOf := goodIn_r _ [5, 6, 7, 8, 9, 10, 11, 12, 13, 14, 15, 16, 4, 17, 18, 32, 33, 34, 35, 36, 37, 38, 39, 40, 41] rfl (by decide +kernel)
set_option maxRecDepth 20000 in
theorem ggX1_writeValues_X0_addCount : GoodIn wsX1_writeValues wsX0_addCount := goodIn_r _ [23, 24, 25, 26, 27, 28, 22, 29, 30, 31, 42, 43] rfl (by decide +kernel)
def ql_q47_cX1_writeValues : List (Nat × Jvm.ClassFile.Instr × Nat) := [(0, .iload_n 3, 1), (1, .istore 5, 2), (3, .iload 5, 2), (5, .iload_n 3, 1), (6, .iload 4, 2), (8, .iadd, 1), (9, .if_icmp .ge 21, 3), (12, .aload_n 1, 1), (13, .aload_n 0, 1), (14, .aload_n 2, 1), (15, .iload 5, 2), (17, .iaload, 1), (18, .invokevirtual 139, 3), (21, .invokevirtual 121, 3), (24, .iinc 5 1, 3), (27, .goto (-24), 3), (30, .return_, 1)]
theorem qt_q47_cX1_writeValues : dcAll cX1_writeValues ql_q47_cX1_writeValues = true := by decide +kernel
theorem dX1_writeValues_0 : decode cX1_writeValues 0 = .ok (.iload_n 3, 1) := dc_of qt_q47_cX1_writeValues 0 rfl
theorem dX1_writeValues_1 : decode cX1_writeValues 1 = .ok (.istore 5, 2) := dc_of qt_q47_cX1_writeValues 1 rfl
theorem dX1_writeValues_3 : decode cX1_writeValues 3 = .ok (.iload 5, 2) := dc_of qt_q47_cX1_writeValues 2 rfl
theorem dX1_writeValues_5 : decode cX1_writeValues 5 = .ok (.iload_n 3, 1) := dc_of qt_q47_cX1_writeValues 3 rfl
theorem dX1_writeValues_6 : decode cX1_writeValues 6 = .ok (.iload 4, 2) := dc_of qt_q47_cX1_writeValues 4 rfl
theorem dX1_writeValues_8 : decode cX1_writeValues 8 = .ok (.iadd, 1) := dc_of qt_q47_cX1_writeValues 5 rfl
theorem dX1_writeValues_9 : decode cX1_writeValues 9 = .ok (.if_icmp .ge 21, 3) := dc_of qt_q47_cX1_writeValues 6 rfl
theorem dX1_writeValues_12 : decode cX1_writeValues 12 = .ok (.aload_n 1, 1) := dc_of qt_q47_cX1_writeValues 7 rfl
theorem dX1_writeValues_13 : decode cX1_writeValues 13 = .ok (.aload_n 0, 1) := dc_of qt_q47_cX1_writeValues 8 rfl
theorem dX1_writeValues_14 : decode cX1_writeValues 14 = .ok (.aload_n 2, 1) := dc_of qt_q47_cX1_writeValues 9 rfl
theorem dX1_writeValues_15 : decode cX1_writeValues 15 = .ok (.iload 5, 2) := dc_of qt_q47_cX1_writeValues 10 rfl
theorem dX1_writeValues_17 : decode cX1_writeValues 17 = .ok (.iaload, 1) := dc_of qt_q47_cX1_writeValues 11 rfl
theorem dX1_writeValues_18 : decode cX1_writeValues 18 = .ok (.invokevirtual 139, 3) := dc_of qt_q47_cX1_writeValues 12 rfl
theorem dX1_writeValues_21 : decode cX1_writeValues 21 = .ok (.invokevirtual 121, 3) := dc_of qt_q47_cX1_writeValues 13 rfl
theorem dX1_writeValues_24 : decode cX1_writeValues 24 = .ok (.iinc 5 1, 3) := dc_of qt_q47_cX1_writeValues 14 rfl
theorem dX1_writeValues_27 : decode cX1_writeValues 27 = .ok (.goto (-24), 3) := dc_of qt_q47_cX1_writeValues 15 rfl
theorem dX1_writeValues_30 : decode cX1_writeValues 30 = .ok (.return_, 1) := dc_of qt_q47_cX1_writeValues 16 rfl
set_option maxRecDepth 20000 in
theorem ggX1_countOf_X3_isNumber : GoodIn wsX1_countOf wsX3_isNumber := goodIn_r _ [8] rfl (by decide +kernel)
set_option maxRecDepth 20000 in
theorem ggX1_countOf_X1_headOf : GoodIn wsX1_countOf wsX1_headOf := goodIn_r _ [13, 14, 5, 15, 16, 17, 18, 19, 20, 21, 22, 23, 24] rfl (by decide +kernel)
def ql_q48_cX1_countOf : List (Nat × Jvm.ClassFile.Instr × Nat) := [(0, .iload_n 1, 1), (1, .invokestatic 80, 3), (4, .ifCond .eq 38, 3), (7, .iload_n 1, 1), (8, .iconst 1, 1), (9, .ishr, 1), (10, .i2l, 1), (11, .lstore_n 2, 1), (12, .lload_n 2, 1), (13, .lconst 0, 1), (14, .lcmp, 1), (15, .ifCond .lt 13, 3), (18, .ldc2_w 143, 3), (21, .lload_n 2, 1), (22, .lmul, 1), (23, .lconst 1, 1), (24, .ladd, 1), (25, .goto 16, 3), (28, .ldc2_w 143, 3), (31, .ldc2_w 145, 3), (34, .lload_n 2, 1), (35, .lsub, 1), (36, .lmul, 1), (37, .ldc2_w 147, 3)]
theorem qt_q48_cX1_countOf : dcAll cX1_countOf ql_q48_cX1_countOf = true := by decide +kernel
theorem dX1_countOf_0 : decode cX1_countOf 0 = .ok (.iload_n 1, 1) := dc_of qt_q48_cX1_countOf 0 rfl
theorem dX1_countOf_1 : decode cX1_countOf 1 = .ok (.invokestatic 80, 3) := dc_of qt_q48_cX1_countOf 1 rfl
theorem dX1_countOf_4 : decode cX1_countOf 4 = .ok (.ifCond .eq 38, 3) := dc_of qt_q48_cX1_countOf 2 rfl
theorem dX1_countOf_7 : decode cX1_countOf 7 = .ok (.iload_n 1, 1) := dc_of qt_q48_cX1_countOf 3 rfl
theorem dX1_countOf_8 : decode cX1_countOf 8 = .ok (.iconst 1, 1) := dc_of qt_q48_cX1_countOf 4 rfl
theorem dX1_countOf_9 : decode cX1_countOf 9 = .ok (.ishr, 1) := dc_of qt_q48_cX1_countOf 5 rfl
theorem dX1_countOf_10 : decode cX1_countOf 10 = .ok (.i2l, 1) := dc_of qt_q48_cX1_countOf 6 rfl
theorem dX1_countOf_11 : decode cX1_countOf 11 = .ok (.lstore_n 2, 1) := dc_of qt_q48_cX1_countOf 7 rfl
theorem dX1_countOf_12 : decode cX1_countOf 12 = .ok (.lload_n 2, 1) := dc_of qt_q48_cX1_countOf 8 rfl
theorem dX1_countOf_13 : decode cX1_countOf 13 = .ok (.lconst 0, 1) := dc_of qt_q48_cX1_countOf 9 rfl
theorem dX1_countOf_14 : decode cX1_countOf 14 = .ok (.lcmp, 1) := dc_of qt_q48_cX1_countOf 10 rfl
theorem dX1_countOf_15 : decode cX1_countOf 15 = .ok (.ifCond .lt 13, 3) := dc_of qt_q48_cX1_countOf 11 rfl
theorem dX1_countOf_18 : decode cX1_countOf 18 = .ok (.ldc2_w 143, 3) := dc_of qt_q48_cX1_countOf 12 rfl
theorem dX1_countOf_21 : decode cX1_countOf 21 = .ok (.lload_n 2, 1) := dc_of qt_q48_cX1_countOf 13 rfl
theorem dX1_countOf_22 : decode cX1_countOf 22 = .ok (.lmul, 1) := dc_of qt_q48_cX1_countOf 14 rfl
theorem dX1_countOf_23 : decode cX1_countOf 23 = .ok (.lconst 1, 1) := dc_of qt_q48_cX1_countOf 15 rfl
theorem dX1_countOf_24 : decode cX1_countOf 24 = .ok (.ladd, 1) := dc_of qt_q48_cX1_countOf 16 rfl
theorem dX1_countOf_25 : decode cX1_countOf 25 = .ok (.goto 16, 3) := dc_of qt_q48_cX1_countOf 17 rfl
theorem dX1_countOf_28 : decode cX1_countOf 28 = .ok (.ldc2_w 143, 3) := dc_of qt_q48_cX1_countOf 18 rfl
theorem dX1_countOf_31 : decode cX1_countOf 31 = .ok (.ldc2_w 145, 3) := dc_of qt_q48_cX1_countOf 19 rfl
theorem dX1_countOf_34 : decode cX1_countOf 34 = .ok (.lload_n 2, 1) := dc_of qt_q48_cX1_countOf 20 rfl
theorem dX1_countOf_35 : decode cX1_countOf 35 = .ok (.lsub, 1) := dc_of qt_q48_cX1_countOf 21 rfl
theorem dX1_countOf_36 : decode cX1_countOf 36 = .ok (.lmul, 1) := dc_of qt_q48_cX1_countOf 22 rfl
theorem dX1_countOf_37 : decode cX1_countOf 37 = .ok (.ldc2_w 147, 3) := dc_of qt_q48_cX1_countOf 23 rfl
def ql_q49_cX1_countOf : List (Nat × Jvm.ClassFile.Instr × Nat) := [(40, .ladd, 1), (41, .lreturn, 1), (42, .aload_n 0, 1), (43, .iload_n 1, 1), (44, .invokevirtual 83, 3), (47, .istore_n 2, 1), (48, .iload_n 2, 1), (49, .ifCond .ge 7, 3), (52, .lconst 0, 1), (53, .goto 18, 3), (56, .ldc2_w 149, 3), (59, .aload_n 0, 1), (60, .getfield 25, 3), (63, .iload_n 2, 1), (64, .iaload, 1), (65, .i2l, 1), (66, .lmul, 1), (67, .ldc2_w 149, 3), (70, .ladd, 1), (71, .lreturn, 1)]
theorem qt_q49_cX1_countOf : dcAll cX1_countOf ql_q49_cX1_countOf = true := by decide +kernel
theorem dX1_countOf_40 : decode cX1_countOf 40 = .ok (.ladd, 1) := dc_of qt_q49_cX1_countOf 0 rfl
theorem dX1_countOf_41 : decode cX1_countOf 41 = .ok (.lreturn, 1) := dc_of qt_q49_cX1_countOf 1 rfl
theorem dX1_countOf_42 : decode cX1_countOf 42 = .ok (.aload_n 0, 1) := dc_of qt_q49_cX1_countOf 2 rfl
theorem dX1_countOf_43 : decode cX1_countOf 43 = .ok (.iload_n 1, 1) := dc_of qt_q49_cX1_countOf 3 rfl
theorem dX1_countOf_44 : decode cX1_countOf 44 = .ok (.invokevirtual 83, 3) := dc_of qt_q49_cX1_countOf 4 rfl
theorem dX1_countOf_47 : decode cX1_countOf 47 = .ok (.istore_n 2, 1) := dc_of qt_q49_cX1_countOf 5 rfl
theorem dX1_countOf_48 : decode cX1_countOf 48 = .ok (.iload_n 2, 1) := dc_of qt_q49_cX1_countOf 6 rfl
theorem dX1_countOf_49 : decode cX1_countOf 49 = .ok (.ifCond .ge 7, 3) := dc_of qt_q49_cX1_countOf 7 rfl
theorem dX1_countOf_52 : decode cX1_countOf 52 = .ok (.lconst 0, 1) := dc_of qt_q49_cX1_countOf 8 rfl
theorem dX1_countOf_53 : decode cX1_countOf 53 = .ok (.goto 18, 3) := dc_of qt_q49_cX1_countOf 9 rfl
theorem dX1_countOf_56 : decode cX1_countOf 56 = .ok (.ldc2_w 149, 3) := dc_of qt_q49_cX1_countOf 10 rfl
theorem dX1_countOf_59 : decode cX1_countOf 59 = .ok (.aload_n 0, 1) := dc_of qt_q49_cX1_countOf 11 rfl
theorem dX1_countOf_60 : decode cX1_countOf 60 = .ok (.getfield 25, 3) := dc_of qt_q49_cX1_countOf 12 rfl
theorem dX1_countOf_63 : decode cX1_countOf 63 = .ok (.iload_n 2, 1) := dc_of qt_q49_cX1_countOf 13 rfl
theorem dX1_countOf_64 : decode cX1_countOf 64 = .ok (.iaload, 1) := dc_of qt_q49_cX1_countOf 14 rfl
theorem dX1_countOf_65 : decode cX1_countOf 65 = .ok (.i2l, 1) := dc_of qt_q49_cX1_countOf 15 rfl
theorem dX1_countOf_66 : decode cX1_countOf 66 = .ok (.lmul, 1) := dc_of qt_q49_cX1_countOf 16 rfl
theorem dX1_countOf_67 : decode cX1_countOf 67 = .ok (.ldc2_w 149, 3) := dc_of qt_q49_cX1_countOf 17 rfl
theorem dX1_countOf_70 : decode cX1_countOf 70 = .ok (.ladd, 1) := dc_of qt_q49_cX1_countOf 18 rfl
theorem dX1_countOf_71 : decode cX1_countOf 71 = .ok (.lreturn, 1) := dc_of qt_q49_cX1_countOf 19 rfl
set_option maxRecDepth 20000 in
theorem ggX1_hasSameAs_X1_findOrder : GoodIn wsX1_hasSameAs wsX1_findOrder := goodIn_r _ [8, 1, 2, 9, 3, 10, 11, 12, 7, 13, 14, 15, 16, 17, 18, 19, 20, 21, 22, 23, 24, 25, 26, 27, 28, 43, 44, 45, 46, 47, 48, 49, 50, 51, 52] rfl (by decide +kernel)
set_option maxRecDepth 20000 in
theorem ggX1_hasSameAs_X1_countOf : GoodIn wsX1_hasSameAs wsX1_countOf := goodIn_r _ [32, 33, 34, 35, 36, 14, 37, 21, 38, 15, 16, 17, 7, 18, 19, 43, 44, 45, 46, 47, 48, 49, 50, 51, 52] rfl (by decide +kernel)
set_option maxRecDepth 20000 in
theorem ggX1_hasSameAs_X1_hasSameObject : GoodIn wsX1_hasSameAs wsX1_hasSameObject := goodIn_r _ [42, 9, 24, 21, 25, 27, 28, 29, 30, 31, 7, 32, 33, 34, 35, 36, 14, 37, 38, 15, 16, 17, 18, 19, 43, 44, 45, 46, 47, 48, 49, 50, 51, 52] rfl (by decide +kernel)
def ql_q50_cX1_hasSameAs : List (Nat × Jvm.ClassFile.Instr × Nat) := [(0, .aload_n 0, 1), (1, .invokevirtual 100, 3), (4, .aload_n 1, 1), (5, .invokevirtual 100, 3), (8, .aload_n 0, 1), (9, .getfield 86, 3), (12, .aload_n 1, 1), (13, .getfield 86, 3), (16, .if_icmp .eq 5, 3), (19, .iconst 0, 1), (20, .ireturn, 1), (21, .iconst 0, 1), (22, .istore_n 2, 1), (23, .iload_n 2, 1), (24, .iconst 4, 1), (25, .if_icmp .ge 35, 3), (28, .aload_n 0, 1), (29, .aload_n 0, 1), (30, .getfield 15, 3), (33, .iload_n 2, 1), (34, .iaload, 1), (35, .invokevirtual 139, 3), (38, .aload_n 1, 1), (39, .aload_n 1, 1)]
theorem qt_q50_cX1_hasSameAs : dcAll cX1_hasSameAs ql_q50_cX1_hasSameAs = true := by decide +kernel
theorem dX1_hasSameAs_0 : decode cX1_hasSameAs 0 = .ok (.aload_n 0, 1) := dc_of qt_q50_cX1_hasSameAs 0 rfl
theorem dX1_hasSameAs_1 : decode cX1_hasSameAs 1 = .ok (.invokevirtual 100, 3) := dc_of qt_q50_cX1_hasSameAs 1 rfl
theorem dX1_hasSameAs_4 : decode cX1_hasSameAs 4 = .ok (.aload_n 1, 1) := dc_of qt_q50_cX1_hasSameAs 2 rfl
theorem dX1_hasSameAs_5 : decode cX1_hasSameAs 5 = .ok (.invokevirtual 100, 3) := dc_of qt_q50_cX1_hasSameAs 3 rfl
theorem dX1_hasSameAs_8 : decode cX1_hasSameAs 8 = .ok (.aload_n 0, 1) := dc_of qt_q50_cX1_hasSameAs 4 rfl
theorem dX1_hasSameAs_9 : decode cX1_hasSameAs 9 = .ok (.getfield 86, 3) := dc_of qt_q50_cX1_hasSameAs 5 rfl
theorem dX1_hasSameAs_12 : decode cX1_hasSameAs 12 = .ok (.aload_n 1, 1) := dc_of qt_q50_cX1_hasSameAs 6 rfl
theorem dX1_hasSameAs_13 : decode cX1_hasSameAs 13 = .ok (.getfield 86, 3) := dc_of qt_q50_cX1_hasSameAs 7 rfl
theorem dX1_hasSameAs_16 : decode cX1_hasSameAs 16 = .ok (.if_icmp .eq 5, 3) := dc_of qt_q50_cX1_hasSameAs 8 rfl
theorem dX1_hasSameAs_19 : decode cX1_hasSameAs 19 = .ok (.iconst 0, 1) := dc_of qt_q50_cX1_hasSameAs 9 rfl
theorem dX1_hasSameAs_20 : decode cX1_hasSameAs 20 = .ok (.ireturn, 1) := dc_of qt_q50_cX1_hasSameAs 10 rfl
theorem dX1_hasSameAs_21 : decode cX1_hasSameAs 21 = .ok (.iconst 0, 1) := dc_of qt_q50_cX1_hasSameAs 11 rfl
theorem dX1_hasSameAs_22 : decode cX1_hasSameAs 22 = .ok (.istore_n 2, 1) := dc_of qt_q50_cX1_hasSameAs 12 rfl
theorem dX1_hasSameAs_23 : decode cX1_hasSameAs 23 = .ok (.iload_n 2, 1) := dc_of qt_q50_cX1_hasSameAs 13 rfl
theorem dX1_hasSameAs_24 : decode cX1_hasSameAs 24 = .ok (.iconst 4, 1) := dc_of qt_q50_cX1_hasSameAs 14 rfl
theorem dX1_hasSameAs_25 : decode cX1_hasSameAs 25 = .ok (.if_icmp .ge 35, 3) := dc_of qt_q50_cX1_hasSameAs 15 rfl
theorem dX1_hasSameAs_28 : decode cX1_hasSameAs 28 = .ok (.aload_n 0, 1) := dc_of qt_q50_cX1_hasSameAs 16 rfl
theorem dX1_hasSameAs_29 : decode cX1_hasSameAs 29 = .ok (.aload_n 0, 1) := dc_of qt_q50_cX1_hasSameAs 17 rfl
theorem dX1_hasSameAs_30 : decode cX1_hasSameAs 30 = .ok (.getfield 15, 3) := dc_of qt_q50_cX1_hasSameAs 18 rfl
theorem dX1_hasSameAs_33 : decode cX1_hasSameAs 33 = .ok (.iload_n 2, 1) := dc_of qt_q50_cX1_hasSameAs 19 rfl
theorem dX1_hasSameAs_34 : decode cX1_hasSameAs 34 = .ok (.iaload, 1) := dc_of qt_q50_cX1_hasSameAs 20 rfl
theorem dX1_hasSameAs_35 : decode cX1_hasSameAs 35 = .ok (.invokevirtual 139, 3) := dc_of qt_q50_cX1_hasSameAs 21 rfl
theorem dX1_hasSameAs_38 : decode cX1_hasSameAs 38 = .ok (.aload_n 1, 1) := dc_of qt_q50_cX1_hasSameAs 22 rfl
theorem dX1_hasSameAs_39 : decode cX1_hasSameAs 39 = .ok (.aload_n 1, 1) := dc_of qt_q50_cX1_hasSameAs 23 rfl
def ql_q51_cX1_hasSameAs : List (Nat × Jvm.ClassFile.Instr × Nat) := [(40, .getfield 15, 3), (43, .iload_n 2, 1), (44, .iaload, 1), (45, .invokevirtual 139, 3), (48, .lcmp, 1), (49, .ifCond .eq 5, 3), (52, .iconst 0, 1), (53, .ireturn, 1), (54, .iinc 2 1, 3), (57, .goto (-34), 3), (60, .iconst 0, 1), (61, .istore_n 2, 1), (62, .iload_n 2, 1), (63, .aload_n 0, 1), (64, .getfield 86, 3), (67, .if_icmp .ge 31, 3), (70, .aload_n 0, 1), (71, .aload_n 0, 1), (72, .getfield 28, 3), (75, .iload_n 2, 1), (76, .iaload, 1), (77, .aload_n 1, 1), (78, .aload_n 1, 1), (79, .getfield 28, 3)]
theorem qt_q51_cX1_hasSameAs : dcAll cX1_hasSameAs ql_q51_cX1_hasSameAs = true := by decide +kernel
theorem dX1_hasSameAs_40 : decode cX1_hasSameAs 40 = .ok (.getfield 15, 3) := dc_of qt_q51_cX1_hasSameAs 0 rfl
theorem dX1_hasSameAs_43 : decode cX1_hasSameAs 43 = .ok (.iload_n 2, 1) := dc_of qt_q51_cX1_hasSameAs 1 rfl
theorem dX1_hasSameAs_44 : decode cX1_hasSameAs 44 = .ok (.iaload, 1) := dc_of qt_q51_cX1_hasSameAs 2 rfl
theorem dX1_hasSameAs_45 : decode cX1_hasSameAs 45 = .ok (.invokevirtual 139, 3) := dc_of qt_q51_cX1_hasSameAs 3 rfl
theorem dX1_hasSameAs_48 : decode cX1_hasSameAs 48 = .ok (.lcmp, 1) := dc_of qt_q51_cX1_hasSameAs 4 rfl
theorem dX1_hasSameAs_49 : decode cX1_hasSameAs 49 = .ok (.ifCond .eq 5, 3) := dc_of qt_q51_cX1_hasSameAs 5 rfl
theorem dX1_hasSameAs_52 : decode cX1_hasSameAs 52 = .ok (.iconst 0, 1) := dc_of qt_q51_cX1_hasSameAs 6 rfl
theorem dX1_hasSameAs_53 : decode cX1_hasSameAs 53 = .ok (.ireturn, 1) := dc_of qt_q51_cX1_hasSameAs 7 rfl
theorem dX1_hasSameAs_54 : decode cX1_hasSameAs 54 = .ok (.iinc 2 1, 3) := dc_of qt_q51_cX1_hasSameAs 8 rfl
theorem dX1_hasSameAs_57 : decode cX1_hasSameAs 57 = .ok (.goto (-34), 3) := dc_of qt_q51_cX1_hasSameAs 9 rfl
theorem dX1_hasSameAs_60 : decode cX1_hasSameAs 60 = .ok (.iconst 0, 1) := dc_of qt_q51_cX1_hasSameAs 10 rfl
theorem dX1_hasSameAs_61 : decode cX1_hasSameAs 61 = .ok (.istore_n 2, 1) := dc_of qt_q51_cX1_hasSameAs 11 rfl
theorem dX1_hasSameAs_62 : decode cX1_hasSameAs 62 = .ok (.iload_n 2, 1) := dc_of qt_q51_cX1_hasSameAs 12 rfl
theorem dX1_hasSameAs_63 : decode cX1_hasSameAs 63 = .ok (.aload_n 0, 1) := dc_of qt_q51_cX1_hasSameAs 13 rfl
theorem dX1_hasSameAs_64 : decode cX1_hasSameAs 64 = .ok (.getfield 86, 3) := dc_of qt_q51_cX1_hasSameAs 14 rfl
theorem dX1_hasSameAs_67 : decode cX1_hasSameAs 67 = .ok (.if_icmp .ge 31, 3) := dc_of qt_q51_cX1_hasSameAs 15 rfl
theorem dX1_hasSameAs_70 : decode cX1_hasSameAs 70 = .ok (.aload_n 0, 1) := dc_of qt_q51_cX1_hasSameAs 16 rfl
theorem dX1_hasSameAs_71 : decode cX1_hasSameAs 71 = .ok (.aload_n 0, 1) := dc_of qt_q51_cX1_hasSameAs 17 rfl
theorem dX1_hasSameAs_72 : decode cX1_hasSameAs 72 = .ok (.getfield 28, 3) := dc_of qt_q51_cX1_hasSameAs 18 rfl
theorem dX1_hasSameAs_75 : decode cX1_hasSameAs 75 = .ok (.iload_n 2, 1) := dc_of qt_q51_cX1_hasSameAs 19 rfl
theorem dX1_hasSameAs_76 : decode cX1_hasSameAs 76 = .ok (.iaload, 1) := dc_of qt_q51_cX1_hasSameAs 20 rfl
theorem dX1_hasSameAs_77 : decode cX1_hasSameAs 77 = .ok (.aload_n 1, 1) := dc_of qt_q51_cX1_hasSameAs 21 rfl
theorem dX1_hasSameAs_78 : decode cX1_hasSameAs 78 = .ok (.aload_n 1, 1) := dc_of qt_q51_cX1_hasSameAs 22 rfl
theorem dX1_hasSameAs_79 : decode cX1_hasSameAs 79 = .ok (.getfield 28, 3) := dc_of qt_q51_cX1_hasSameAs 23 rfl
def ql_q52_cX1_hasSameAs : List (Nat × Jvm.ClassFile.Instr × Nat) := [(82, .iload_n 2, 1), (83, .iaload, 1), (84, .invokevirtual 151, 3), (87, .ifCond .ne 5, 3), (90, .iconst 0, 1), (91, .ireturn, 1), (92, .iinc 2 1, 3), (95, .goto (-33), 3), (98, .iconst 1, 1), (99, .ireturn, 1)]
theorem qt_q52_cX1_hasSameAs : dcAll cX1_hasSameAs ql_q52_cX1_hasSameAs = true := by decide +kernel
theorem dX1_hasSameAs_82 : decode cX1_hasSameAs 82 = .ok (.iload_n 2, 1) := dc_of qt_q52_cX1_hasSameAs 0 rfl
theorem dX1_hasSameAs_83 : decode cX1_hasSameAs 83 = .ok (.iaload, 1) := dc_of qt_q52_cX1_hasSameAs 1 rfl
theorem dX1_hasSameAs_84 : decode cX1_hasSameAs 84 = .ok (.invokevirtual 151, 3) := dc_of qt_q52_cX1_hasSameAs 2 rfl
theorem dX1_hasSameAs_87 : decode cX1_hasSameAs 87 = .ok (.ifCond .ne 5, 3) := dc_of qt_q52_cX1_hasSameAs 3 rfl
theorem dX1_hasSameAs_90 : decode cX1_hasSameAs 90 = .ok (.iconst 0, 1) := dc_of qt_q52_cX1_hasSameAs 4 rfl
theorem dX1_hasSameAs_91 : decode cX1_hasSameAs 91 = .ok (.ireturn, 1) := dc_of qt_q52_cX1_hasSameAs 5 rfl
theorem dX1_hasSameAs_92 : decode cX1_hasSameAs 92 = .ok (.iinc 2 1, 3) := dc_of qt_q52_cX1_hasSameAs 6 rfl
theorem dX1_hasSameAs_95 : decode cX1_hasSameAs 95 = .ok (.goto (-33), 3) := dc_of qt_q52_cX1_hasSameAs 7 rfl
theorem dX1_hasSameAs_98 : decode cX1_hasSameAs 98 = .ok (.iconst 1, 1) := dc_of qt_q52_cX1_hasSameAs 8 rfl
theorem dX1_hasSameAs_99 : decode cX1_hasSameAs 99 = .ok (.ireturn, 1) := dc_of qt_q52_cX1_hasSameAs 9 rfl
set_option maxRecDepth 20000 in
theorem ggX1_hasSameObject_X3_kindOf : GoodIn wsX1_hasSameObject wsX3_kindOf := goodIn_r _ [4] rfl (by decide +kernel)
set_option maxRecDepth 20000 in
theorem ggX1_hasSameObject_X3_slotsOf : GoodIn wsX1_hasSameObject wsX3_slotsOf := goodIn_r _ [6] rfl (by decide +kernel)
set_option maxRecDepth 20000 in
theorem ggX1_hasSameObject_X1_countOf : GoodIn wsX1_hasSameObject wsX1_countOf := goodIn_r _ [11, 12, 13, 14, 15, 16, 17, 3, 18, 19, 20, 21, 10, 22, 23, 24, 25, 26, 27, 28, 29, 30, 31, 32, 33] rfl (by decide +kernel)
def ql_q53_cX1_hasSameObject : List (Nat × Jvm.ClassFile.Instr × Nat) := [(0, .aload_n 0, 1), (1, .getfield 9, 3), (4, .iload_n 1, 1), (5, .iaload, 1), (6, .aload_n 2, 1), (7, .getfield 9, 3), (10, .iload_n 3, 1), (11, .iaload, 1), (12, .if_icmp .eq 5, 3), (15, .iconst 0, 1), (16, .ireturn, 1), (17, .aload_n 0, 1), (18, .getfield 9, 3), (21, .iload_n 1, 1), (22, .iaload, 1), (23, .invokestatic 67, 3), (26, .iconst 2, 1), (27, .if_icmp .ne 7, 3), (30, .iconst 1, 1), (31, .goto 4, 3), (34, .iconst 0, 1), (35, .istore 4, 2), (37, .aload_n 0, 1), (38, .getfield 9, 3)]
theorem qt_q53_cX1_hasSameObject : dcAll cX1_hasSameObject ql_q53_cX1_hasSameObject = true := by decide +kernel
theorem dX1_hasSameObject_0 : decode cX1_hasSameObject 0 = .ok (.aload_n 0, 1) := dc_of qt_q53_cX1_hasSameObject 0 rfl
theorem dX1_hasSameObject_1 : decode cX1_hasSameObject 1 = .ok (.getfield 9, 3) := dc_of qt_q53_cX1_hasSameObject 1 rfl
theorem dX1_hasSameObject_4 : decode cX1_hasSameObject 4 = .ok (.iload_n 1, 1) := dc_of qt_q53_cX1_hasSameObject 2 rfl
theorem dX1_hasSameObject_5 : decode cX1_hasSameObject 5 = .ok (.iaload, 1) := dc_of qt_q53_cX1_hasSameObject 3 rfl
theorem dX1_hasSameObject_6 : decode cX1_hasSameObject 6 = .ok (.aload_n 2, 1) := dc_of qt_q53_cX1_hasSameObject 4 rfl
theorem dX1_hasSameObject_7 : decode cX1_hasSameObject 7 = .ok (.getfield 9, 3) := dc_of qt_q53_cX1_hasSameObject 5 rfl
theorem dX1_hasSameObject_10 : decode cX1_hasSameObject 10 = .ok (.iload_n 3, 1) := dc_of qt_q53_cX1_hasSameObject 6 rfl
theorem dX1_hasSameObject_11 : decode cX1_hasSameObject 11 = .ok (.iaload, 1) := dc_of qt_q53_cX1_hasSameObject 7 rfl
theorem dX1_hasSameObject_12 : decode cX1_hasSameObject 12 = .ok (.if_icmp .eq 5, 3) := dc_of qt_q53_cX1_hasSameObject 8 rfl
theorem dX1_hasSameObject_15 : decode cX1_hasSameObject 15 = .ok (.iconst 0, 1) := dc_of qt_q53_cX1_hasSameObject 9 rfl
theorem dX1_hasSameObject_16 : decode cX1_hasSameObject 16 = .ok (.ireturn, 1) := dc_of qt_q53_cX1_hasSameObject 10 rfl
theorem dX1_hasSameObject_17 : decode cX1_hasSameObject 17 = .ok (.aload_n 0, 1) := dc_of qt_q53_cX1_hasSameObject 11 rfl
theorem dX1_hasSameObject_18 : decode cX1_hasSameObject 18 = .ok (.getfield 9, 3) := dc_of qt_q53_cX1_hasSameObject 12 rfl
theorem dX1_hasSameObject_21 : decode cX1_hasSameObject 21 = .ok (.iload_n 1, 1) := dc_of qt_q53_cX1_hasSameObject 13 rfl
theorem dX1_hasSameObject_22 : decode cX1_hasSameObject 22 = .ok (.iaload, 1) := dc_of qt_q53_cX1_hasSameObject 14 rfl
theorem dX1_hasSameObject_23 : decode cX1_hasSameObject 23 = .ok (.invokestatic 67, 3) := dc_of qt_q53_cX1_hasSameObject 15 rfl
theorem dX1_hasSameObject_26 : decode cX1_hasSameObject 26 = .ok (.iconst 2, 1) := dc_of qt_q53_cX1_hasSameObject 16 rfl
theorem dX1_hasSameObject_27 : decode cX1_hasSameObject 27 = .ok (.if_icmp .ne 7, 3) := dc_of qt_q53_cX1_hasSameObject 17 rfl
theorem dX1_hasSameObject_30 : decode cX1_hasSameObject 30 = .ok (.iconst 1, 1) := dc_of qt_q53_cX1_hasSameObject 18 rfl
theorem dX1_hasSameObject_31 : decode cX1_hasSameObject 31 = .ok (.goto 4, 3) := dc_of qt_q53_cX1_hasSameObject 19 rfl
theorem dX1_hasSameObject_34 : decode cX1_hasSameObject 34 = .ok (.iconst 0, 1) := dc_of qt_q53_cX1_hasSameObject 20 rfl
theorem dX1_hasSameObject_35 : decode cX1_hasSameObject 35 = .ok (.istore 4, 2) := dc_of qt_q53_cX1_hasSameObject 21 rfl
theorem dX1_hasSameObject_37 : decode cX1_hasSameObject 37 = .ok (.aload_n 0, 1) := dc_of qt_q53_cX1_hasSameObject 22 rfl
theorem dX1_hasSameObject_38 : decode cX1_hasSameObject 38 = .ok (.getfield 9, 3) := dc_of qt_q53_cX1_hasSameObject 23 rfl
def ql_q54_cX1_hasSameObject : List (Nat × Jvm.ClassFile.Instr × Nat) := [(41, .iload_n 1, 1), (42, .iaload, 1), (43, .invokestatic 50, 3), (46, .istore 5, 2), (48, .iconst 1, 1), (49, .istore 6, 2), (51, .iload 6, 2), (53, .iload 5, 2), (55, .if_icmp .gt 64, 3), (58, .aload_n 0, 1), (59, .getfield 9, 3), (62, .iload_n 1, 1), (63, .iload 6, 2), (65, .iadd, 1), (66, .iaload, 1), (67, .istore 7, 2), (69, .aload_n 2, 1), (70, .getfield 9, 3), (73, .iload_n 3, 1), (74, .iload 6, 2), (76, .iadd, 1), (77, .iaload, 1), (78, .istore 8, 2), (80, .iload 4, 2)]
theorem qt_q54_cX1_hasSameObject : dcAll cX1_hasSameObject ql_q54_cX1_hasSameObject = true := by decide +kernel
theorem dX1_hasSameObject_41 : decode cX1_hasSameObject 41 = .ok (.iload_n 1, 1) := dc_of qt_q54_cX1_hasSameObject 0 rfl
theorem dX1_hasSameObject_42 : decode cX1_hasSameObject 42 = .ok (.iaload, 1) := dc_of qt_q54_cX1_hasSameObject 1 rfl
theorem dX1_hasSameObject_43 : decode cX1_hasSameObject 43 = .ok (.invokestatic 50, 3) := dc_of qt_q54_cX1_hasSameObject 2 rfl
theorem dX1_hasSameObject_46 : decode cX1_hasSameObject 46 = .ok (.istore 5, 2) := dc_of qt_q54_cX1_hasSameObject 3 rfl
theorem dX1_hasSameObject_48 : decode cX1_hasSameObject 48 = .ok (.iconst 1, 1) := dc_of qt_q54_cX1_hasSameObject 4 rfl
theorem dX1_hasSameObject_49 : decode cX1_hasSameObject 49 = .ok (.istore 6, 2) := dc_of qt_q54_cX1_hasSameObject 5 rfl
theorem dX1_hasSameObject_51 : decode cX1_hasSameObject 51 = .ok (.iload 6, 2) := dc_of qt_q54_cX1_hasSameObject 6 rfl
theorem dX1_hasSameObject_53 : decode cX1_hasSameObject 53 = .ok (.iload 5, 2) := dc_of qt_q54_cX1_hasSameObject 7 rfl
theorem dX1_hasSameObject_55 : decode cX1_hasSameObject 55 = .ok (.if_icmp .gt 64, 3) := dc_of qt_q54_cX1_hasSameObject 8 rfl
theorem dX1_hasSameObject_58 : decode cX1_hasSameObject 58 = .ok (.aload_n 0, 1) := dc_of qt_q54_cX1_hasSameObject 9 rfl
theorem dX1_hasSameObject_59 : decode cX1_hasSameObject 59 = .ok (.getfield 9, 3) := dc_of qt_q54_cX1_hasSameObject 10 rfl
theorem dX1_hasSameObject_62 : decode cX1_hasSameObject 62 = .ok (.iload_n 1, 1) := dc_of qt_q54_cX1_hasSameObject 11 rfl
theorem dX1_hasSameObject_63 : decode cX1_hasSameObject 63 = .ok (.iload 6, 2) := dc_of qt_q54_cX1_hasSameObject 12 rfl
theorem dX1_hasSameObject_65 : decode cX1_hasSameObject 65 = .ok (.iadd, 1) := dc_of qt_q54_cX1_hasSameObject 13 rfl
theorem dX1_hasSameObject_66 : decode cX1_hasSameObject 66 = .ok (.iaload, 1) := dc_of qt_q54_cX1_hasSameObject 14 rfl
theorem dX1_hasSameObject_67 : decode cX1_hasSameObject 67 = .ok (.istore 7, 2) := dc_of qt_q54_cX1_hasSameObject 15 rfl
theorem dX1_hasSameObject_69 : decode cX1_hasSameObject 69 = .ok (.aload_n 2, 1) := dc_of qt_q54_cX1_hasSameObject 16 rfl
theorem dX1_hasSameObject_70 : decode cX1_hasSameObject 70 = .ok (.getfield 9, 3) := dc_of qt_q54_cX1_hasSameObject 17 rfl
theorem dX1_hasSameObject_73 : decode cX1_hasSameObject 73 = .ok (.iload_n 3, 1) := dc_of qt_q54_cX1_hasSameObject 18 rfl
theorem dX1_hasSameObject_74 : decode cX1_hasSameObject 74 = .ok (.iload 6, 2) := dc_of qt_q54_cX1_hasSameObject 19 rfl
theorem dX1_hasSameObject_76 : decode cX1_hasSameObject 76 = .ok (.iadd, 1) := dc_of qt_q54_cX1_hasSameObject 20 rfl
theorem dX1_hasSameObject_77 : decode cX1_hasSameObject 77 = .ok (.iaload, 1) := dc_of qt_q54_cX1_hasSameObject 21 rfl
theorem dX1_hasSameObject_78 : decode cX1_hasSameObject 78 = .ok (.istore 8, 2) := dc_of qt_q54_cX1_hasSameObject 22 rfl
theorem dX1_hasSameObject_80 : decode cX1_hasSameObject 80 = .ok (.iload 4, 2) := dc_of qt_q54_cX1_hasSameObject 23 rfl
def ql_q55_cX1_hasSameObject : List (Nat × Jvm.ClassFile.Instr × Nat) := [(82, .ifCond .eq 13, 3), (85, .iload 7, 2), (87, .iload 8, 2), (89, .if_icmp .eq 24, 3), (92, .goto 19, 3), (95, .aload_n 0, 1), (96, .iload 7, 2), (98, .invokevirtual 139, 3), (101, .aload_n 2, 1), (102, .iload 8, 2), (104, .invokevirtual 139, 3), (107, .lcmp, 1), (108, .ifCond .eq 5, 3), (111, .iconst 0, 1), (112, .ireturn, 1), (113, .iinc 6 1, 3), (116, .goto (-65), 3), (119, .iconst 1, 1), (120, .ireturn, 1)]
theorem qt_q55_cX1_hasSameObject : dcAll cX1_hasSameObject ql_q55_cX1_hasSameObject = true := by decide +kernel
theorem dX1_hasSameObject_82 : decode cX1_hasSameObject 82 = .ok (.ifCond .eq 13, 3) := dc_of qt_q55_cX1_hasSameObject 0 rfl
theorem dX1_hasSameObject_85 : decode cX1_hasSameObject 85 = .ok (.iload 7, 2) := dc_of qt_q55_cX1_hasSameObject 1 rfl
theorem dX1_hasSameObject_87 : decode cX1_hasSameObject 87 = .ok (.iload 8, 2) := dc_of qt_q55_cX1_hasSameObject 2 rfl
theorem dX1_hasSameObject_89 : decode cX1_hasSameObject 89 = .ok (.if_icmp .eq 24, 3) := dc_of qt_q55_cX1_hasSameObject 3 rfl
theorem dX1_hasSameObject_92 : decode cX1_hasSameObject 92 = .ok (.goto 19, 3) := dc_of qt_q55_cX1_hasSameObject 4 rfl
theorem dX1_hasSameObject_95 : decode cX1_hasSameObject 95 = .ok (.aload_n 0, 1) := dc_of qt_q55_cX1_hasSameObject 5 rfl
theorem dX1_hasSameObject_96 : decode cX1_hasSameObject 96 = .ok (.iload 7, 2) := dc_of qt_q55_cX1_hasSameObject 6 rfl
theorem dX1_hasSameObject_98 : decode cX1_hasSameObject 98 = .ok (.invokevirtual 139, 3) := dc_of qt_q55_cX1_hasSameObject 7 rfl
theorem dX1_hasSameObject_101 : decode cX1_hasSameObject 101 = .ok (.aload_n 2, 1) := dc_of qt_q55_cX1_hasSameObject 8 rfl
theorem dX1_hasSameObject_102 : decode cX1_hasSameObject 102 = .ok (.iload 8, 2) := dc_of qt_q55_cX1_hasSameObject 9 rfl
theorem dX1_hasSameObject_104 : decode cX1_hasSameObject 104 = .ok (.invokevirtual 139, 3) := dc_of qt_q55_cX1_hasSameObject 10 rfl
theorem dX1_hasSameObject_107 : decode cX1_hasSameObject 107 = .ok (.lcmp, 1) := dc_of qt_q55_cX1_hasSameObject 11 rfl
theorem dX1_hasSameObject_108 : decode cX1_hasSameObject 108 = .ok (.ifCond .eq 5, 3) := dc_of qt_q55_cX1_hasSameObject 12 rfl
theorem dX1_hasSameObject_111 : decode cX1_hasSameObject 111 = .ok (.iconst 0, 1) := dc_of qt_q55_cX1_hasSameObject 13 rfl
theorem dX1_hasSameObject_112 : decode cX1_hasSameObject 112 = .ok (.ireturn, 1) := dc_of qt_q55_cX1_hasSameObject 14 rfl
theorem dX1_hasSameObject_113 : decode cX1_hasSameObject 113 = .ok (.iinc 6 1, 3) := dc_of qt_q55_cX1_hasSameObject 15 rfl
theorem dX1_hasSameObject_116 : decode cX1_hasSameObject 116 = .ok (.goto (-65), 3) := dc_of qt_q55_cX1_hasSameObject 16 rfl
theorem dX1_hasSameObject_119 : decode cX1_hasSameObject 119 = .ok (.iconst 1, 1) := dc_of qt_q55_cX1_hasSameObject 17 rfl
theorem dX1_hasSameObject_120 : decode cX1_hasSameObject 120 = .ok (.ireturn, 1) := dc_of qt_q55_cX1_hasSameObject 18 rfl
set_option maxRecDepth 20000 in
theorem ggX1_resolveReferences_X1_listObjects : GoodIn wsX1_resolveReferences wsX1_listObjects := goodIn_r _ [9, 10, 2, 4, 3, 11, 12, 13, 14, 15, 16, 17, 8, 18, 19, 20, 21, 22, 23, 24, 25, 26, 27, 28, 29, 30, 31, 32, 33, 34, 48, 49, 50, 51, 52, 53, 54, 55, 56, 57] rfl (by decide +kernel)
set_option maxRecDepth 20000 in
theorem ggX1_resolveReferences_X1_resolveAll : GoodIn wsX1_resolveReferences wsX1_resolveAll := goodIn_r _ [38, 4, 39, 21, 40, 41, 42, 43, 8, 44, 45, 48, 49, 50, 51, 52, 53, 54, 55, 56, 57] rfl (by decide +kernel)
set_option maxRecDepth 20000 in
theorem ggX1_resolveReferences_X3_valuesOf : GoodIn wsX1_resolveReferences wsX3_valuesOf := goodIn_r _ [47, 23, 24, 21, 25, 26, 27, 28] rfl (by decide +kernel)
def ql_q56_cX1_resolveReferences : List (Nat × Jvm.ClassFile.Instr × Nat) := [(0, .aload_n 0, 1), (1, .invokevirtual 57, 3), (4, .pop, 1), (5, .aload_n 0, 1), (6, .aload_n 0, 1), (7, .getfield 15, 3), (10, .iconst 0, 1), (11, .iconst 4, 1), (12, .invokevirtual 155, 3), (15, .iconst 0, 1), (16, .istore_n 1, 1), (17, .iload_n 1, 1), (18, .aload_n 0, 1), (19, .getfield 43, 3), (22, .if_icmp .ge 39, 3), (25, .aload_n 0, 1), (26, .aload_n 0, 1), (27, .getfield 9, 3), (30, .aload_n 0, 1), (31, .getfield 22, 3), (34, .iload_n 1, 1), (35, .iaload, 1), (36, .iconst 1, 1), (37, .iadd, 1)]
theorem qt_q56_cX1_resolveReferences : dcAll cX1_resolveReferences ql_q56_cX1_resolveReferences = true := by decide +kernel
theorem dX1_resolveReferences_0 : decode cX1_resolveReferences 0 = .ok (.aload_n 0, 1) := dc_of qt_q56_cX1_resolveReferences 0 rfl
theorem dX1_resolveReferences_1 : decode cX1_resolveReferences 1 = .ok (.invokevirtual 57, 3) := dc_of qt_q56_cX1_resolveReferences 1 rfl
theorem dX1_resolveReferences_4 : decode cX1_resolveReferences 4 = .ok (.pop, 1) := dc_of qt_q56_cX1_resolveReferences 2 rfl
theorem dX1_resolveReferences_5 : decode cX1_resolveReferences 5 = .ok (.aload_n 0, 1) := dc_of qt_q56_cX1_resolveReferences 3 rfl
theorem dX1_resolveReferences_6 : decode cX1_resolveReferences 6 = .ok (.aload_n 0, 1) := dc_of qt_q56_cX1_resolveReferences 4 rfl
theorem dX1_resolveReferences_7 : decode cX1_resolveReferences 7 = .ok (.getfield 15, 3) := dc_of qt_q56_cX1_resolveReferences 5 rfl
theorem dX1_resolveReferences_10 : decode cX1_resolveReferences 10 = .ok (.iconst 0, 1) := dc_of qt_q56_cX1_resolveReferences 6 rfl
theorem dX1_resolveReferences_11 : decode cX1_resolveReferences 11 = .ok (.iconst 4, 1) := dc_of qt_q56_cX1_resolveReferences 7 rfl
theorem dX1_resolveReferences_12 : decode cX1_resolveReferences 12 = .ok (.invokevirtual 155, 3) := dc_of qt_q56_cX1_resolveReferences 8 rfl
theorem dX1_resolveReferences_15 : decode cX1_resolveReferences 15 = .ok (.iconst 0, 1) := dc_of qt_q56_cX1_resolveReferences 9 rfl
theorem dX1_resolveReferences_16 : decode cX1_resolveReferences 16 = .ok (.istore_n 1, 1) := dc_of qt_q56_cX1_resolveReferences 10 rfl
theorem dX1_resolveReferences_17 : decode cX1_resolveReferences 17 = .ok (.iload_n 1, 1) := dc_of qt_q56_cX1_resolveReferences 11 rfl
theorem dX1_resolveReferences_18 : decode cX1_resolveReferences 18 = .ok (.aload_n 0, 1) := dc_of qt_q56_cX1_resolveReferences 12 rfl
theorem dX1_resolveReferences_19 : decode cX1_resolveReferences 19 = .ok (.getfield 43, 3) := dc_of qt_q56_cX1_resolveReferences 13 rfl
theorem dX1_resolveReferences_22 : decode cX1_resolveReferences 22 = .ok (.if_icmp .ge 39, 3) := dc_of qt_q56_cX1_resolveReferences 14 rfl
theorem dX1_resolveReferences_25 : decode cX1_resolveReferences 25 = .ok (.aload_n 0, 1) := dc_of qt_q56_cX1_resolveReferences 15 rfl
theorem dX1_resolveReferences_26 : decode cX1_resolveReferences 26 = .ok (.aload_n 0, 1) := dc_of qt_q56_cX1_resolveReferences 16 rfl
theorem dX1_resolveReferences_27 : decode cX1_resolveReferences 27 = .ok (.getfield 9, 3) := dc_of qt_q56_cX1_resolveReferences 17 rfl
theorem dX1_resolveReferences_30 : decode cX1_resolveReferences 30 = .ok (.aload_n 0, 1) := dc_of qt_q56_cX1_resolveReferences 18 rfl
theorem dX1_resolveReferences_31 : decode cX1_resolveReferences 31 = .ok (.getfield 22, 3) := dc_of qt_q56_cX1_resolveReferences 19 rfl
theorem dX1_resolveReferences_34 : decode cX1_resolveReferences 34 = .ok (.iload_n 1, 1) := dc_of qt_q56_cX1_resolveReferences 20 rfl
theorem dX1_resolveReferences_35 : decode cX1_resolveReferences 35 = .ok (.iaload, 1) := dc_of qt_q56_cX1_resolveReferences 21 rfl
theorem dX1_resolveReferences_36 : decode cX1_resolveReferences 36 = .ok (.iconst 1, 1) := dc_of qt_q56_cX1_resolveReferences 22 rfl
theorem dX1_resolveReferences_37 : decode cX1_resolveReferences 37 = .ok (.iadd, 1) := dc_of qt_q56_cX1_resolveReferences 23 rfl
def ql_q57_cX1_resolveReferences : List (Nat × Jvm.ClassFile.Instr × Nat) := [(38, .aload_n 0, 1), (39, .getfield 9, 3), (42, .aload_n 0, 1), (43, .getfield 22, 3), (46, .iload_n 1, 1), (47, .iaload, 1), (48, .iaload, 1), (49, .invokestatic 70, 3), (52, .invokevirtual 155, 3), (55, .iinc 1 1, 3), (58, .goto (-41), 3), (61, .return_, 1)]
theorem qt_q57_cX1_resolveReferences : dcAll cX1_resolveReferences ql_q57_cX1_resolveReferences = true := by decide +kernel
theorem dX1_resolveReferences_38 : decode cX1_resolveReferences 38 = .ok (.aload_n 0, 1) := dc_of qt_q57_cX1_resolveReferences 0 rfl
theorem dX1_resolveReferences_39 : decode cX1_resolveReferences 39 = .ok (.getfield 9, 3) := dc_of qt_q57_cX1_resolveReferences 1 rfl
theorem dX1_resolveReferences_42 : decode cX1_resolveReferences 42 = .ok (.aload_n 0, 1) := dc_of qt_q57_cX1_resolveReferences 2 rfl
theorem dX1_resolveReferences_43 : decode cX1_resolveReferences 43 = .ok (.getfield 22, 3) := dc_of qt_q57_cX1_resolveReferences 3 rfl
theorem dX1_resolveReferences_46 : decode cX1_resolveReferences 46 = .ok (.iload_n 1, 1) := dc_of qt_q57_cX1_resolveReferences 4 rfl
theorem dX1_resolveReferences_47 : decode cX1_resolveReferences 47 = .ok (.iaload, 1) := dc_of qt_q57_cX1_resolveReferences 5 rfl
theorem dX1_resolveReferences_48 : decode cX1_resolveReferences 48 = .ok (.iaload, 1) := dc_of qt_q57_cX1_resolveReferences 6 rfl
theorem dX1_resolveReferences_49 : decode cX1_resolveReferences 49 = .ok (.invokestatic 70, 3) := dc_of qt_q57_cX1_resolveReferences 7 rfl
theorem dX1_resolveReferences_52 : decode cX1_resolveReferences 52 = .ok (.invokevirtual 155, 3) := dc_of qt_q57_cX1_resolveReferences 8 rfl
theorem dX1_resolveReferences_55 : decode cX1_resolveReferences 55 = .ok (.iinc 1 1, 3) := dc_of qt_q57_cX1_resolveReferences 9 rfl
theorem dX1_resolveReferences_58 : decode cX1_resolveReferences 58 = .ok (.goto (-41), 3) := dc_of qt_q57_cX1_resolveReferences 10 rfl
theorem dX1_resolveReferences_61 : decode cX1_resolveReferences 61 = .ok (.return_, 1) := dc_of qt_q57_cX1_resolveReferences 11 rfl
set_option maxRecDepth 20000 in
theorem ggX1_resolveAll_X3_isNumber : GoodIn wsX1_resolveAll wsX3_isNumber := goodIn_r _ [4] rfl (by decide +kernel)
set_option maxRecDepth 20000 in
theorem ggX1_resolveAll_X1_addressOf : GoodIn wsX1_resolveAll wsX1_addressOf := goodIn_r _ [9, 10, 11, 12, 13, 14, 15, 16, 17, 18, 19, 20] rfl (by decide +kernel)
def ql_q58_cX1_resolveAll : List (Nat × Jvm.ClassFile.Instr × Nat) := [(0, .iload_n 2, 1), (1, .istore 4, 2), (3, .iload 4, 2), (5, .iload_n 2, 1), (6, .iload_n 3, 1), (7, .iadd, 1), (8, .if_icmp .ge 47, 3), (11, .aload_n 1, 1), (12, .iload 4, 2), (14, .iaload, 1), (15, .istore 5, 2), (17, .iload 5, 2), (19, .ifCond .eq 30, 3), (22, .iload 5, 2), (24, .invokestatic 80, 3), (27, .ifCond .ne 22, 3), (30, .aload_n 1, 1), (31, .iload 4, 2), (33, .aload_n 0, 1), (34, .aload_n 0, 1), (35, .getfield 22, 3), (38, .iload 5, 2), (40, .iconst 2, 1), (41, .idiv, 1)]
theorem qt_q58_cX1_resolveAll : dcAll cX1_resolveAll ql_q58_cX1_resolveAll = true := by decide +kernel
theorem dX1_resolveAll_0 : decode cX1_resolveAll 0 = .ok (.iload_n 2, 1) := dc_of qt_q58_cX1_resolveAll 0 rfl
theorem dX1_resolveAll_1 : decode cX1_resolveAll 1 = .ok (.istore 4, 2) := dc_of qt_q58_cX1_resolveAll 1 rfl
theorem dX1_resolveAll_3 : decode cX1_resolveAll 3 = .ok (.iload 4, 2) := dc_of qt_q58_cX1_resolveAll 2 rfl
theorem dX1_resolveAll_5 : decode cX1_resolveAll 5 = .ok (.iload_n 2, 1) := dc_of qt_q58_cX1_resolveAll 3 rfl
theorem dX1_resolveAll_6 : decode cX1_resolveAll 6 = .ok (.iload_n 3, 1) := dc_of qt_q58_cX1_resolveAll 4 rfl
theorem dX1_resolveAll_7 : decode cX1_resolveAll 7 = .ok (.iadd, 1) := dc_of qt_q58_cX1_resolveAll 5 rfl
theorem dX1_resolveAll_8 : decode cX1_resolveAll 8 = .ok (.if_icmp .ge 47, 3) := dc_of qt_q58_cX1_resolveAll 6 rfl
