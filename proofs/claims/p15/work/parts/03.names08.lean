theorem dX2_readObjectCount_11 : decode cX2_readObjectCount 11 = .ok (.ldc2_w 87, 3) := dc_of qt_q74_cX2_readObjectCount 7 rfl
theorem dX2_readObjectCount_14 : decode cX2_readObjectCount 14 = .ok (.lcmp, 1) := dc_of qt_q74_cX2_readObjectCount 8 rfl
theorem dX2_readObjectCount_15 : decode cX2_readObjectCount 15 = .ok (.ifCond .le 8, 3) := dc_of qt_q74_cX2_readObjectCount 9 rfl
theorem dX2_readObjectCount_18 : decode cX2_readObjectCount 18 = .ok (.aload_n 0, 1) := dc_of qt_q74_cX2_readObjectCount 10 rfl
theorem dX2_readObjectCount_19 : decode cX2_readObjectCount 19 = .ok (.iload_n 1, 1) := dc_of qt_q74_cX2_readObjectCount 11 rfl
theorem dX2_readObjectCount_20 : decode cX2_readObjectCount 20 = .ok (.invokevirtual 64, 3) := dc_of qt_q74_cX2_readObjectCount 12 rfl
theorem dX2_readObjectCount_23 : decode cX2_readObjectCount 23 = .ok (.aload_n 0, 1) := dc_of qt_q74_cX2_readObjectCount 13 rfl
theorem dX2_readObjectCount_24 : decode cX2_readObjectCount 24 = .ok (.lload_n 2, 1) := dc_of qt_q74_cX2_readObjectCount 14 rfl
theorem dX2_readObjectCount_25 : decode cX2_readObjectCount 25 = .ok (.ldc2_w 87, 3) := dc_of qt_q74_cX2_readObjectCount 15 rfl
theorem dX2_readObjectCount_28 : decode cX2_readObjectCount 28 = .ok (.invokestatic 89, 3) := dc_of qt_q74_cX2_readObjectCount 16 rfl
theorem dX2_readObjectCount_31 : decode cX2_readObjectCount 31 = .ok (.l2i, 1) := dc_of qt_q74_cX2_readObjectCount 17 rfl
theorem dX2_readObjectCount_32 : decode cX2_readObjectCount 32 = .ok (.putfield 45, 3) := dc_of qt_q74_cX2_readObjectCount 18 rfl
theorem dX2_readObjectCount_35 : decode cX2_readObjectCount 35 = .ok (.return_, 1) := dc_of qt_q74_cX2_readObjectCount 19 rfl
set_option maxRecDepth 20000 in
theorem ggX2_readHead_X2_nextCount : GoodIn wsX2_readHead wsX2_nextCount := goodIn_r _ [8, 1, 9, 10, 11, 12, 7, 13, 14, 15, 16, 17, 18, 19, 41, 42, 43, 44, 45, 46, 47] rfl (by decide +kernel)
set_option maxRecDepth 20000 in
theorem ggX2_readHead_X2_endAt : GoodIn wsX2_readHead wsX2_endAt := goodIn_r _ [18, 19, 41, 42, 43, 44, 45] rfl (by decide +kernel)
set_option maxRecDepth 20000 in
theorem ggX2_readHead_X3_mayHaveSlots : GoodIn wsX2_readHead wsX3_mayHaveSlots := goodIn_r _ [22, 23, 24, 25] rfl (by decide +kernel)
set_option maxRecDepth 20000 in
theorem ggX2_readHead_X2_goesOn : GoodIn wsX2_readHead wsX2_goesOn := goodIn_r _ [29, 19, 41, 42, 43, 44, 45] rfl (by decide +kernel)
set_option maxRecDepth 20000 in
theorem ggX2_readHead_X1_hasRoomFor : GoodIn wsX2_readHead wsX1_hasRoomFor := goodIn_r _ [34, 35, 48, 49, 50, 51, 52, 53, 54, 55, 56, 57] rfl (by decide +kernel)
set_option maxRecDepth 20000 in
theorem ggX2_readHead_X1_append : GoodIn wsX2_readHead wsX1_append := goodIn_r _ [39, 35, 40, 48, 49, 50, 51, 52, 53, 54, 55, 56, 57] rfl (by decide +kernel)
def ql_q75_cX2_readHead : List (Nat × Jvm.ClassFile.Instr × Nat) := [(0, .aload_n 0, 1), (1, .getfield 15, 3), (4, .istore_n 3, 1), (5, .aload_n 0, 1), (6, .invokevirtual 83, 3), (9, .lstore 4, 2), (11, .lload 4, 2), (13, .lconst 1, 1), (14, .lcmp, 1), (15, .ifCond .lt 20, 3), (18, .lload 4, 2), (20, .ldc2_w 95, 3), (23, .lcmp, 1), (24, .ifCond .gt 11, 3), (27, .iload_n 2, 1), (28, .aload_n 0, 1), (29, .getfield 22, 3), (32, .if_icmp .lt 8, 3), (35, .aload_n 0, 1), (36, .iload_n 3, 1), (37, .invokevirtual 64, 3), (40, .aload_n 0, 1), (41, .getfield 15, 3), (44, .istore 6, 2)]
theorem qt_q75_cX2_readHead : dcAll cX2_readHead ql_q75_cX2_readHead = true := by decide +kernel
theorem dX2_readHead_0 : decode cX2_readHead 0 = .ok (.aload_n 0, 1) := dc_of qt_q75_cX2_readHead 0 rfl
theorem dX2_readHead_1 : decode cX2_readHead 1 = .ok (.getfield 15, 3) := dc_of qt_q75_cX2_readHead 1 rfl
theorem dX2_readHead_4 : decode cX2_readHead 4 = .ok (.istore_n 3, 1) := dc_of qt_q75_cX2_readHead 2 rfl
theorem dX2_readHead_5 : decode cX2_readHead 5 = .ok (.aload_n 0, 1) := dc_of qt_q75_cX2_readHead 3 rfl
theorem dX2_readHead_6 : decode cX2_readHead 6 = .ok (.invokevirtual 83, 3) := dc_of qt_q75_cX2_readHead 4 rfl
theorem dX2_readHead_9 : decode cX2_readHead 9 = .ok (.lstore 4, 2) := dc_of qt_q75_cX2_readHead 5 rfl
theorem dX2_readHead_11 : decode cX2_readHead 11 = .ok (.lload 4, 2) := dc_of qt_q75_cX2_readHead 6 rfl
theorem dX2_readHead_13 : decode cX2_readHead 13 = .ok (.lconst 1, 1) := dc_of qt_q75_cX2_readHead 7 rfl
theorem dX2_readHead_14 : decode cX2_readHead 14 = .ok (.lcmp, 1) := dc_of qt_q75_cX2_readHead 8 rfl
theorem dX2_readHead_15 : decode cX2_readHead 15 = .ok (.ifCond .lt 20, 3) := dc_of qt_q75_cX2_readHead 9 rfl
theorem dX2_readHead_18 : decode cX2_readHead 18 = .ok (.lload 4, 2) := dc_of qt_q75_cX2_readHead 10 rfl
theorem dX2_readHead_20 : decode cX2_readHead 20 = .ok (.ldc2_w 95, 3) := dc_of qt_q75_cX2_readHead 11 rfl
theorem dX2_readHead_23 : decode cX2_readHead 23 = .ok (.lcmp, 1) := dc_of qt_q75_cX2_readHead 12 rfl
theorem dX2_readHead_24 : decode cX2_readHead 24 = .ok (.ifCond .gt 11, 3) := dc_of qt_q75_cX2_readHead 13 rfl
theorem dX2_readHead_27 : decode cX2_readHead 27 = .ok (.iload_n 2, 1) := dc_of qt_q75_cX2_readHead 14 rfl
theorem dX2_readHead_28 : decode cX2_readHead 28 = .ok (.aload_n 0, 1) := dc_of qt_q75_cX2_readHead 15 rfl
theorem dX2_readHead_29 : decode cX2_readHead 29 = .ok (.getfield 22, 3) := dc_of qt_q75_cX2_readHead 16 rfl
theorem dX2_readHead_32 : decode cX2_readHead 32 = .ok (.if_icmp .lt 8, 3) := dc_of qt_q75_cX2_readHead 17 rfl
theorem dX2_readHead_35 : decode cX2_readHead 35 = .ok (.aload_n 0, 1) := dc_of qt_q75_cX2_readHead 18 rfl
theorem dX2_readHead_36 : decode cX2_readHead 36 = .ok (.iload_n 3, 1) := dc_of qt_q75_cX2_readHead 19 rfl
theorem dX2_readHead_37 : decode cX2_readHead 37 = .ok (.invokevirtual 64, 3) := dc_of qt_q75_cX2_readHead 20 rfl
theorem dX2_readHead_40 : decode cX2_readHead 40 = .ok (.aload_n 0, 1) := dc_of qt_q75_cX2_readHead 21 rfl
theorem dX2_readHead_41 : decode cX2_readHead 41 = .ok (.getfield 15, 3) := dc_of qt_q75_cX2_readHead 22 rfl
theorem dX2_readHead_44 : decode cX2_readHead 44 = .ok (.istore 6, 2) := dc_of qt_q75_cX2_readHead 23 rfl
def ql_q76_cX2_readHead : List (Nat × Jvm.ClassFile.Instr × Nat) := [(46, .aload_n 0, 1), (47, .invokevirtual 83, 3), (50, .lstore 7, 2), (52, .lload 4, 2), (54, .lload 7, 2), (56, .invokestatic 97, 3), (59, .ifCond .ne 9, 3), (62, .aload_n 0, 1), (63, .iload 6, 2), (65, .invokevirtual 64, 3), (68, .aload_n 0, 1), (69, .invokevirtual 31, 3), (72, .ifCond .eq 18, 3), (75, .aload_n 1, 1), (76, .lload 7, 2), (78, .l2i, 1), (79, .invokevirtual 101, 3), (82, .ifCond .ne 8, 3), (85, .aload_n 0, 1), (86, .iload_n 3, 1), (87, .invokevirtual 64, 3), (90, .aload_n 0, 1), (91, .invokevirtual 31, 3), (94, .ifCond .eq 16, 3)]
theorem qt_q76_cX2_readHead : dcAll cX2_readHead ql_q76_cX2_readHead = true := by decide +kernel
theorem dX2_readHead_46 : decode cX2_readHead 46 = .ok (.aload_n 0, 1) := dc_of qt_q76_cX2_readHead 0 rfl
theorem dX2_readHead_47 : decode cX2_readHead 47 = .ok (.invokevirtual 83, 3) := dc_of qt_q76_cX2_readHead 1 rfl
theorem dX2_readHead_50 : decode cX2_readHead 50 = .ok (.lstore 7, 2) := dc_of qt_q76_cX2_readHead 2 rfl
theorem dX2_readHead_52 : decode cX2_readHead 52 = .ok (.lload 4, 2) := dc_of qt_q76_cX2_readHead 3 rfl
theorem dX2_readHead_54 : decode cX2_readHead 54 = .ok (.lload 7, 2) := dc_of qt_q76_cX2_readHead 4 rfl
theorem dX2_readHead_56 : decode cX2_readHead 56 = .ok (.invokestatic 97, 3) := dc_of qt_q76_cX2_readHead 5 rfl
theorem dX2_readHead_59 : decode cX2_readHead 59 = .ok (.ifCond .ne 9, 3) := dc_of qt_q76_cX2_readHead 6 rfl
theorem dX2_readHead_62 : decode cX2_readHead 62 = .ok (.aload_n 0, 1) := dc_of qt_q76_cX2_readHead 7 rfl
theorem dX2_readHead_63 : decode cX2_readHead 63 = .ok (.iload 6, 2) := dc_of qt_q76_cX2_readHead 8 rfl
theorem dX2_readHead_65 : decode cX2_readHead 65 = .ok (.invokevirtual 64, 3) := dc_of qt_q76_cX2_readHead 9 rfl
theorem dX2_readHead_68 : decode cX2_readHead 68 = .ok (.aload_n 0, 1) := dc_of qt_q76_cX2_readHead 10 rfl
theorem dX2_readHead_69 : decode cX2_readHead 69 = .ok (.invokevirtual 31, 3) := dc_of qt_q76_cX2_readHead 11 rfl
theorem dX2_readHead_72 : decode cX2_readHead 72 = .ok (.ifCond .eq 18, 3) := dc_of qt_q76_cX2_readHead 12 rfl
theorem dX2_readHead_75 : decode cX2_readHead 75 = .ok (.aload_n 1, 1) := dc_of qt_q76_cX2_readHead 13 rfl
theorem dX2_readHead_76 : decode cX2_readHead 76 = .ok (.lload 7, 2) := dc_of qt_q76_cX2_readHead 14 rfl
theorem dX2_readHead_78 : decode cX2_readHead 78 = .ok (.l2i, 1) := dc_of qt_q76_cX2_readHead 15 rfl
theorem dX2_readHead_79 : decode cX2_readHead 79 = .ok (.invokevirtual 101, 3) := dc_of qt_q76_cX2_readHead 16 rfl
theorem dX2_readHead_82 : decode cX2_readHead 82 = .ok (.ifCond .ne 8, 3) := dc_of qt_q76_cX2_readHead 17 rfl
theorem dX2_readHead_85 : decode cX2_readHead 85 = .ok (.aload_n 0, 1) := dc_of qt_q76_cX2_readHead 18 rfl
theorem dX2_readHead_86 : decode cX2_readHead 86 = .ok (.iload_n 3, 1) := dc_of qt_q76_cX2_readHead 19 rfl
theorem dX2_readHead_87 : decode cX2_readHead 87 = .ok (.invokevirtual 64, 3) := dc_of qt_q76_cX2_readHead 20 rfl
theorem dX2_readHead_90 : decode cX2_readHead 90 = .ok (.aload_n 0, 1) := dc_of qt_q76_cX2_readHead 21 rfl
theorem dX2_readHead_91 : decode cX2_readHead 91 = .ok (.invokevirtual 31, 3) := dc_of qt_q76_cX2_readHead 22 rfl
theorem dX2_readHead_94 : decode cX2_readHead 94 = .ok (.ifCond .eq 16, 3) := dc_of qt_q76_cX2_readHead 23 rfl
def ql_q77_cX2_readHead : List (Nat × Jvm.ClassFile.Instr × Nat) := [(97, .aload_n 1, 1), (98, .lload 4, 2), (100, .l2i, 1), (101, .lload 7, 2), (103, .l2i, 1), (104, .invokevirtual 105, 3), (107, .goto 4, 3), (110, .iconst (-1), 1), (111, .ireturn, 1)]
theorem qt_q77_cX2_readHead : dcAll cX2_readHead ql_q77_cX2_readHead = true := by decide +kernel
theorem dX2_readHead_97 : decode cX2_readHead 97 = .ok (.aload_n 1, 1) := dc_of qt_q77_cX2_readHead 0 rfl
theorem dX2_readHead_98 : decode cX2_readHead 98 = .ok (.lload 4, 2) := dc_of qt_q77_cX2_readHead 1 rfl
theorem dX2_readHead_100 : decode cX2_readHead 100 = .ok (.l2i, 1) := dc_of qt_q77_cX2_readHead 2 rfl
theorem dX2_readHead_101 : decode cX2_readHead 101 = .ok (.lload 7, 2) := dc_of qt_q77_cX2_readHead 3 rfl
theorem dX2_readHead_103 : decode cX2_readHead 103 = .ok (.l2i, 1) := dc_of qt_q77_cX2_readHead 4 rfl
theorem dX2_readHead_104 : decode cX2_readHead 104 = .ok (.invokevirtual 105, 3) := dc_of qt_q77_cX2_readHead 5 rfl
theorem dX2_readHead_107 : decode cX2_readHead 107 = .ok (.goto 4, 3) := dc_of qt_q77_cX2_readHead 6 rfl
theorem dX2_readHead_110 : decode cX2_readHead 110 = .ok (.iconst (-1), 1) := dc_of qt_q77_cX2_readHead 7 rfl
theorem dX2_readHead_111 : decode cX2_readHead 111 = .ok (.ireturn, 1) := dc_of qt_q77_cX2_readHead 8 rfl
set_option maxRecDepth 20000 in
theorem ggX2_readSlots_X3_kindOf : GoodIn wsX2_readSlots wsX3_kindOf := goodIn_r _ [3] rfl (by decide +kernel)
set_option maxRecDepth 20000 in
theorem ggX2_readSlots_X3_slotsOf : GoodIn wsX2_readSlots wsX3_slotsOf := goodIn_r _ [5] rfl (by decide +kernel)
set_option maxRecDepth 20000 in
theorem ggX2_readSlots_X2_goesOn : GoodIn wsX2_readSlots wsX2_goesOn := goodIn_r _ [10, 11, 57, 58, 59, 60, 61] rfl (by decide +kernel)
set_option maxRecDepth 20000 in
theorem ggX2_readSlots_X2_nextWord : GoodIn wsX2_readSlots wsX2_nextWord := goodIn_r _ [15, 16, 17, 18, 9, 19, 20, 21, 22, 23, 24, 25, 11, 57, 58, 59, 60, 61, 62, 63] rfl (by decide +kernel)
set_option maxRecDepth 20000 in
theorem ggX2_readSlots_X2_nextValue : GoodIn wsX2_readSlots wsX2_nextValue := goodIn_r _ [29, 20, 30, 31, 32, 33, 9, 34, 35, 16, 17, 18, 19, 21, 22, 23, 24, 25, 11, 36, 37, 38, 39, 40, 41, 42, 6, 7, 8, 10, 43, 44, 45, 46, 57, 58, 59, 60, 61, 62, 63] rfl (by decide +kernel)
def ql_q78_cX2_readSlots : List (Nat × Jvm.ClassFile.Instr × Nat) := [(0, .aload_n 1, 1), (1, .getfield 109, 3), (4, .iload_n 2, 1), (5, .iaload, 1), (6, .invokestatic 112, 3), (9, .istore_n 3, 1), (10, .aload_n 1, 1), (11, .getfield 109, 3), (14, .iload_n 2, 1), (15, .iaload, 1), (16, .invokestatic 116, 3), (19, .istore 4, 2), (21, .iconst 0, 1), (22, .istore 5, 2), (24, .iload 5, 2), (26, .iload 4, 2), (28, .if_icmp .ge 93, 3), (31, .aload_n 0, 1), (32, .invokevirtual 31, 3), (35, .ifCond .eq 86, 3), (38, .iload_n 2, 1), (39, .iconst 1, 1), (40, .iadd, 1), (41, .iload 5, 2)]
theorem qt_q78_cX2_readSlots : dcAll cX2_readSlots ql_q78_cX2_readSlots = true := by decide +kernel
theorem dX2_readSlots_0 : decode cX2_readSlots 0 = .ok (.aload_n 1, 1) := dc_of qt_q78_cX2_readSlots 0 rfl
theorem dX2_readSlots_1 : decode cX2_readSlots 1 = .ok (.getfield 109, 3) := dc_of qt_q78_cX2_readSlots 1 rfl
theorem dX2_readSlots_4 : decode cX2_readSlots 4 = .ok (.iload_n 2, 1) := dc_of qt_q78_cX2_readSlots 2 rfl
theorem dX2_readSlots_5 : decode cX2_readSlots 5 = .ok (.iaload, 1) := dc_of qt_q78_cX2_readSlots 3 rfl
theorem dX2_readSlots_6 : decode cX2_readSlots 6 = .ok (.invokestatic 112, 3) := dc_of qt_q78_cX2_readSlots 4 rfl
theorem dX2_readSlots_9 : decode cX2_readSlots 9 = .ok (.istore_n 3, 1) := dc_of qt_q78_cX2_readSlots 5 rfl
theorem dX2_readSlots_10 : decode cX2_readSlots 10 = .ok (.aload_n 1, 1) := dc_of qt_q78_cX2_readSlots 6 rfl
theorem dX2_readSlots_11 : decode cX2_readSlots 11 = .ok (.getfield 109, 3) := dc_of qt_q78_cX2_readSlots 7 rfl
theorem dX2_readSlots_14 : decode cX2_readSlots 14 = .ok (.iload_n 2, 1) := dc_of qt_q78_cX2_readSlots 8 rfl
theorem dX2_readSlots_15 : decode cX2_readSlots 15 = .ok (.iaload, 1) := dc_of qt_q78_cX2_readSlots 9 rfl
theorem dX2_readSlots_16 : decode cX2_readSlots 16 = .ok (.invokestatic 116, 3) := dc_of qt_q78_cX2_readSlots 10 rfl
theorem dX2_readSlots_19 : decode cX2_readSlots 19 = .ok (.istore 4, 2) := dc_of qt_q78_cX2_readSlots 11 rfl
theorem dX2_readSlots_21 : decode cX2_readSlots 21 = .ok (.iconst 0, 1) := dc_of qt_q78_cX2_readSlots 12 rfl
theorem dX2_readSlots_22 : decode cX2_readSlots 22 = .ok (.istore 5, 2) := dc_of qt_q78_cX2_readSlots 13 rfl
theorem dX2_readSlots_24 : decode cX2_readSlots 24 = .ok (.iload 5, 2) := dc_of qt_q78_cX2_readSlots 14 rfl
theorem dX2_readSlots_26 : decode cX2_readSlots 26 = .ok (.iload 4, 2) := dc_of qt_q78_cX2_readSlots 15 rfl
theorem dX2_readSlots_28 : decode cX2_readSlots 28 = .ok (.if_icmp .ge 93, 3) := dc_of qt_q78_cX2_readSlots 16 rfl
theorem dX2_readSlots_31 : decode cX2_readSlots 31 = .ok (.aload_n 0, 1) := dc_of qt_q78_cX2_readSlots 17 rfl
theorem dX2_readSlots_32 : decode cX2_readSlots 32 = .ok (.invokevirtual 31, 3) := dc_of qt_q78_cX2_readSlots 18 rfl
theorem dX2_readSlots_35 : decode cX2_readSlots 35 = .ok (.ifCond .eq 86, 3) := dc_of qt_q78_cX2_readSlots 19 rfl
theorem dX2_readSlots_38 : decode cX2_readSlots 38 = .ok (.iload_n 2, 1) := dc_of qt_q78_cX2_readSlots 20 rfl
theorem dX2_readSlots_39 : decode cX2_readSlots 39 = .ok (.iconst 1, 1) := dc_of qt_q78_cX2_readSlots 21 rfl
theorem dX2_readSlots_40 : decode cX2_readSlots 40 = .ok (.iadd, 1) := dc_of qt_q78_cX2_readSlots 22 rfl
theorem dX2_readSlots_41 : decode cX2_readSlots 41 = .ok (.iload 5, 2) := dc_of qt_q78_cX2_readSlots 23 rfl
def ql_q79_cX2_readSlots : List (Nat × Jvm.ClassFile.Instr × Nat) := [(43, .iadd, 1), (44, .istore 6, 2), (46, .iload_n 3, 1), (47, .iconst 2, 1), (48, .if_icmp .ne 17, 3), (51, .aload_n 1, 1), (52, .getfield 109, 3), (55, .iload 6, 2), (57, .aload_n 0, 1), (58, .invokevirtual 119, 3), (61, .iastore, 1), (62, .goto 53, 3), (65, .iload_n 3, 1), (66, .iconst 3, 1), (67, .if_icmp .ne 8, 3), (70, .iload 5, 2), (72, .ifCond .ne 7, 3), (75, .iconst 1, 1), (76, .goto 4, 3), (79, .iconst 0, 1), (80, .istore 7, 2), (82, .iload_n 3, 1), (83, .iconst 3, 1), (84, .if_icmp .ne 9, 3)]
theorem qt_q79_cX2_readSlots : dcAll cX2_readSlots ql_q79_cX2_readSlots = true := by decide +kernel
theorem dX2_readSlots_43 : decode cX2_readSlots 43 = .ok (.iadd, 1) := dc_of qt_q79_cX2_readSlots 0 rfl
theorem dX2_readSlots_44 : decode cX2_readSlots 44 = .ok (.istore 6, 2) := dc_of qt_q79_cX2_readSlots 1 rfl
theorem dX2_readSlots_46 : decode cX2_readSlots 46 = .ok (.iload_n 3, 1) := dc_of qt_q79_cX2_readSlots 2 rfl
theorem dX2_readSlots_47 : decode cX2_readSlots 47 = .ok (.iconst 2, 1) := dc_of qt_q79_cX2_readSlots 3 rfl
theorem dX2_readSlots_48 : decode cX2_readSlots 48 = .ok (.if_icmp .ne 17, 3) := dc_of qt_q79_cX2_readSlots 4 rfl
theorem dX2_readSlots_51 : decode cX2_readSlots 51 = .ok (.aload_n 1, 1) := dc_of qt_q79_cX2_readSlots 5 rfl
theorem dX2_readSlots_52 : decode cX2_readSlots 52 = .ok (.getfield 109, 3) := dc_of qt_q79_cX2_readSlots 6 rfl
theorem dX2_readSlots_55 : decode cX2_readSlots 55 = .ok (.iload 6, 2) := dc_of qt_q79_cX2_readSlots 7 rfl
theorem dX2_readSlots_57 : decode cX2_readSlots 57 = .ok (.aload_n 0, 1) := dc_of qt_q79_cX2_readSlots 8 rfl
theorem dX2_readSlots_58 : decode cX2_readSlots 58 = .ok (.invokevirtual 119, 3) := dc_of qt_q79_cX2_readSlots 9 rfl
theorem dX2_readSlots_61 : decode cX2_readSlots 61 = .ok (.iastore, 1) := dc_of qt_q79_cX2_readSlots 10 rfl
theorem dX2_readSlots_62 : decode cX2_readSlots 62 = .ok (.goto 53, 3) := dc_of qt_q79_cX2_readSlots 11 rfl
theorem dX2_readSlots_65 : decode cX2_readSlots 65 = .ok (.iload_n 3, 1) := dc_of qt_q79_cX2_readSlots 12 rfl
theorem dX2_readSlots_66 : decode cX2_readSlots 66 = .ok (.iconst 3, 1) := dc_of qt_q79_cX2_readSlots 13 rfl
theorem dX2_readSlots_67 : decode cX2_readSlots 67 = .ok (.if_icmp .ne 8, 3) := dc_of qt_q79_cX2_readSlots 14 rfl
theorem dX2_readSlots_70 : decode cX2_readSlots 70 = .ok (.iload 5, 2) := dc_of qt_q79_cX2_readSlots 15 rfl
theorem dX2_readSlots_72 : decode cX2_readSlots 72 = .ok (.ifCond .ne 7, 3) := dc_of qt_q79_cX2_readSlots 16 rfl
theorem dX2_readSlots_75 : decode cX2_readSlots 75 = .ok (.iconst 1, 1) := dc_of qt_q79_cX2_readSlots 17 rfl
theorem dX2_readSlots_76 : decode cX2_readSlots 76 = .ok (.goto 4, 3) := dc_of qt_q79_cX2_readSlots 18 rfl
theorem dX2_readSlots_79 : decode cX2_readSlots 79 = .ok (.iconst 0, 1) := dc_of qt_q79_cX2_readSlots 19 rfl
theorem dX2_readSlots_80 : decode cX2_readSlots 80 = .ok (.istore 7, 2) := dc_of qt_q79_cX2_readSlots 20 rfl
theorem dX2_readSlots_82 : decode cX2_readSlots 82 = .ok (.iload_n 3, 1) := dc_of qt_q79_cX2_readSlots 21 rfl
theorem dX2_readSlots_83 : decode cX2_readSlots 83 = .ok (.iconst 3, 1) := dc_of qt_q79_cX2_readSlots 22 rfl
theorem dX2_readSlots_84 : decode cX2_readSlots 84 = .ok (.if_icmp .ne 9, 3) := dc_of qt_q79_cX2_readSlots 23 rfl
def ql_q80_cX2_readSlots : List (Nat × Jvm.ClassFile.Instr × Nat) := [(87, .iload 5, 2), (89, .iconst 1, 1), (90, .if_icmp .ne 7, 3), (93, .iconst 1, 1), (94, .goto 4, 3), (97, .iconst 0, 1), (98, .istore 8, 2), (100, .aload_n 1, 1), (101, .getfield 109, 3), (104, .iload 6, 2), (106, .aload_n 0, 1), (107, .iload 7, 2), (109, .iload 8, 2), (111, .invokevirtual 41, 3), (114, .iastore, 1), (115, .iinc 5 1, 3), (118, .goto (-94), 3), (121, .return_, 1)]
theorem qt_q80_cX2_readSlots : dcAll cX2_readSlots ql_q80_cX2_readSlots = true := by decide +kernel
theorem dX2_readSlots_87 : decode cX2_readSlots 87 = .ok (.iload 5, 2) := dc_of qt_q80_cX2_readSlots 0 rfl
theorem dX2_readSlots_89 : decode cX2_readSlots 89 = .ok (.iconst 1, 1) := dc_of qt_q80_cX2_readSlots 1 rfl
theorem dX2_readSlots_90 : decode cX2_readSlots 90 = .ok (.if_icmp .ne 7, 3) := dc_of qt_q80_cX2_readSlots 2 rfl
theorem dX2_readSlots_93 : decode cX2_readSlots 93 = .ok (.iconst 1, 1) := dc_of qt_q80_cX2_readSlots 3 rfl
theorem dX2_readSlots_94 : decode cX2_readSlots 94 = .ok (.goto 4, 3) := dc_of qt_q80_cX2_readSlots 4 rfl
theorem dX2_readSlots_97 : decode cX2_readSlots 97 = .ok (.iconst 0, 1) := dc_of qt_q80_cX2_readSlots 5 rfl
theorem dX2_readSlots_98 : decode cX2_readSlots 98 = .ok (.istore 8, 2) := dc_of qt_q80_cX2_readSlots 6 rfl
theorem dX2_readSlots_100 : decode cX2_readSlots 100 = .ok (.aload_n 1, 1) := dc_of qt_q80_cX2_readSlots 7 rfl
theorem dX2_readSlots_101 : decode cX2_readSlots 101 = .ok (.getfield 109, 3) := dc_of qt_q80_cX2_readSlots 8 rfl
theorem dX2_readSlots_104 : decode cX2_readSlots 104 = .ok (.iload 6, 2) := dc_of qt_q80_cX2_readSlots 9 rfl
theorem dX2_readSlots_106 : decode cX2_readSlots 106 = .ok (.aload_n 0, 1) := dc_of qt_q80_cX2_readSlots 10 rfl
theorem dX2_readSlots_107 : decode cX2_readSlots 107 = .ok (.iload 7, 2) := dc_of qt_q80_cX2_readSlots 11 rfl
theorem dX2_readSlots_109 : decode cX2_readSlots 109 = .ok (.iload 8, 2) := dc_of qt_q80_cX2_readSlots 12 rfl
theorem dX2_readSlots_111 : decode cX2_readSlots 111 = .ok (.invokevirtual 41, 3) := dc_of qt_q80_cX2_readSlots 13 rfl
theorem dX2_readSlots_114 : decode cX2_readSlots 114 = .ok (.iastore, 1) := dc_of qt_q80_cX2_readSlots 14 rfl
theorem dX2_readSlots_115 : decode cX2_readSlots 115 = .ok (.iinc 5 1, 3) := dc_of qt_q80_cX2_readSlots 15 rfl
theorem dX2_readSlots_118 : decode cX2_readSlots 118 = .ok (.goto (-94), 3) := dc_of qt_q80_cX2_readSlots 16 rfl
theorem dX2_readSlots_121 : decode cX2_readSlots 121 = .ok (.return_, 1) := dc_of qt_q80_cX2_readSlots 17 rfl
set_option maxRecDepth 20000 in
theorem ggX2_nextWord_X2_nextByte : GoodIn wsX2_nextWord wsX2_nextByte := goodIn_r _ [5, 6, 7, 8, 9, 10, 4, 11, 12, 13, 14, 15, 16, 17, 18, 19] rfl (by decide +kernel)
def ql_q81_cX2_nextWord : List (Nat × Jvm.ClassFile.Instr × Nat) := [(0, .aload_n 0, 1), (1, .invokevirtual 74, 3), (4, .istore_n 1, 1), (5, .iload_n 1, 1), (6, .aload_n 0, 1), (7, .invokevirtual 74, 3), (10, .bipush 8, 2), (12, .ishl, 1), (13, .ior, 1), (14, .istore_n 1, 1), (15, .iload_n 1, 1), (16, .aload_n 0, 1), (17, .invokevirtual 74, 3), (20, .bipush 16, 2), (22, .ishl, 1), (23, .ior, 1), (24, .istore_n 1, 1), (25, .iload_n 1, 1), (26, .aload_n 0, 1), (27, .invokevirtual 74, 3), (30, .bipush 24, 2), (32, .ishl, 1), (33, .ior, 1), (34, .istore_n 1, 1)]
theorem qt_q81_cX2_nextWord : dcAll cX2_nextWord ql_q81_cX2_nextWord = true := by decide +kernel
theorem dX2_nextWord_0 : decode cX2_nextWord 0 = .ok (.aload_n 0, 1) := dc_of qt_q81_cX2_nextWord 0 rfl
theorem dX2_nextWord_1 : decode cX2_nextWord 1 = .ok (.invokevirtual 74, 3) := dc_of qt_q81_cX2_nextWord 1 rfl
theorem dX2_nextWord_4 : decode cX2_nextWord 4 = .ok (.istore_n 1, 1) := dc_of qt_q81_cX2_nextWord 2 rfl
theorem dX2_nextWord_5 : decode cX2_nextWord 5 = .ok (.iload_n 1, 1) := dc_of qt_q81_cX2_nextWord 3 rfl
theorem dX2_nextWord_6 : decode cX2_nextWord 6 = .ok (.aload_n 0, 1) := dc_of qt_q81_cX2_nextWord 4 rfl
theorem dX2_nextWord_7 : decode cX2_nextWord 7 = .ok (.invokevirtual 74, 3) := dc_of qt_q81_cX2_nextWord 5 rfl
theorem dX2_nextWord_10 : decode cX2_nextWord 10 = .ok (.bipush 8, 2) := dc_of qt_q81_cX2_nextWord 6 rfl
theorem dX2_nextWord_12 : decode cX2_nextWord 12 = .ok (.ishl, 1) := dc_of qt_q81_cX2_nextWord 7 rfl
theorem dX2_nextWord_13 : decode cX2_nextWord 13 = .ok (.ior, 1) := dc_of qt_q81_cX2_nextWord 8 rfl
theorem dX2_nextWord_14 : decode cX2_nextWord 14 = .ok (.istore_n 1, 1) := dc_of qt_q81_cX2_nextWord 9 rfl
theorem dX2_nextWord_15 : decode cX2_nextWord 15 = .ok (.iload_n 1, 1) := dc_of qt_q81_cX2_nextWord 10 rfl
theorem dX2_nextWord_16 : decode cX2_nextWord 16 = .ok (.aload_n 0, 1) := dc_of qt_q81_cX2_nextWord 11 rfl
theorem dX2_nextWord_17 : decode cX2_nextWord 17 = .ok (.invokevirtual 74, 3) := dc_of qt_q81_cX2_nextWord 12 rfl
theorem dX2_nextWord_20 : decode cX2_nextWord 20 = .ok (.bipush 16, 2) := dc_of qt_q81_cX2_nextWord 13 rfl
theorem dX2_nextWord_22 : decode cX2_nextWord 22 = .ok (.ishl, 1) := dc_of qt_q81_cX2_nextWord 14 rfl
theorem dX2_nextWord_23 : decode cX2_nextWord 23 = .ok (.ior, 1) := dc_of qt_q81_cX2_nextWord 15 rfl
theorem dX2_nextWord_24 : decode cX2_nextWord 24 = .ok (.istore_n 1, 1) := dc_of qt_q81_cX2_nextWord 16 rfl
theorem dX2_nextWord_25 : decode cX2_nextWord 25 = .ok (.iload_n 1, 1) := dc_of qt_q81_cX2_nextWord 17 rfl
theorem dX2_nextWord_26 : decode cX2_nextWord 26 = .ok (.aload_n 0, 1) := dc_of qt_q81_cX2_nextWord 18 rfl
theorem dX2_nextWord_27 : decode cX2_nextWord 27 = .ok (.invokevirtual 74, 3) := dc_of qt_q81_cX2_nextWord 19 rfl
theorem dX2_nextWord_30 : decode cX2_nextWord 30 = .ok (.bipush 24, 2) := dc_of qt_q81_cX2_nextWord 20 rfl
theorem dX2_nextWord_32 : decode cX2_nextWord 32 = .ok (.ishl, 1) := dc_of qt_q81_cX2_nextWord 21 rfl
theorem dX2_nextWord_33 : decode cX2_nextWord 33 = .ok (.ior, 1) := dc_of qt_q81_cX2_nextWord 22 rfl
theorem dX2_nextWord_34 : decode cX2_nextWord 34 = .ok (.istore_n 1, 1) := dc_of qt_q81_cX2_nextWord 23 rfl
def ql_q82_cX2_nextWord : List (Nat × Jvm.ClassFile.Instr × Nat) := [(35, .iload_n 1, 1), (36, .ireturn, 1)]
theorem qt_q82_cX2_nextWord : dcAll cX2_nextWord ql_q82_cX2_nextWord = true := by decide +kernel
theorem dX2_nextWord_35 : decode cX2_nextWord 35 = .ok (.iload_n 1, 1) := dc_of qt_q82_cX2_nextWord 0 rfl
theorem dX2_nextWord_36 : decode cX2_nextWord 36 = .ok (.ireturn, 1) := dc_of qt_q82_cX2_nextWord 1 rfl
set_option maxRecDepth 20000 in
theorem ggX2_nextValue_X2_nextCount : GoodIn wsX2_nextValue wsX2_nextCount := goodIn_r _ [7, 1, 8, 9, 10, 11, 6, 12, 13, 14, 15, 16, 17, 18, 34, 35, 36, 37, 38, 39, 40] rfl (by decide +kernel)
set_option maxRecDepth 20000 in
theorem ggX2_nextValue_X2_tellsObject : GoodIn wsX2_nextValue wsX2_tellsObject := goodIn_r _ [22, 23, 24, 25, 34, 35, 36, 37, 38] rfl (by decide +kernel)
set_option maxRecDepth 20000 in
theorem ggX2_nextValue_X2_endAt : GoodIn wsX2_nextValue wsX2_endAt := goodIn_r _ [17, 18, 34, 35, 36, 37, 38] rfl (by decide +kernel)
set_option maxRecDepth 20000 in
theorem ggX2_nextValue_X2_goesOn : GoodIn wsX2_nextValue wsX2_goesOn := goodIn_r _ [29, 18, 34, 35, 36, 37, 38] rfl (by decide +kernel)
set_option maxRecDepth 20000 in
theorem ggX2_nextValue_X2_numberOf : GoodIn wsX2_nextValue wsX2_numberOf := goodIn_r _ [32, 33] rfl (by decide +kernel)
def ql_q83_cX2_nextValue : List (Nat × Jvm.ClassFile.Instr × Nat) := [(0, .aload_n 0, 1), (1, .getfield 15, 3), (4, .istore_n 3, 1), (5, .aload_n 0, 1), (6, .invokevirtual 83, 3), (9, .lstore 4, 2), (11, .lload 4, 2), (13, .lconst 1, 1), (14, .land, 1), (15, .lconst 0, 1), (16, .lcmp, 1), (17, .ifCond .eq 7, 3), (20, .iconst 1, 1), (21, .goto 4, 3), (24, .iconst 0, 1), (25, .istore 6, 2), (27, .iload 6, 2), (29, .ifCond .eq 24, 3), (32, .iload_n 2, 1), (33, .ifCond .eq 16, 3), (36, .lload 4, 2), (38, .ldc2_w 122, 3), (41, .lcmp, 1), (42, .ifCond .ge 7, 3)]
theorem qt_q83_cX2_nextValue : dcAll cX2_nextValue ql_q83_cX2_nextValue = true := by decide +kernel
theorem dX2_nextValue_0 : decode cX2_nextValue 0 = .ok (.aload_n 0, 1) := dc_of qt_q83_cX2_nextValue 0 rfl
theorem dX2_nextValue_1 : decode cX2_nextValue 1 = .ok (.getfield 15, 3) := dc_of qt_q83_cX2_nextValue 1 rfl
theorem dX2_nextValue_4 : decode cX2_nextValue 4 = .ok (.istore_n 3, 1) := dc_of qt_q83_cX2_nextValue 2 rfl
theorem dX2_nextValue_5 : decode cX2_nextValue 5 = .ok (.aload_n 0, 1) := dc_of qt_q83_cX2_nextValue 3 rfl
theorem dX2_nextValue_6 : decode cX2_nextValue 6 = .ok (.invokevirtual 83, 3) := dc_of qt_q83_cX2_nextValue 4 rfl
theorem dX2_nextValue_9 : decode cX2_nextValue 9 = .ok (.lstore 4, 2) := dc_of qt_q83_cX2_nextValue 5 rfl
theorem dX2_nextValue_11 : decode cX2_nextValue 11 = .ok (.lload 4, 2) := dc_of qt_q83_cX2_nextValue 6 rfl
theorem dX2_nextValue_13 : decode cX2_nextValue 13 = .ok (.lconst 1, 1) := dc_of qt_q83_cX2_nextValue 7 rfl
theorem dX2_nextValue_14 : decode cX2_nextValue 14 = .ok (.land, 1) := dc_of qt_q83_cX2_nextValue 8 rfl
theorem dX2_nextValue_15 : decode cX2_nextValue 15 = .ok (.lconst 0, 1) := dc_of qt_q83_cX2_nextValue 9 rfl
theorem dX2_nextValue_16 : decode cX2_nextValue 16 = .ok (.lcmp, 1) := dc_of qt_q83_cX2_nextValue 10 rfl
theorem dX2_nextValue_17 : decode cX2_nextValue 17 = .ok (.ifCond .eq 7, 3) := dc_of qt_q83_cX2_nextValue 11 rfl
theorem dX2_nextValue_20 : decode cX2_nextValue 20 = .ok (.iconst 1, 1) := dc_of qt_q83_cX2_nextValue 12 rfl
theorem dX2_nextValue_21 : decode cX2_nextValue 21 = .ok (.goto 4, 3) := dc_of qt_q83_cX2_nextValue 13 rfl
theorem dX2_nextValue_24 : decode cX2_nextValue 24 = .ok (.iconst 0, 1) := dc_of qt_q83_cX2_nextValue 14 rfl
theorem dX2_nextValue_25 : decode cX2_nextValue 25 = .ok (.istore 6, 2) := dc_of qt_q83_cX2_nextValue 15 rfl
theorem dX2_nextValue_27 : decode cX2_nextValue 27 = .ok (.iload 6, 2) := dc_of qt_q83_cX2_nextValue 16 rfl
theorem dX2_nextValue_29 : decode cX2_nextValue 29 = .ok (.ifCond .eq 24, 3) := dc_of qt_q83_cX2_nextValue 17 rfl
theorem dX2_nextValue_32 : decode cX2_nextValue 32 = .ok (.iload_n 2, 1) := dc_of qt_q83_cX2_nextValue 18 rfl
theorem dX2_nextValue_33 : decode cX2_nextValue 33 = .ok (.ifCond .eq 16, 3) := dc_of qt_q83_cX2_nextValue 19 rfl
theorem dX2_nextValue_36 : decode cX2_nextValue 36 = .ok (.lload 4, 2) := dc_of qt_q83_cX2_nextValue 20 rfl
theorem dX2_nextValue_38 : decode cX2_nextValue 38 = .ok (.ldc2_w 122, 3) := dc_of qt_q83_cX2_nextValue 21 rfl
theorem dX2_nextValue_41 : decode cX2_nextValue 41 = .ok (.lcmp, 1) := dc_of qt_q83_cX2_nextValue 22 rfl
theorem dX2_nextValue_42 : decode cX2_nextValue 42 = .ok (.ifCond .ge 7, 3) := dc_of qt_q83_cX2_nextValue 23 rfl
def ql_q84_cX2_nextValue : List (Nat × Jvm.ClassFile.Instr × Nat) := [(45, .iconst 1, 1), (46, .goto 25, 3), (49, .iconst 0, 1), (50, .goto 21, 3), (53, .iload_n 1, 1), (54, .ifCond .eq 16, 3), (57, .aload_n 0, 1), (58, .lload 4, 2), (60, .invokevirtual 124, 3), (63, .ifCond .eq 7, 3), (66, .iconst 1, 1), (67, .goto 4, 3), (70, .iconst 0, 1), (71, .istore 7, 2), (73, .iload 7, 2), (75, .ifCond .ne 8, 3), (78, .aload_n 0, 1), (79, .iload_n 3, 1), (80, .invokevirtual 64, 3), (83, .aload_n 0, 1), (84, .invokevirtual 31, 3), (87, .ifCond .ne 5, 3), (90, .iconst 0, 1), (91, .ireturn, 1)]
theorem qt_q84_cX2_nextValue : dcAll cX2_nextValue ql_q84_cX2_nextValue = true := by decide +kernel
theorem dX2_nextValue_45 : decode cX2_nextValue 45 = .ok (.iconst 1, 1) := dc_of qt_q84_cX2_nextValue 0 rfl
theorem dX2_nextValue_46 : decode cX2_nextValue 46 = .ok (.goto 25, 3) := dc_of qt_q84_cX2_nextValue 1 rfl
theorem dX2_nextValue_49 : decode cX2_nextValue 49 = .ok (.iconst 0, 1) := dc_of qt_q84_cX2_nextValue 2 rfl
theorem dX2_nextValue_50 : decode cX2_nextValue 50 = .ok (.goto 21, 3) := dc_of qt_q84_cX2_nextValue 3 rfl
theorem dX2_nextValue_53 : decode cX2_nextValue 53 = .ok (.iload_n 1, 1) := dc_of qt_q84_cX2_nextValue 4 rfl
theorem dX2_nextValue_54 : decode cX2_nextValue 54 = .ok (.ifCond .eq 16, 3) := dc_of qt_q84_cX2_nextValue 5 rfl
theorem dX2_nextValue_57 : decode cX2_nextValue 57 = .ok (.aload_n 0, 1) := dc_of qt_q84_cX2_nextValue 6 rfl
theorem dX2_nextValue_58 : decode cX2_nextValue 58 = .ok (.lload 4, 2) := dc_of qt_q84_cX2_nextValue 7 rfl
theorem dX2_nextValue_60 : decode cX2_nextValue 60 = .ok (.invokevirtual 124, 3) := dc_of qt_q84_cX2_nextValue 8 rfl
theorem dX2_nextValue_63 : decode cX2_nextValue 63 = .ok (.ifCond .eq 7, 3) := dc_of qt_q84_cX2_nextValue 9 rfl
theorem dX2_nextValue_66 : decode cX2_nextValue 66 = .ok (.iconst 1, 1) := dc_of qt_q84_cX2_nextValue 10 rfl
theorem dX2_nextValue_67 : decode cX2_nextValue 67 = .ok (.goto 4, 3) := dc_of qt_q84_cX2_nextValue 11 rfl
theorem dX2_nextValue_70 : decode cX2_nextValue 70 = .ok (.iconst 0, 1) := dc_of qt_q84_cX2_nextValue 12 rfl
theorem dX2_nextValue_71 : decode cX2_nextValue 71 = .ok (.istore 7, 2) := dc_of qt_q84_cX2_nextValue 13 rfl
theorem dX2_nextValue_73 : decode cX2_nextValue 73 = .ok (.iload 7, 2) := dc_of qt_q84_cX2_nextValue 14 rfl
theorem dX2_nextValue_75 : decode cX2_nextValue 75 = .ok (.ifCond .ne 8, 3) := dc_of qt_q84_cX2_nextValue 15 rfl
theorem dX2_nextValue_78 : decode cX2_nextValue 78 = .ok (.aload_n 0, 1) := dc_of qt_q84_cX2_nextValue 16 rfl
theorem dX2_nextValue_79 : decode cX2_nextValue 79 = .ok (.iload_n 3, 1) := dc_of qt_q84_cX2_nextValue 17 rfl
theorem dX2_nextValue_80 : decode cX2_nextValue 80 = .ok (.invokevirtual 64, 3) := dc_of qt_q84_cX2_nextValue 18 rfl
theorem dX2_nextValue_83 : decode cX2_nextValue 83 = .ok (.aload_n 0, 1) := dc_of qt_q84_cX2_nextValue 19 rfl
theorem dX2_nextValue_84 : decode cX2_nextValue 84 = .ok (.invokevirtual 31, 3) := dc_of qt_q84_cX2_nextValue 20 rfl
theorem dX2_nextValue_87 : decode cX2_nextValue 87 = .ok (.ifCond .ne 5, 3) := dc_of qt_q84_cX2_nextValue 21 rfl
theorem dX2_nextValue_90 : decode cX2_nextValue 90 = .ok (.iconst 0, 1) := dc_of qt_q84_cX2_nextValue 22 rfl
theorem dX2_nextValue_91 : decode cX2_nextValue 91 = .ok (.ireturn, 1) := dc_of qt_q84_cX2_nextValue 23 rfl
def ql_q85_cX2_nextValue : List (Nat × Jvm.ClassFile.Instr × Nat) := [(92, .iload 6, 2), (94, .ifCond .eq 11, 3), (97, .lload 4, 2), (99, .invokestatic 128, 3), (102, .goto 6, 3), (105, .lload 4, 2), (107, .l2i, 1), (108, .ireturn, 1)]
theorem qt_q85_cX2_nextValue : dcAll cX2_nextValue ql_q85_cX2_nextValue = true := by decide +kernel
theorem dX2_nextValue_92 : decode cX2_nextValue 92 = .ok (.iload 6, 2) := dc_of qt_q85_cX2_nextValue 0 rfl
theorem dX2_nextValue_94 : decode cX2_nextValue 94 = .ok (.ifCond .eq 11, 3) := dc_of qt_q85_cX2_nextValue 1 rfl
theorem dX2_nextValue_97 : decode cX2_nextValue 97 = .ok (.lload 4, 2) := dc_of qt_q85_cX2_nextValue 2 rfl
theorem dX2_nextValue_99 : decode cX2_nextValue 99 = .ok (.invokestatic 128, 3) := dc_of qt_q85_cX2_nextValue 3 rfl
theorem dX2_nextValue_102 : decode cX2_nextValue 102 = .ok (.goto 6, 3) := dc_of qt_q85_cX2_nextValue 4 rfl
theorem dX2_nextValue_105 : decode cX2_nextValue 105 = .ok (.lload 4, 2) := dc_of qt_q85_cX2_nextValue 5 rfl
theorem dX2_nextValue_107 : decode cX2_nextValue 107 = .ok (.l2i, 1) := dc_of qt_q85_cX2_nextValue 6 rfl
theorem dX2_nextValue_108 : decode cX2_nextValue 108 = .ok (.ireturn, 1) := dc_of qt_q85_cX2_nextValue 7 rfl
def ql_q86_cX2_tellsObject : List (Nat × Jvm.ClassFile.Instr × Nat) := [(0, .lload_n 1, 1), (1, .lconst 0, 1), (2, .lcmp, 1), (3, .ifCond .ne 5, 3), (6, .iconst 1, 1), (7, .ireturn, 1), (8, .lload_n 1, 1), (9, .ldc2_w 132, 3), (12, .ldiv, 1), (13, .lconst 1, 1), (14, .lsub, 1), (15, .lstore_n 3, 1), (16, .lload_n 3, 1), (17, .aload_n 0, 1), (18, .getfield 22, 3), (21, .i2l, 1), (22, .lcmp, 1), (23, .ifCond .gt 13, 3), (26, .lload_n 3, 1), (27, .aload_n 0, 1), (28, .getfield 45, 3), (31, .i2l, 1), (32, .lcmp, 1), (33, .ifCond .lt 5, 3)]
theorem qt_q86_cX2_tellsObject : dcAll cX2_tellsObject ql_q86_cX2_tellsObject = true := by decide +kernel
theorem dX2_tellsObject_0 : decode cX2_tellsObject 0 = .ok (.lload_n 1, 1) := dc_of qt_q86_cX2_tellsObject 0 rfl
theorem dX2_tellsObject_1 : decode cX2_tellsObject 1 = .ok (.lconst 0, 1) := dc_of qt_q86_cX2_tellsObject 1 rfl
theorem dX2_tellsObject_2 : decode cX2_tellsObject 2 = .ok (.lcmp, 1) := dc_of qt_q86_cX2_tellsObject 2 rfl
theorem dX2_tellsObject_3 : decode cX2_tellsObject 3 = .ok (.ifCond .ne 5, 3) := dc_of qt_q86_cX2_tellsObject 3 rfl
theorem dX2_tellsObject_6 : decode cX2_tellsObject 6 = .ok (.iconst 1, 1) := dc_of qt_q86_cX2_tellsObject 4 rfl
theorem dX2_tellsObject_7 : decode cX2_tellsObject 7 = .ok (.ireturn, 1) := dc_of qt_q86_cX2_tellsObject 5 rfl
theorem dX2_tellsObject_8 : decode cX2_tellsObject 8 = .ok (.lload_n 1, 1) := dc_of qt_q86_cX2_tellsObject 6 rfl
theorem dX2_tellsObject_9 : decode cX2_tellsObject 9 = .ok (.ldc2_w 132, 3) := dc_of qt_q86_cX2_tellsObject 7 rfl
theorem dX2_tellsObject_12 : decode cX2_tellsObject 12 = .ok (.ldiv, 1) := dc_of qt_q86_cX2_tellsObject 8 rfl
theorem dX2_tellsObject_13 : decode cX2_tellsObject 13 = .ok (.lconst 1, 1) := dc_of qt_q86_cX2_tellsObject 9 rfl
theorem dX2_tellsObject_14 : decode cX2_tellsObject 14 = .ok (.lsub, 1) := dc_of qt_q86_cX2_tellsObject 10 rfl
theorem dX2_tellsObject_15 : decode cX2_tellsObject 15 = .ok (.lstore_n 3, 1) := dc_of qt_q86_cX2_tellsObject 11 rfl
theorem dX2_tellsObject_16 : decode cX2_tellsObject 16 = .ok (.lload_n 3, 1) := dc_of qt_q86_cX2_tellsObject 12 rfl
theorem dX2_tellsObject_17 : decode cX2_tellsObject 17 = .ok (.aload_n 0, 1) := dc_of qt_q86_cX2_tellsObject 13 rfl
theorem dX2_tellsObject_18 : decode cX2_tellsObject 18 = .ok (.getfield 22, 3) := dc_of qt_q86_cX2_tellsObject 14 rfl
theorem dX2_tellsObject_21 : decode cX2_tellsObject 21 = .ok (.i2l, 1) := dc_of qt_q86_cX2_tellsObject 15 rfl
theorem dX2_tellsObject_22 : decode cX2_tellsObject 22 = .ok (.lcmp, 1) := dc_of qt_q86_cX2_tellsObject 16 rfl
theorem dX2_tellsObject_23 : decode cX2_tellsObject 23 = .ok (.ifCond .gt 13, 3) := dc_of qt_q86_cX2_tellsObject 17 rfl
theorem dX2_tellsObject_26 : decode cX2_tellsObject 26 = .ok (.lload_n 3, 1) := dc_of qt_q86_cX2_tellsObject 18 rfl
theorem dX2_tellsObject_27 : decode cX2_tellsObject 27 = .ok (.aload_n 0, 1) := dc_of qt_q86_cX2_tellsObject 19 rfl
theorem dX2_tellsObject_28 : decode cX2_tellsObject 28 = .ok (.getfield 45, 3) := dc_of qt_q86_cX2_tellsObject 20 rfl
theorem dX2_tellsObject_31 : decode cX2_tellsObject 31 = .ok (.i2l, 1) := dc_of qt_q86_cX2_tellsObject 21 rfl
theorem dX2_tellsObject_32 : decode cX2_tellsObject 32 = .ok (.lcmp, 1) := dc_of qt_q86_cX2_tellsObject 22 rfl
theorem dX2_tellsObject_33 : decode cX2_tellsObject 33 = .ok (.ifCond .lt 5, 3) := dc_of qt_q86_cX2_tellsObject 23 rfl
