theorem dX3_clear_31 : decode cX3_clear 31 = .ok (.getfield 27, 3) := dc_of qt_q115_cX3_clear 17 rfl
theorem dX3_clear_34 : decode cX3_clear 34 = .ok (.iconst 0, 1) := dc_of qt_q115_cX3_clear 18 rfl
theorem dX3_clear_35 : decode cX3_clear 35 = .ok (.putfield 103, 3) := dc_of qt_q115_cX3_clear 19 rfl
theorem dX3_clear_38 : decode cX3_clear 38 = .ok (.return_, 1) := dc_of qt_q115_cX3_clear 20 rfl
def ql_q116_cX3_heapOf : List (Nat × Jvm.ClassFile.Instr × Nat) := [(0, .iload_n 1, 1), (1, .ifCond .lt 8, 3), (4, .iload_n 1, 1), (5, .iconst 2, 1), (6, .if_icmp .lt 11, 3), (9, .new 73, 3), (12, .dup, 1), (13, .invokespecial 75, 3), (16, .athrow, 1), (17, .aload_n 0, 1), (18, .getfield 11, 3), (21, .iload_n 1, 1), (22, .aaload, 1), (23, .areturn, 1)]
theorem qt_q116_cX3_heapOf : dcAll cX3_heapOf ql_q116_cX3_heapOf = true := by decide +kernel
theorem dX3_heapOf_0 : decode cX3_heapOf 0 = .ok (.iload_n 1, 1) := dc_of qt_q116_cX3_heapOf 0 rfl
theorem dX3_heapOf_1 : decode cX3_heapOf 1 = .ok (.ifCond .lt 8, 3) := dc_of qt_q116_cX3_heapOf 1 rfl
theorem dX3_heapOf_4 : decode cX3_heapOf 4 = .ok (.iload_n 1, 1) := dc_of qt_q116_cX3_heapOf 2 rfl
theorem dX3_heapOf_5 : decode cX3_heapOf 5 = .ok (.iconst 2, 1) := dc_of qt_q116_cX3_heapOf 3 rfl
theorem dX3_heapOf_6 : decode cX3_heapOf 6 = .ok (.if_icmp .lt 11, 3) := dc_of qt_q116_cX3_heapOf 4 rfl
theorem dX3_heapOf_9 : decode cX3_heapOf 9 = .ok (.new 73, 3) := dc_of qt_q116_cX3_heapOf 5 rfl
theorem dX3_heapOf_12 : decode cX3_heapOf 12 = .ok (.dup, 1) := dc_of qt_q116_cX3_heapOf 6 rfl
theorem dX3_heapOf_13 : decode cX3_heapOf 13 = .ok (.invokespecial 75, 3) := dc_of qt_q116_cX3_heapOf 7 rfl
theorem dX3_heapOf_16 : decode cX3_heapOf 16 = .ok (.athrow, 1) := dc_of qt_q116_cX3_heapOf 8 rfl
theorem dX3_heapOf_17 : decode cX3_heapOf 17 = .ok (.aload_n 0, 1) := dc_of qt_q116_cX3_heapOf 9 rfl
theorem dX3_heapOf_18 : decode cX3_heapOf 18 = .ok (.getfield 11, 3) := dc_of qt_q116_cX3_heapOf 10 rfl
theorem dX3_heapOf_21 : decode cX3_heapOf 21 = .ok (.iload_n 1, 1) := dc_of qt_q116_cX3_heapOf 11 rfl
theorem dX3_heapOf_22 : decode cX3_heapOf 22 = .ok (.aaload, 1) := dc_of qt_q116_cX3_heapOf 12 rfl
theorem dX3_heapOf_23 : decode cX3_heapOf 23 = .ok (.areturn, 1) := dc_of qt_q116_cX3_heapOf 13 rfl
set_option maxRecDepth 20000 in
theorem ggX3_slotPlace_X1_listObjects : GoodIn wsX3_slotPlace wsX1_listObjects := goodIn_r _ [7, 8, 9, 10, 11, 12, 13, 14, 15, 16, 17, 18, 6, 19, 20, 21, 22, 23, 24, 25, 26, 27, 28, 29, 30, 31, 32, 33, 34, 35, 41, 42, 43, 44, 45, 46, 47, 48, 49, 50] rfl (by decide +kernel)
set_option maxRecDepth 20000 in
theorem ggX3_slotPlace_X1_headOf : GoodIn wsX3_slotPlace wsX1_headOf := goodIn_r _ [39, 40, 8, 41, 42, 43, 44, 45, 46, 47, 48, 49, 50] rfl (by decide +kernel)
set_option maxRecDepth 20000 in
theorem ggX3_slotPlace_X3_slotsOf : GoodIn wsX3_slotPlace wsX3_slotsOf := goodIn_r _ [29] rfl (by decide +kernel)
def ql_q117_cX3_slotPlace : List (Nat × Jvm.ClassFile.Instr × Nat) := [(0, .aload_n 0, 1), (1, .invokevirtual 144, 3), (4, .pop, 1), (5, .aload_n 0, 1), (6, .iload_n 1, 1), (7, .invokevirtual 150, 3), (10, .istore_n 3, 1), (11, .iload_n 3, 1), (12, .ifCond .lt 20, 3), (15, .iload_n 2, 1), (16, .ifCond .lt 16, 3), (19, .iload_n 2, 1), (20, .aload_n 0, 1), (21, .getfield 69, 3), (24, .iload_n 3, 1), (25, .iaload, 1), (26, .invokestatic 153, 3), (29, .if_icmp .lt 11, 3), (32, .new 73, 3), (35, .dup, 1), (36, .invokespecial 75, 3), (39, .athrow, 1), (40, .iload_n 3, 1), (41, .iconst 1, 1)]
theorem qt_q117_cX3_slotPlace : dcAll cX3_slotPlace ql_q117_cX3_slotPlace = true := by decide +kernel
theorem dX3_slotPlace_0 : decode cX3_slotPlace 0 = .ok (.aload_n 0, 1) := dc_of qt_q117_cX3_slotPlace 0 rfl
theorem dX3_slotPlace_1 : decode cX3_slotPlace 1 = .ok (.invokevirtual 144, 3) := dc_of qt_q117_cX3_slotPlace 1 rfl
theorem dX3_slotPlace_4 : decode cX3_slotPlace 4 = .ok (.pop, 1) := dc_of qt_q117_cX3_slotPlace 2 rfl
theorem dX3_slotPlace_5 : decode cX3_slotPlace 5 = .ok (.aload_n 0, 1) := dc_of qt_q117_cX3_slotPlace 3 rfl
theorem dX3_slotPlace_6 : decode cX3_slotPlace 6 = .ok (.iload_n 1, 1) := dc_of qt_q117_cX3_slotPlace 4 rfl
theorem dX3_slotPlace_7 : decode cX3_slotPlace 7 = .ok (.invokevirtual 150, 3) := dc_of qt_q117_cX3_slotPlace 5 rfl
theorem dX3_slotPlace_10 : decode cX3_slotPlace 10 = .ok (.istore_n 3, 1) := dc_of qt_q117_cX3_slotPlace 6 rfl
theorem dX3_slotPlace_11 : decode cX3_slotPlace 11 = .ok (.iload_n 3, 1) := dc_of qt_q117_cX3_slotPlace 7 rfl
theorem dX3_slotPlace_12 : decode cX3_slotPlace 12 = .ok (.ifCond .lt 20, 3) := dc_of qt_q117_cX3_slotPlace 8 rfl
theorem dX3_slotPlace_15 : decode cX3_slotPlace 15 = .ok (.iload_n 2, 1) := dc_of qt_q117_cX3_slotPlace 9 rfl
theorem dX3_slotPlace_16 : decode cX3_slotPlace 16 = .ok (.ifCond .lt 16, 3) := dc_of qt_q117_cX3_slotPlace 10 rfl
theorem dX3_slotPlace_19 : decode cX3_slotPlace 19 = .ok (.iload_n 2, 1) := dc_of qt_q117_cX3_slotPlace 11 rfl
theorem dX3_slotPlace_20 : decode cX3_slotPlace 20 = .ok (.aload_n 0, 1) := dc_of qt_q117_cX3_slotPlace 12 rfl
theorem dX3_slotPlace_21 : decode cX3_slotPlace 21 = .ok (.getfield 69, 3) := dc_of qt_q117_cX3_slotPlace 13 rfl
theorem dX3_slotPlace_24 : decode cX3_slotPlace 24 = .ok (.iload_n 3, 1) := dc_of qt_q117_cX3_slotPlace 14 rfl
theorem dX3_slotPlace_25 : decode cX3_slotPlace 25 = .ok (.iaload, 1) := dc_of qt_q117_cX3_slotPlace 15 rfl
theorem dX3_slotPlace_26 : decode cX3_slotPlace 26 = .ok (.invokestatic 153, 3) := dc_of qt_q117_cX3_slotPlace 16 rfl
theorem dX3_slotPlace_29 : decode cX3_slotPlace 29 = .ok (.if_icmp .lt 11, 3) := dc_of qt_q117_cX3_slotPlace 17 rfl
theorem dX3_slotPlace_32 : decode cX3_slotPlace 32 = .ok (.new 73, 3) := dc_of qt_q117_cX3_slotPlace 18 rfl
theorem dX3_slotPlace_35 : decode cX3_slotPlace 35 = .ok (.dup, 1) := dc_of qt_q117_cX3_slotPlace 19 rfl
theorem dX3_slotPlace_36 : decode cX3_slotPlace 36 = .ok (.invokespecial 75, 3) := dc_of qt_q117_cX3_slotPlace 20 rfl
theorem dX3_slotPlace_39 : decode cX3_slotPlace 39 = .ok (.athrow, 1) := dc_of qt_q117_cX3_slotPlace 21 rfl
theorem dX3_slotPlace_40 : decode cX3_slotPlace 40 = .ok (.iload_n 3, 1) := dc_of qt_q117_cX3_slotPlace 22 rfl
theorem dX3_slotPlace_41 : decode cX3_slotPlace 41 = .ok (.iconst 1, 1) := dc_of qt_q117_cX3_slotPlace 23 rfl
def ql_q118_cX3_slotPlace : List (Nat × Jvm.ClassFile.Instr × Nat) := [(42, .iadd, 1), (43, .iload_n 2, 1), (44, .iadd, 1), (45, .ireturn, 1)]
theorem qt_q118_cX3_slotPlace : dcAll cX3_slotPlace ql_q118_cX3_slotPlace = true := by decide +kernel
theorem dX3_slotPlace_42 : decode cX3_slotPlace 42 = .ok (.iadd, 1) := dc_of qt_q118_cX3_slotPlace 0 rfl
theorem dX3_slotPlace_43 : decode cX3_slotPlace 43 = .ok (.iload_n 2, 1) := dc_of qt_q118_cX3_slotPlace 1 rfl
theorem dX3_slotPlace_44 : decode cX3_slotPlace 44 = .ok (.iadd, 1) := dc_of qt_q118_cX3_slotPlace 2 rfl
theorem dX3_slotPlace_45 : decode cX3_slotPlace 45 = .ok (.ireturn, 1) := dc_of qt_q118_cX3_slotPlace 3 rfl
def ql_q119_cX3_wordPlace : List (Nat × Jvm.ClassFile.Instr × Nat) := [(0, .iload_n 0, 1), (1, .ifCond .lt 10, 3), (4, .iload_n 0, 1), (5, .sipush 256, 3), (8, .if_icmp .lt 11, 3), (11, .new 73, 3), (14, .dup, 1), (15, .invokespecial 75, 3), (18, .athrow, 1), (19, .iload_n 0, 1), (20, .ireturn, 1)]
theorem qt_q119_cX3_wordPlace : dcAll cX3_wordPlace ql_q119_cX3_wordPlace = true := by decide +kernel
theorem dX3_wordPlace_0 : decode cX3_wordPlace 0 = .ok (.iload_n 0, 1) := dc_of qt_q119_cX3_wordPlace 0 rfl
theorem dX3_wordPlace_1 : decode cX3_wordPlace 1 = .ok (.ifCond .lt 10, 3) := dc_of qt_q119_cX3_wordPlace 1 rfl
theorem dX3_wordPlace_4 : decode cX3_wordPlace 4 = .ok (.iload_n 0, 1) := dc_of qt_q119_cX3_wordPlace 2 rfl
theorem dX3_wordPlace_5 : decode cX3_wordPlace 5 = .ok (.sipush 256, 3) := dc_of qt_q119_cX3_wordPlace 3 rfl
theorem dX3_wordPlace_8 : decode cX3_wordPlace 8 = .ok (.if_icmp .lt 11, 3) := dc_of qt_q119_cX3_wordPlace 4 rfl
theorem dX3_wordPlace_11 : decode cX3_wordPlace 11 = .ok (.new 73, 3) := dc_of qt_q119_cX3_wordPlace 5 rfl
theorem dX3_wordPlace_14 : decode cX3_wordPlace 14 = .ok (.dup, 1) := dc_of qt_q119_cX3_wordPlace 6 rfl
theorem dX3_wordPlace_15 : decode cX3_wordPlace 15 = .ok (.invokespecial 75, 3) := dc_of qt_q119_cX3_wordPlace 7 rfl
theorem dX3_wordPlace_18 : decode cX3_wordPlace 18 = .ok (.athrow, 1) := dc_of qt_q119_cX3_wordPlace 8 rfl
theorem dX3_wordPlace_19 : decode cX3_wordPlace 19 = .ok (.iload_n 0, 1) := dc_of qt_q119_cX3_wordPlace 9 rfl
theorem dX3_wordPlace_20 : decode cX3_wordPlace 20 = .ok (.ireturn, 1) := dc_of qt_q119_cX3_wordPlace 10 rfl
def ql_q120_cX3_needImagePlace : List (Nat × Jvm.ClassFile.Instr × Nat) := [(0, .iload_n 1, 1), (1, .ifCond .lt 14, 3), (4, .iload_n 1, 1), (5, .aload_n 0, 1), (6, .getfield 23, 3), (9, .getfield 103, 3), (12, .if_icmp .lt 11, 3), (15, .new 73, 3), (18, .dup, 1), (19, .invokespecial 75, 3), (22, .athrow, 1), (23, .return_, 1)]
theorem qt_q120_cX3_needImagePlace : dcAll cX3_needImagePlace ql_q120_cX3_needImagePlace = true := by decide +kernel
theorem dX3_needImagePlace_0 : decode cX3_needImagePlace 0 = .ok (.iload_n 1, 1) := dc_of qt_q120_cX3_needImagePlace 0 rfl
theorem dX3_needImagePlace_1 : decode cX3_needImagePlace 1 = .ok (.ifCond .lt 14, 3) := dc_of qt_q120_cX3_needImagePlace 1 rfl
theorem dX3_needImagePlace_4 : decode cX3_needImagePlace 4 = .ok (.iload_n 1, 1) := dc_of qt_q120_cX3_needImagePlace 2 rfl
theorem dX3_needImagePlace_5 : decode cX3_needImagePlace 5 = .ok (.aload_n 0, 1) := dc_of qt_q120_cX3_needImagePlace 3 rfl
theorem dX3_needImagePlace_6 : decode cX3_needImagePlace 6 = .ok (.getfield 23, 3) := dc_of qt_q120_cX3_needImagePlace 4 rfl
theorem dX3_needImagePlace_9 : decode cX3_needImagePlace 9 = .ok (.getfield 103, 3) := dc_of qt_q120_cX3_needImagePlace 5 rfl
theorem dX3_needImagePlace_12 : decode cX3_needImagePlace 12 = .ok (.if_icmp .lt 11, 3) := dc_of qt_q120_cX3_needImagePlace 6 rfl
theorem dX3_needImagePlace_15 : decode cX3_needImagePlace 15 = .ok (.new 73, 3) := dc_of qt_q120_cX3_needImagePlace 7 rfl
theorem dX3_needImagePlace_18 : decode cX3_needImagePlace 18 = .ok (.dup, 1) := dc_of qt_q120_cX3_needImagePlace 8 rfl
theorem dX3_needImagePlace_19 : decode cX3_needImagePlace 19 = .ok (.invokespecial 75, 3) := dc_of qt_q120_cX3_needImagePlace 9 rfl
theorem dX3_needImagePlace_22 : decode cX3_needImagePlace 22 = .ok (.athrow, 1) := dc_of qt_q120_cX3_needImagePlace 10 rfl
theorem dX3_needImagePlace_23 : decode cX3_needImagePlace 23 = .ok (.return_, 1) := dc_of qt_q120_cX3_needImagePlace 11 rfl
def ql_q121_cX3_needBase : List (Nat × Jvm.ClassFile.Instr × Nat) := [(0, .iload_n 0, 1), (1, .iconst 4, 1), (2, .if_icmp .lt 15, 3), (5, .iload_n 0, 1), (6, .ldc 156, 2), (8, .if_icmp .gt 9, 3), (11, .iload_n 0, 1), (12, .iconst 4, 1), (13, .irem, 1), (14, .ifCond .eq 11, 3), (17, .new 47, 3), (20, .dup, 1), (21, .invokespecial 49, 3), (24, .athrow, 1), (25, .return_, 1)]
theorem qt_q121_cX3_needBase : dcAll cX3_needBase ql_q121_cX3_needBase = true := by decide +kernel
theorem dX3_needBase_0 : decode cX3_needBase 0 = .ok (.iload_n 0, 1) := dc_of qt_q121_cX3_needBase 0 rfl
theorem dX3_needBase_1 : decode cX3_needBase 1 = .ok (.iconst 4, 1) := dc_of qt_q121_cX3_needBase 1 rfl
theorem dX3_needBase_2 : decode cX3_needBase 2 = .ok (.if_icmp .lt 15, 3) := dc_of qt_q121_cX3_needBase 2 rfl
theorem dX3_needBase_5 : decode cX3_needBase 5 = .ok (.iload_n 0, 1) := dc_of qt_q121_cX3_needBase 3 rfl
theorem dX3_needBase_6 : decode cX3_needBase 6 = .ok (.ldc 156, 2) := dc_of qt_q121_cX3_needBase 4 rfl
theorem dX3_needBase_8 : decode cX3_needBase 8 = .ok (.if_icmp .gt 9, 3) := dc_of qt_q121_cX3_needBase 5 rfl
theorem dX3_needBase_11 : decode cX3_needBase 11 = .ok (.iload_n 0, 1) := dc_of qt_q121_cX3_needBase 6 rfl
theorem dX3_needBase_12 : decode cX3_needBase 12 = .ok (.iconst 4, 1) := dc_of qt_q121_cX3_needBase 7 rfl
theorem dX3_needBase_13 : decode cX3_needBase 13 = .ok (.irem, 1) := dc_of qt_q121_cX3_needBase 8 rfl
theorem dX3_needBase_14 : decode cX3_needBase 14 = .ok (.ifCond .eq 11, 3) := dc_of qt_q121_cX3_needBase 9 rfl
theorem dX3_needBase_17 : decode cX3_needBase 17 = .ok (.new 47, 3) := dc_of qt_q121_cX3_needBase 10 rfl
theorem dX3_needBase_20 : decode cX3_needBase 20 = .ok (.dup, 1) := dc_of qt_q121_cX3_needBase 11 rfl
theorem dX3_needBase_21 : decode cX3_needBase 21 = .ok (.invokespecial 49, 3) := dc_of qt_q121_cX3_needBase 12 rfl
theorem dX3_needBase_24 : decode cX3_needBase 24 = .ok (.athrow, 1) := dc_of qt_q121_cX3_needBase 13 rfl
theorem dX3_needBase_25 : decode cX3_needBase 25 = .ok (.return_, 1) := dc_of qt_q121_cX3_needBase 14 rfl
set_option maxRecDepth 20000 in
theorem ggX3_needValid_X1_firstFault : GoodIn wsX3_needValid wsX1_firstFault := goodIn_r _ [7, 8, 9, 10, 11, 12, 13, 14, 15, 6, 16, 17, 18, 19, 20, 21, 22, 23, 24, 25, 26, 27, 28, 29, 30, 31, 32, 33, 34, 35, 36, 37, 38, 39, 40, 41, 42, 43, 44, 45, 46, 47, 48, 49, 50, 51, 52, 53, 54, 55, 56, 57, 58, 59, 60, 61, 62, 63, 64, 65, 66, 67, 68, 69, 70, 71, 72, 73, 74, 75] rfl (by decide +kernel)
def ql_q122_cX3_needValid : List (Nat × Jvm.ClassFile.Instr × Nat) := [(0, .aload_n 0, 1), (1, .invokevirtual 82, 3), (4, .ifCond .eq 11, 3), (7, .new 157, 3), (10, .dup, 1), (11, .invokespecial 159, 3), (14, .athrow, 1), (15, .return_, 1)]
theorem qt_q122_cX3_needValid : dcAll cX3_needValid ql_q122_cX3_needValid = true := by decide +kernel
theorem dX3_needValid_0 : decode cX3_needValid 0 = .ok (.aload_n 0, 1) := dc_of qt_q122_cX3_needValid 0 rfl
theorem dX3_needValid_1 : decode cX3_needValid 1 = .ok (.invokevirtual 82, 3) := dc_of qt_q122_cX3_needValid 1 rfl
theorem dX3_needValid_4 : decode cX3_needValid 4 = .ok (.ifCond .eq 11, 3) := dc_of qt_q122_cX3_needValid 2 rfl
theorem dX3_needValid_7 : decode cX3_needValid 7 = .ok (.new 157, 3) := dc_of qt_q122_cX3_needValid 3 rfl
theorem dX3_needValid_10 : decode cX3_needValid 10 = .ok (.dup, 1) := dc_of qt_q122_cX3_needValid 4 rfl
theorem dX3_needValid_11 : decode cX3_needValid 11 = .ok (.invokespecial 159, 3) := dc_of qt_q122_cX3_needValid 5 rfl
theorem dX3_needValid_14 : decode cX3_needValid 14 = .ok (.athrow, 1) := dc_of qt_q122_cX3_needValid 6 rfl
theorem dX3_needValid_15 : decode cX3_needValid 15 = .ok (.return_, 1) := dc_of qt_q122_cX3_needValid 7 rfl
def ql_q123_cX3_mayHaveSlots : List (Nat × Jvm.ClassFile.Instr × Nat) := [(0, .lload_n 0, 1), (1, .ldc2_w 160, 3), (4, .lcmp, 1), (5, .ifCond .ne 17, 3), (8, .lload_n 2, 1), (9, .ldc2_w 162, 3), (12, .lcmp, 1), (13, .ifCond .ne 7, 3), (16, .iconst 1, 1), (17, .goto 4, 3), (20, .iconst 0, 1), (21, .ireturn, 1), (22, .lload_n 0, 1), (23, .lconst 1, 1), (24, .lcmp, 1), (25, .ifCond .eq 11, 3), (28, .lload_n 0, 1), (29, .ldc2_w 162, 3), (32, .lcmp, 1), (33, .ifCond .ne 21, 3), (36, .lload_n 2, 1), (37, .lconst 0, 1), (38, .lcmp, 1), (39, .ifCond .lt 15, 3)]
theorem qt_q123_cX3_mayHaveSlots : dcAll cX3_mayHaveSlots ql_q123_cX3_mayHaveSlots = true := by decide +kernel
theorem dX3_mayHaveSlots_0 : decode cX3_mayHaveSlots 0 = .ok (.lload_n 0, 1) := dc_of qt_q123_cX3_mayHaveSlots 0 rfl
theorem dX3_mayHaveSlots_1 : decode cX3_mayHaveSlots 1 = .ok (.ldc2_w 160, 3) := dc_of qt_q123_cX3_mayHaveSlots 1 rfl
theorem dX3_mayHaveSlots_4 : decode cX3_mayHaveSlots 4 = .ok (.lcmp, 1) := dc_of qt_q123_cX3_mayHaveSlots 2 rfl
theorem dX3_mayHaveSlots_5 : decode cX3_mayHaveSlots 5 = .ok (.ifCond .ne 17, 3) := dc_of qt_q123_cX3_mayHaveSlots 3 rfl
theorem dX3_mayHaveSlots_8 : decode cX3_mayHaveSlots 8 = .ok (.lload_n 2, 1) := dc_of qt_q123_cX3_mayHaveSlots 4 rfl
theorem dX3_mayHaveSlots_9 : decode cX3_mayHaveSlots 9 = .ok (.ldc2_w 162, 3) := dc_of qt_q123_cX3_mayHaveSlots 5 rfl
theorem dX3_mayHaveSlots_12 : decode cX3_mayHaveSlots 12 = .ok (.lcmp, 1) := dc_of qt_q123_cX3_mayHaveSlots 6 rfl
theorem dX3_mayHaveSlots_13 : decode cX3_mayHaveSlots 13 = .ok (.ifCond .ne 7, 3) := dc_of qt_q123_cX3_mayHaveSlots 7 rfl
theorem dX3_mayHaveSlots_16 : decode cX3_mayHaveSlots 16 = .ok (.iconst 1, 1) := dc_of qt_q123_cX3_mayHaveSlots 8 rfl
theorem dX3_mayHaveSlots_17 : decode cX3_mayHaveSlots 17 = .ok (.goto 4, 3) := dc_of qt_q123_cX3_mayHaveSlots 9 rfl
theorem dX3_mayHaveSlots_20 : decode cX3_mayHaveSlots 20 = .ok (.iconst 0, 1) := dc_of qt_q123_cX3_mayHaveSlots 10 rfl
theorem dX3_mayHaveSlots_21 : decode cX3_mayHaveSlots 21 = .ok (.ireturn, 1) := dc_of qt_q123_cX3_mayHaveSlots 11 rfl
theorem dX3_mayHaveSlots_22 : decode cX3_mayHaveSlots 22 = .ok (.lload_n 0, 1) := dc_of qt_q123_cX3_mayHaveSlots 12 rfl
theorem dX3_mayHaveSlots_23 : decode cX3_mayHaveSlots 23 = .ok (.lconst 1, 1) := dc_of qt_q123_cX3_mayHaveSlots 13 rfl
theorem dX3_mayHaveSlots_24 : decode cX3_mayHaveSlots 24 = .ok (.lcmp, 1) := dc_of qt_q123_cX3_mayHaveSlots 14 rfl
theorem dX3_mayHaveSlots_25 : decode cX3_mayHaveSlots 25 = .ok (.ifCond .eq 11, 3) := dc_of qt_q123_cX3_mayHaveSlots 15 rfl
theorem dX3_mayHaveSlots_28 : decode cX3_mayHaveSlots 28 = .ok (.lload_n 0, 1) := dc_of qt_q123_cX3_mayHaveSlots 16 rfl
theorem dX3_mayHaveSlots_29 : decode cX3_mayHaveSlots 29 = .ok (.ldc2_w 162, 3) := dc_of qt_q123_cX3_mayHaveSlots 17 rfl
theorem dX3_mayHaveSlots_32 : decode cX3_mayHaveSlots 32 = .ok (.lcmp, 1) := dc_of qt_q123_cX3_mayHaveSlots 18 rfl
theorem dX3_mayHaveSlots_33 : decode cX3_mayHaveSlots 33 = .ok (.ifCond .ne 21, 3) := dc_of qt_q123_cX3_mayHaveSlots 19 rfl
theorem dX3_mayHaveSlots_36 : decode cX3_mayHaveSlots 36 = .ok (.lload_n 2, 1) := dc_of qt_q123_cX3_mayHaveSlots 20 rfl
theorem dX3_mayHaveSlots_37 : decode cX3_mayHaveSlots 37 = .ok (.lconst 0, 1) := dc_of qt_q123_cX3_mayHaveSlots 21 rfl
theorem dX3_mayHaveSlots_38 : decode cX3_mayHaveSlots 38 = .ok (.lcmp, 1) := dc_of qt_q123_cX3_mayHaveSlots 22 rfl
theorem dX3_mayHaveSlots_39 : decode cX3_mayHaveSlots 39 = .ok (.ifCond .lt 15, 3) := dc_of qt_q123_cX3_mayHaveSlots 23 rfl
def ql_q124_cX3_mayHaveSlots : List (Nat × Jvm.ClassFile.Instr × Nat) := [(42, .lload_n 2, 1), (43, .ldc2_w 164, 3), (46, .lcmp, 1), (47, .ifCond .gt 7, 3), (50, .iconst 1, 1), (51, .goto 4, 3), (54, .iconst 0, 1), (55, .ireturn, 1)]
theorem qt_q124_cX3_mayHaveSlots : dcAll cX3_mayHaveSlots ql_q124_cX3_mayHaveSlots = true := by decide +kernel
theorem dX3_mayHaveSlots_42 : decode cX3_mayHaveSlots 42 = .ok (.lload_n 2, 1) := dc_of qt_q124_cX3_mayHaveSlots 0 rfl
theorem dX3_mayHaveSlots_43 : decode cX3_mayHaveSlots 43 = .ok (.ldc2_w 164, 3) := dc_of qt_q124_cX3_mayHaveSlots 1 rfl
theorem dX3_mayHaveSlots_46 : decode cX3_mayHaveSlots 46 = .ok (.lcmp, 1) := dc_of qt_q124_cX3_mayHaveSlots 2 rfl
theorem dX3_mayHaveSlots_47 : decode cX3_mayHaveSlots 47 = .ok (.ifCond .gt 7, 3) := dc_of qt_q124_cX3_mayHaveSlots 3 rfl
theorem dX3_mayHaveSlots_50 : decode cX3_mayHaveSlots 50 = .ok (.iconst 1, 1) := dc_of qt_q124_cX3_mayHaveSlots 4 rfl
theorem dX3_mayHaveSlots_51 : decode cX3_mayHaveSlots 51 = .ok (.goto 4, 3) := dc_of qt_q124_cX3_mayHaveSlots 5 rfl
theorem dX3_mayHaveSlots_54 : decode cX3_mayHaveSlots 54 = .ok (.iconst 0, 1) := dc_of qt_q124_cX3_mayHaveSlots 6 rfl
theorem dX3_mayHaveSlots_55 : decode cX3_mayHaveSlots 55 = .ok (.ireturn, 1) := dc_of qt_q124_cX3_mayHaveSlots 7 rfl
set_option maxRecDepth 20000 in
theorem ggX3_isHead_X3_kindOf : GoodIn wsX3_isHead wsX3_kindOf := goodIn_r _ [4] rfl (by decide +kernel)
set_option maxRecDepth 20000 in
theorem ggX3_isHead_X3_slotsOf : GoodIn wsX3_isHead wsX3_slotsOf := goodIn_r _ [7] rfl (by decide +kernel)
set_option maxRecDepth 20000 in
theorem ggX3_isHead_X3_mayHaveSlots : GoodIn wsX3_isHead wsX3_mayHaveSlots := goodIn_r _ [10, 11, 12, 13] rfl (by decide +kernel)
def ql_q125_cX3_isHead : List (Nat × Jvm.ClassFile.Instr × Nat) := [(0, .iload_n 0, 1), (1, .ifCond .lt 23, 3), (4, .iload_n 0, 1), (5, .invokestatic 166, 3), (8, .i2l, 1), (9, .iload_n 0, 1), (10, .invokestatic 153, 3), (13, .i2l, 1), (14, .invokestatic 43, 3), (17, .ifCond .eq 7, 3), (20, .iconst 1, 1), (21, .goto 4, 3), (24, .iconst 0, 1), (25, .ireturn, 1)]
theorem qt_q125_cX3_isHead : dcAll cX3_isHead ql_q125_cX3_isHead = true := by decide +kernel
theorem dX3_isHead_0 : decode cX3_isHead 0 = .ok (.iload_n 0, 1) := dc_of qt_q125_cX3_isHead 0 rfl
theorem dX3_isHead_1 : decode cX3_isHead 1 = .ok (.ifCond .lt 23, 3) := dc_of qt_q125_cX3_isHead 1 rfl
theorem dX3_isHead_4 : decode cX3_isHead 4 = .ok (.iload_n 0, 1) := dc_of qt_q125_cX3_isHead 2 rfl
theorem dX3_isHead_5 : decode cX3_isHead 5 = .ok (.invokestatic 166, 3) := dc_of qt_q125_cX3_isHead 3 rfl
theorem dX3_isHead_8 : decode cX3_isHead 8 = .ok (.i2l, 1) := dc_of qt_q125_cX3_isHead 4 rfl
theorem dX3_isHead_9 : decode cX3_isHead 9 = .ok (.iload_n 0, 1) := dc_of qt_q125_cX3_isHead 5 rfl
theorem dX3_isHead_10 : decode cX3_isHead 10 = .ok (.invokestatic 153, 3) := dc_of qt_q125_cX3_isHead 6 rfl
theorem dX3_isHead_13 : decode cX3_isHead 13 = .ok (.i2l, 1) := dc_of qt_q125_cX3_isHead 7 rfl
theorem dX3_isHead_14 : decode cX3_isHead 14 = .ok (.invokestatic 43, 3) := dc_of qt_q125_cX3_isHead 8 rfl
theorem dX3_isHead_17 : decode cX3_isHead 17 = .ok (.ifCond .eq 7, 3) := dc_of qt_q125_cX3_isHead 9 rfl
theorem dX3_isHead_20 : decode cX3_isHead 20 = .ok (.iconst 1, 1) := dc_of qt_q125_cX3_isHead 10 rfl
theorem dX3_isHead_21 : decode cX3_isHead 21 = .ok (.goto 4, 3) := dc_of qt_q125_cX3_isHead 11 rfl
theorem dX3_isHead_24 : decode cX3_isHead 24 = .ok (.iconst 0, 1) := dc_of qt_q125_cX3_isHead 12 rfl
theorem dX3_isHead_25 : decode cX3_isHead 25 = .ok (.ireturn, 1) := dc_of qt_q125_cX3_isHead 13 rfl
def ql_q126_cX3_kindOf : List (Nat × Jvm.ClassFile.Instr × Nat) := [(0, .iload_n 0, 1), (1, .bipush 64, 2), (3, .idiv, 1), (4, .ireturn, 1)]
theorem qt_q126_cX3_kindOf : dcAll cX3_kindOf ql_q126_cX3_kindOf = true := by decide +kernel
theorem dX3_kindOf_0 : decode cX3_kindOf 0 = .ok (.iload_n 0, 1) := dc_of qt_q126_cX3_kindOf 0 rfl
theorem dX3_kindOf_1 : decode cX3_kindOf 1 = .ok (.bipush 64, 2) := dc_of qt_q126_cX3_kindOf 1 rfl
theorem dX3_kindOf_3 : decode cX3_kindOf 3 = .ok (.idiv, 1) := dc_of qt_q126_cX3_kindOf 2 rfl
theorem dX3_kindOf_4 : decode cX3_kindOf 4 = .ok (.ireturn, 1) := dc_of qt_q126_cX3_kindOf 3 rfl
def ql_q127_cX3_slotsOf : List (Nat × Jvm.ClassFile.Instr × Nat) := [(0, .iload_n 0, 1), (1, .bipush 64, 2), (3, .irem, 1), (4, .ireturn, 1)]
theorem qt_q127_cX3_slotsOf : dcAll cX3_slotsOf ql_q127_cX3_slotsOf = true := by decide +kernel
theorem dX3_slotsOf_0 : decode cX3_slotsOf 0 = .ok (.iload_n 0, 1) := dc_of qt_q127_cX3_slotsOf 0 rfl
theorem dX3_slotsOf_1 : decode cX3_slotsOf 1 = .ok (.bipush 64, 2) := dc_of qt_q127_cX3_slotsOf 1 rfl
theorem dX3_slotsOf_3 : decode cX3_slotsOf 3 = .ok (.irem, 1) := dc_of qt_q127_cX3_slotsOf 2 rfl
theorem dX3_slotsOf_4 : decode cX3_slotsOf 4 = .ok (.ireturn, 1) := dc_of qt_q127_cX3_slotsOf 3 rfl
set_option maxRecDepth 20000 in
theorem ggX3_valuesOf_X3_kindOf : GoodIn wsX3_valuesOf wsX3_kindOf := goodIn_r _ [4] rfl (by decide +kernel)
set_option maxRecDepth 20000 in
theorem ggX3_valuesOf_X3_slotsOf : GoodIn wsX3_valuesOf wsX3_slotsOf := goodIn_r _ [7] rfl (by decide +kernel)
def ql_q128_cX3_valuesOf : List (Nat × Jvm.ClassFile.Instr × Nat) := [(0, .iload_n 0, 1), (1, .invokestatic 166, 3), (4, .iconst 2, 1), (5, .if_icmp .ne 7, 3), (8, .iconst 0, 1), (9, .goto 7, 3), (12, .iload_n 0, 1), (13, .invokestatic 153, 3), (16, .ireturn, 1)]
theorem qt_q128_cX3_valuesOf : dcAll cX3_valuesOf ql_q128_cX3_valuesOf = true := by decide +kernel
theorem dX3_valuesOf_0 : decode cX3_valuesOf 0 = .ok (.iload_n 0, 1) := dc_of qt_q128_cX3_valuesOf 0 rfl
theorem dX3_valuesOf_1 : decode cX3_valuesOf 1 = .ok (.invokestatic 166, 3) := dc_of qt_q128_cX3_valuesOf 1 rfl
theorem dX3_valuesOf_4 : decode cX3_valuesOf 4 = .ok (.iconst 2, 1) := dc_of qt_q128_cX3_valuesOf 2 rfl
theorem dX3_valuesOf_5 : decode cX3_valuesOf 5 = .ok (.if_icmp .ne 7, 3) := dc_of qt_q128_cX3_valuesOf 3 rfl
theorem dX3_valuesOf_8 : decode cX3_valuesOf 8 = .ok (.iconst 0, 1) := dc_of qt_q128_cX3_valuesOf 4 rfl
theorem dX3_valuesOf_9 : decode cX3_valuesOf 9 = .ok (.goto 7, 3) := dc_of qt_q128_cX3_valuesOf 5 rfl
theorem dX3_valuesOf_12 : decode cX3_valuesOf 12 = .ok (.iload_n 0, 1) := dc_of qt_q128_cX3_valuesOf 6 rfl
theorem dX3_valuesOf_13 : decode cX3_valuesOf 13 = .ok (.invokestatic 153, 3) := dc_of qt_q128_cX3_valuesOf 7 rfl
theorem dX3_valuesOf_16 : decode cX3_valuesOf 16 = .ok (.ireturn, 1) := dc_of qt_q128_cX3_valuesOf 8 rfl
def ql_q129_cX3_isNumber : List (Nat × Jvm.ClassFile.Instr × Nat) := [(0, .iload_n 0, 1), (1, .iconst 1, 1), (2, .iand, 1), (3, .ifCond .eq 7, 3), (6, .iconst 1, 1), (7, .goto 4, 3), (10, .iconst 0, 1), (11, .ireturn, 1)]
theorem qt_q129_cX3_isNumber : dcAll cX3_isNumber ql_q129_cX3_isNumber = true := by decide +kernel
theorem dX3_isNumber_0 : decode cX3_isNumber 0 = .ok (.iload_n 0, 1) := dc_of qt_q129_cX3_isNumber 0 rfl
theorem dX3_isNumber_1 : decode cX3_isNumber 1 = .ok (.iconst 1, 1) := dc_of qt_q129_cX3_isNumber 1 rfl
theorem dX3_isNumber_2 : decode cX3_isNumber 2 = .ok (.iand, 1) := dc_of qt_q129_cX3_isNumber 2 rfl
theorem dX3_isNumber_3 : decode cX3_isNumber 3 = .ok (.ifCond .eq 7, 3) := dc_of qt_q129_cX3_isNumber 3 rfl
theorem dX3_isNumber_6 : decode cX3_isNumber 6 = .ok (.iconst 1, 1) := dc_of qt_q129_cX3_isNumber 4 rfl
theorem dX3_isNumber_7 : decode cX3_isNumber 7 = .ok (.goto 4, 3) := dc_of qt_q129_cX3_isNumber 5 rfl
theorem dX3_isNumber_10 : decode cX3_isNumber 10 = .ok (.iconst 0, 1) := dc_of qt_q129_cX3_isNumber 6 rfl
theorem dX3_isNumber_11 : decode cX3_isNumber 11 = .ok (.ireturn, 1) := dc_of qt_q129_cX3_isNumber 7 rfl
def ql_q130_cX4_init : List (Nat × Jvm.ClassFile.Instr × Nat) := [(0, .aload_n 0, 1), (1, .invokespecial 1, 3), (4, .aload_n 0, 1), (5, .iconst 2, 1), (6, .newarray .int, 2), (8, .putfield 7, 3), (11, .aload_n 0, 1), (12, .iconst 2, 1), (13, .newarray .int, 2), (15, .putfield 13, 3), (18, .aload_n 0, 1), (19, .sipush 512, 3), (22, .newarray .int, 2), (24, .putfield 16, 3), (27, .aload_n 0, 1), (28, .bipush 8, 2), (30, .newarray .int, 2), (32, .putfield 19, 3), (35, .aload_n 0, 1), (36, .sipush 256, 3), (39, .newarray .int, 2), (41, .putfield 22, 3), (44, .aload_n 0, 1), (45, .sipush 256, 3)]
theorem qt_q130_cX4_init : dcAll cX4_init ql_q130_cX4_init = true := by decide +kernel
theorem dX4_init_0 : decode cX4_init 0 = .ok (.aload_n 0, 1) := dc_of qt_q130_cX4_init 0 rfl
theorem dX4_init_1 : decode cX4_init 1 = .ok (.invokespecial 1, 3) := dc_of qt_q130_cX4_init 1 rfl
theorem dX4_init_4 : decode cX4_init 4 = .ok (.aload_n 0, 1) := dc_of qt_q130_cX4_init 2 rfl
theorem dX4_init_5 : decode cX4_init 5 = .ok (.iconst 2, 1) := dc_of qt_q130_cX4_init 3 rfl
theorem dX4_init_6 : decode cX4_init 6 = .ok (.newarray .int, 2) := dc_of qt_q130_cX4_init 4 rfl
theorem dX4_init_8 : decode cX4_init 8 = .ok (.putfield 7, 3) := dc_of qt_q130_cX4_init 5 rfl
theorem dX4_init_11 : decode cX4_init 11 = .ok (.aload_n 0, 1) := dc_of qt_q130_cX4_init 6 rfl
theorem dX4_init_12 : decode cX4_init 12 = .ok (.iconst 2, 1) := dc_of qt_q130_cX4_init 7 rfl
theorem dX4_init_13 : decode cX4_init 13 = .ok (.newarray .int, 2) := dc_of qt_q130_cX4_init 8 rfl
theorem dX4_init_15 : decode cX4_init 15 = .ok (.putfield 13, 3) := dc_of qt_q130_cX4_init 9 rfl
theorem dX4_init_18 : decode cX4_init 18 = .ok (.aload_n 0, 1) := dc_of qt_q130_cX4_init 10 rfl
theorem dX4_init_19 : decode cX4_init 19 = .ok (.sipush 512, 3) := dc_of qt_q130_cX4_init 11 rfl
theorem dX4_init_22 : decode cX4_init 22 = .ok (.newarray .int, 2) := dc_of qt_q130_cX4_init 12 rfl
theorem dX4_init_24 : decode cX4_init 24 = .ok (.putfield 16, 3) := dc_of qt_q130_cX4_init 13 rfl
theorem dX4_init_27 : decode cX4_init 27 = .ok (.aload_n 0, 1) := dc_of qt_q130_cX4_init 14 rfl
theorem dX4_init_28 : decode cX4_init 28 = .ok (.bipush 8, 2) := dc_of qt_q130_cX4_init 15 rfl
theorem dX4_init_30 : decode cX4_init 30 = .ok (.newarray .int, 2) := dc_of qt_q130_cX4_init 16 rfl
theorem dX4_init_32 : decode cX4_init 32 = .ok (.putfield 19, 3) := dc_of qt_q130_cX4_init 17 rfl
theorem dX4_init_35 : decode cX4_init 35 = .ok (.aload_n 0, 1) := dc_of qt_q130_cX4_init 18 rfl
theorem dX4_init_36 : decode cX4_init 36 = .ok (.sipush 256, 3) := dc_of qt_q130_cX4_init 19 rfl
theorem dX4_init_39 : decode cX4_init 39 = .ok (.newarray .int, 2) := dc_of qt_q130_cX4_init 20 rfl
theorem dX4_init_41 : decode cX4_init 41 = .ok (.putfield 22, 3) := dc_of qt_q130_cX4_init 21 rfl
theorem dX4_init_44 : decode cX4_init 44 = .ok (.aload_n 0, 1) := dc_of qt_q130_cX4_init 22 rfl
theorem dX4_init_45 : decode cX4_init 45 = .ok (.sipush 256, 3) := dc_of qt_q130_cX4_init 23 rfl
def ql_q131_cX4_init : List (Nat × Jvm.ClassFile.Instr × Nat) := [(48, .newarray .int, 2), (50, .putfield 25, 3), (53, .aload_n 0, 1), (54, .sipush 3000, 3), (57, .newarray .int, 2), (59, .putfield 28, 3), (62, .aload_n 0, 1), (63, .sipush 3000, 3), (66, .newarray .int, 2), (68, .putfield 31, 3), (71, .aload_n 0, 1), (72, .sipush 2000, 3), (75, .newarray .int, 2), (77, .putfield 34, 3), (80, .aload_n 0, 1), (81, .sipush 256, 3), (84, .newarray .int, 2), (86, .putfield 37, 3), (89, .aload_n 0, 1), (90, .iconst 4, 1), (91, .newarray .int, 2), (93, .putfield 40, 3), (96, .aload_n 0, 1), (97, .sipush 256, 3)]
theorem qt_q131_cX4_init : dcAll cX4_init ql_q131_cX4_init = true := by decide +kernel
theorem dX4_init_48 : decode cX4_init 48 = .ok (.newarray .int, 2) := dc_of qt_q131_cX4_init 0 rfl
theorem dX4_init_50 : decode cX4_init 50 = .ok (.putfield 25, 3) := dc_of qt_q131_cX4_init 1 rfl
theorem dX4_init_53 : decode cX4_init 53 = .ok (.aload_n 0, 1) := dc_of qt_q131_cX4_init 2 rfl
theorem dX4_init_54 : decode cX4_init 54 = .ok (.sipush 3000, 3) := dc_of qt_q131_cX4_init 3 rfl
theorem dX4_init_57 : decode cX4_init 57 = .ok (.newarray .int, 2) := dc_of qt_q131_cX4_init 4 rfl
theorem dX4_init_59 : decode cX4_init 59 = .ok (.putfield 28, 3) := dc_of qt_q131_cX4_init 5 rfl
theorem dX4_init_62 : decode cX4_init 62 = .ok (.aload_n 0, 1) := dc_of qt_q131_cX4_init 6 rfl
theorem dX4_init_63 : decode cX4_init 63 = .ok (.sipush 3000, 3) := dc_of qt_q131_cX4_init 7 rfl
theorem dX4_init_66 : decode cX4_init 66 = .ok (.newarray .int, 2) := dc_of qt_q131_cX4_init 8 rfl
theorem dX4_init_68 : decode cX4_init 68 = .ok (.putfield 31, 3) := dc_of qt_q131_cX4_init 9 rfl
theorem dX4_init_71 : decode cX4_init 71 = .ok (.aload_n 0, 1) := dc_of qt_q131_cX4_init 10 rfl
theorem dX4_init_72 : decode cX4_init 72 = .ok (.sipush 2000, 3) := dc_of qt_q131_cX4_init 11 rfl
theorem dX4_init_75 : decode cX4_init 75 = .ok (.newarray .int, 2) := dc_of qt_q131_cX4_init 12 rfl
theorem dX4_init_77 : decode cX4_init 77 = .ok (.putfield 34, 3) := dc_of qt_q131_cX4_init 13 rfl
theorem dX4_init_80 : decode cX4_init 80 = .ok (.aload_n 0, 1) := dc_of qt_q131_cX4_init 14 rfl
theorem dX4_init_81 : decode cX4_init 81 = .ok (.sipush 256, 3) := dc_of qt_q131_cX4_init 15 rfl
theorem dX4_init_84 : decode cX4_init 84 = .ok (.newarray .int, 2) := dc_of qt_q131_cX4_init 16 rfl
theorem dX4_init_86 : decode cX4_init 86 = .ok (.putfield 37, 3) := dc_of qt_q131_cX4_init 17 rfl
theorem dX4_init_89 : decode cX4_init 89 = .ok (.aload_n 0, 1) := dc_of qt_q131_cX4_init 18 rfl
theorem dX4_init_90 : decode cX4_init 90 = .ok (.iconst 4, 1) := dc_of qt_q131_cX4_init 19 rfl
theorem dX4_init_91 : decode cX4_init 91 = .ok (.newarray .int, 2) := dc_of qt_q131_cX4_init 20 rfl
theorem dX4_init_93 : decode cX4_init 93 = .ok (.putfield 40, 3) := dc_of qt_q131_cX4_init 21 rfl
theorem dX4_init_96 : decode cX4_init 96 = .ok (.aload_n 0, 1) := dc_of qt_q131_cX4_init 22 rfl
theorem dX4_init_97 : decode cX4_init 97 = .ok (.sipush 256, 3) := dc_of qt_q131_cX4_init 23 rfl
def ql_q132_cX4_init : List (Nat × Jvm.ClassFile.Instr × Nat) := [(100, .newarray .int, 2), (102, .putfield 43, 3), (105, .aload_n 0, 1), (106, .sipush 3000, 3), (109, .newarray .int, 2), (111, .putfield 46, 3), (114, .aload_n 0, 1), (115, .getfield 7, 3), (118, .iconst 0, 1), (119, .sipush 4096, 3), (122, .iastore, 1), (123, .aload_n 0, 1), (124, .getfield 7, 3), (127, .iconst 1, 1), (128, .sipush 4096, 3), (131, .iastore, 1), (132, .return_, 1)]
theorem qt_q132_cX4_init : dcAll cX4_init ql_q132_cX4_init = true := by decide +kernel
theorem dX4_init_100 : decode cX4_init 100 = .ok (.newarray .int, 2) := dc_of qt_q132_cX4_init 0 rfl
theorem dX4_init_102 : decode cX4_init 102 = .ok (.putfield 43, 3) := dc_of qt_q132_cX4_init 1 rfl
theorem dX4_init_105 : decode cX4_init 105 = .ok (.aload_n 0, 1) := dc_of qt_q132_cX4_init 2 rfl
theorem dX4_init_106 : decode cX4_init 106 = .ok (.sipush 3000, 3) := dc_of qt_q132_cX4_init 3 rfl
theorem dX4_init_109 : decode cX4_init 109 = .ok (.newarray .int, 2) := dc_of qt_q132_cX4_init 4 rfl
theorem dX4_init_111 : decode cX4_init 111 = .ok (.putfield 46, 3) := dc_of qt_q132_cX4_init 5 rfl
theorem dX4_init_114 : decode cX4_init 114 = .ok (.aload_n 0, 1) := dc_of qt_q132_cX4_init 6 rfl
theorem dX4_init_115 : decode cX4_init 115 = .ok (.getfield 7, 3) := dc_of qt_q132_cX4_init 7 rfl
theorem dX4_init_118 : decode cX4_init 118 = .ok (.iconst 0, 1) := dc_of qt_q132_cX4_init 8 rfl
theorem dX4_init_119 : decode cX4_init 119 = .ok (.sipush 4096, 3) := dc_of qt_q132_cX4_init 9 rfl
theorem dX4_init_122 : decode cX4_init 122 = .ok (.iastore, 1) := dc_of qt_q132_cX4_init 10 rfl
theorem dX4_init_123 : decode cX4_init 123 = .ok (.aload_n 0, 1) := dc_of qt_q132_cX4_init 11 rfl
theorem dX4_init_124 : decode cX4_init 124 = .ok (.getfield 7, 3) := dc_of qt_q132_cX4_init 12 rfl
theorem dX4_init_127 : decode cX4_init 127 = .ok (.iconst 1, 1) := dc_of qt_q132_cX4_init 13 rfl
theorem dX4_init_128 : decode cX4_init 128 = .ok (.sipush 4096, 3) := dc_of qt_q132_cX4_init 14 rfl
theorem dX4_init_131 : decode cX4_init 131 = .ok (.iastore, 1) := dc_of qt_q132_cX4_init 15 rfl
theorem dX4_init_132 : decode cX4_init 132 = .ok (.return_, 1) := dc_of qt_q132_cX4_init 16 rfl
def ql_q133_cX4_thrown : List (Nat × Jvm.ClassFile.Instr × Nat) := [(0, .aload_n 0, 1), (1, .getfield 49, 3), (4, .ireturn, 1)]
theorem qt_q133_cX4_thrown : dcAll cX4_thrown ql_q133_cX4_thrown = true := by decide +kernel
theorem dX4_thrown_0 : decode cX4_thrown 0 = .ok (.aload_n 0, 1) := dc_of qt_q133_cX4_thrown 0 rfl
theorem dX4_thrown_1 : decode cX4_thrown 1 = .ok (.getfield 49, 3) := dc_of qt_q133_cX4_thrown 1 rfl
theorem dX4_thrown_4 : decode cX4_thrown 4 = .ok (.ireturn, 1) := dc_of qt_q133_cX4_thrown 2 rfl
def ql_q134_cX4_isHeap : List (Nat × Jvm.ClassFile.Instr × Nat) := [(0, .iload_n 0, 1), (1, .ifCond .eq 8, 3), (4, .iload_n 0, 1), (5, .iconst 1, 1), (6, .if_icmp .ne 7, 3), (9, .iconst 1, 1), (10, .goto 4, 3), (13, .iconst 0, 1), (14, .ireturn, 1)]
theorem qt_q134_cX4_isHeap : dcAll cX4_isHeap ql_q134_cX4_isHeap = true := by decide +kernel
theorem dX4_isHeap_0 : decode cX4_isHeap 0 = .ok (.iload_n 0, 1) := dc_of qt_q134_cX4_isHeap 0 rfl
theorem dX4_isHeap_1 : decode cX4_isHeap 1 = .ok (.ifCond .eq 8, 3) := dc_of qt_q134_cX4_isHeap 1 rfl
theorem dX4_isHeap_4 : decode cX4_isHeap 4 = .ok (.iload_n 0, 1) := dc_of qt_q134_cX4_isHeap 2 rfl
theorem dX4_isHeap_5 : decode cX4_isHeap 5 = .ok (.iconst 1, 1) := dc_of qt_q134_cX4_isHeap 3 rfl
theorem dX4_isHeap_6 : decode cX4_isHeap 6 = .ok (.if_icmp .ne 7, 3) := dc_of qt_q134_cX4_isHeap 4 rfl
theorem dX4_isHeap_9 : decode cX4_isHeap 9 = .ok (.iconst 1, 1) := dc_of qt_q134_cX4_isHeap 5 rfl
theorem dX4_isHeap_10 : decode cX4_isHeap 10 = .ok (.goto 4, 3) := dc_of qt_q134_cX4_isHeap 6 rfl
theorem dX4_isHeap_13 : decode cX4_isHeap 13 = .ok (.iconst 0, 1) := dc_of qt_q134_cX4_isHeap 7 rfl
theorem dX4_isHeap_14 : decode cX4_isHeap 14 = .ok (.ireturn, 1) := dc_of qt_q134_cX4_isHeap 8 rfl
def ql_q135_cX4_isSize : List (Nat × Jvm.ClassFile.Instr × Nat) := [(0, .iload_n 0, 1), (1, .iconst 3, 1), (2, .if_icmp .ne 16, 3), (5, .iload_n 1, 1), (6, .iconst 2, 1), (7, .if_icmp .ne 7, 3), (10, .iconst 1, 1), (11, .goto 32, 3), (14, .iconst 0, 1), (15, .goto 28, 3), (18, .iload_n 0, 1), (19, .iconst 1, 1), (20, .if_icmp .eq 8, 3), (23, .iload_n 0, 1), (24, .iconst 2, 1), (25, .if_icmp .ne 17, 3), (28, .iload_n 1, 1), (29, .ifCond .lt 13, 3), (32, .iload_n 1, 1), (33, .bipush 40, 2), (35, .if_icmp .gt 7, 3), (38, .iconst 1, 1), (39, .goto 4, 3), (42, .iconst 0, 1)]
theorem qt_q135_cX4_isSize : dcAll cX4_isSize ql_q135_cX4_isSize = true := by decide +kernel
theorem dX4_isSize_0 : decode cX4_isSize 0 = .ok (.iload_n 0, 1) := dc_of qt_q135_cX4_isSize 0 rfl
theorem dX4_isSize_1 : decode cX4_isSize 1 = .ok (.iconst 3, 1) := dc_of qt_q135_cX4_isSize 1 rfl
