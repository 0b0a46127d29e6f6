theorem dX4_pass_97 : decode cX4_pass 97 = .ok (.if_icmp .ge 37, 3) := dc_of qt_q215_cX4_pass 5 rfl
theorem dX4_pass_100 : decode cX4_pass 100 = .ok (.aload_n 0, 1) := dc_of qt_q215_cX4_pass 6 rfl
theorem dX4_pass_101 : decode cX4_pass 101 = .ok (.getfield 34, 3) := dc_of qt_q215_cX4_pass 7 rfl
theorem dX4_pass_104 : decode cX4_pass 104 = .ok (.aload_n 0, 1) := dc_of qt_q215_cX4_pass 8 rfl
theorem dX4_pass_105 : decode cX4_pass 105 = .ok (.getfield 149, 3) := dc_of qt_q215_cX4_pass 9 rfl
theorem dX4_pass_108 : decode cX4_pass 108 = .ok (.aload_n 0, 1) := dc_of qt_q215_cX4_pass 10 rfl
theorem dX4_pass_109 : decode cX4_pass 109 = .ok (.getfield 28, 3) := dc_of qt_q215_cX4_pass 11 rfl
theorem dX4_pass_112 : decode cX4_pass 112 = .ok (.iload_n 1, 1) := dc_of qt_q215_cX4_pass 12 rfl
theorem dX4_pass_113 : decode cX4_pass 113 = .ok (.iload 4, 2) := dc_of qt_q215_cX4_pass 13 rfl
theorem dX4_pass_115 : decode cX4_pass 115 = .ok (.iadd, 1) := dc_of qt_q215_cX4_pass 14 rfl
theorem dX4_pass_116 : decode cX4_pass 116 = .ok (.iaload, 1) := dc_of qt_q215_cX4_pass 15 rfl
theorem dX4_pass_117 : decode cX4_pass 117 = .ok (.iastore, 1) := dc_of qt_q215_cX4_pass 16 rfl
theorem dX4_pass_118 : decode cX4_pass 118 = .ok (.aload_n 0, 1) := dc_of qt_q215_cX4_pass 17 rfl
theorem dX4_pass_119 : decode cX4_pass 119 = .ok (.dup, 1) := dc_of qt_q215_cX4_pass 18 rfl
theorem dX4_pass_120 : decode cX4_pass 120 = .ok (.getfield 149, 3) := dc_of qt_q215_cX4_pass 19 rfl
theorem dX4_pass_123 : decode cX4_pass 123 = .ok (.iconst 1, 1) := dc_of qt_q215_cX4_pass 20 rfl
theorem dX4_pass_124 : decode cX4_pass 124 = .ok (.iadd, 1) := dc_of qt_q215_cX4_pass 21 rfl
theorem dX4_pass_125 : decode cX4_pass 125 = .ok (.putfield 149, 3) := dc_of qt_q215_cX4_pass 22 rfl
theorem dX4_pass_128 : decode cX4_pass 128 = .ok (.iinc 4 1, 3) := dc_of qt_q215_cX4_pass 23 rfl
def ql_q216_cX4_pass : List (Nat × Jvm.ClassFile.Instr × Nat) := [(131, .goto (-37), 3), (134, .iload_n 3, 1), (135, .ireturn, 1)]
theorem qt_q216_cX4_pass : dcAll cX4_pass ql_q216_cX4_pass = true := by decide +kernel
theorem dX4_pass_131 : decode cX4_pass 131 = .ok (.goto (-37), 3) := dc_of qt_q216_cX4_pass 0 rfl
theorem dX4_pass_134 : decode cX4_pass 134 = .ok (.iload_n 3, 1) := dc_of qt_q216_cX4_pass 1 rfl
theorem dX4_pass_135 : decode cX4_pass 135 = .ok (.ireturn, 1) := dc_of qt_q216_cX4_pass 2 rfl
def ql_q217_cX4_stop : List (Nat × Jvm.ClassFile.Instr × Nat) := [(0, .aload_n 0, 1), (1, .aload_n 0, 1), (2, .getfield 152, 3), (5, .ifCond .ge 7, 3), (8, .iload_n 1, 1), (9, .goto 7, 3), (12, .aload_n 0, 1), (13, .getfield 152, 3), (16, .putfield 152, 3), (19, .return_, 1)]
theorem qt_q217_cX4_stop : dcAll cX4_stop ql_q217_cX4_stop = true := by decide +kernel
theorem dX4_stop_0 : decode cX4_stop 0 = .ok (.aload_n 0, 1) := dc_of qt_q217_cX4_stop 0 rfl
theorem dX4_stop_1 : decode cX4_stop 1 = .ok (.aload_n 0, 1) := dc_of qt_q217_cX4_stop 1 rfl
theorem dX4_stop_2 : decode cX4_stop 2 = .ok (.getfield 152, 3) := dc_of qt_q217_cX4_stop 2 rfl
theorem dX4_stop_5 : decode cX4_stop 5 = .ok (.ifCond .ge 7, 3) := dc_of qt_q217_cX4_stop 3 rfl
theorem dX4_stop_8 : decode cX4_stop 8 = .ok (.iload_n 1, 1) := dc_of qt_q217_cX4_stop 4 rfl
theorem dX4_stop_9 : decode cX4_stop 9 = .ok (.goto 7, 3) := dc_of qt_q217_cX4_stop 5 rfl
theorem dX4_stop_12 : decode cX4_stop 12 = .ok (.aload_n 0, 1) := dc_of qt_q217_cX4_stop 6 rfl
theorem dX4_stop_13 : decode cX4_stop 13 = .ok (.getfield 152, 3) := dc_of qt_q217_cX4_stop 7 rfl
theorem dX4_stop_16 : decode cX4_stop 16 = .ok (.putfield 152, 3) := dc_of qt_q217_cX4_stop 8 rfl
theorem dX4_stop_19 : decode cX4_stop 19 = .ok (.return_, 1) := dc_of qt_q217_cX4_stop 9 rfl
set_option maxRecDepth 20000 in
theorem ggX4_nextByte_X4_stop : GoodIn wsX4_nextByte wsX4_stop := goodIn_r _ [9, 1, 10, 11, 12, 13, 14, 15, 16, 17, 18, 19, 20, 21, 22, 23, 24, 25, 26, 27, 28, 29, 30, 31, 32] rfl (by decide +kernel)
def ql_q218_cX4_nextByte : List (Nat × Jvm.ClassFile.Instr × Nat) := [(0, .aload_n 0, 1), (1, .getfield 152, 3), (4, .ifCond .lt 5, 3), (7, .iconst 0, 1), (8, .ireturn, 1), (9, .aload_n 0, 1), (10, .getfield 155, 3), (13, .aload_n 0, 1), (14, .getfield 149, 3), (17, .if_icmp .ne 13, 3), (20, .aload_n 0, 1), (21, .aload_n 0, 1), (22, .getfield 155, 3), (25, .invokevirtual 158, 3), (28, .iconst 0, 1), (29, .ireturn, 1), (30, .aload_n 0, 1), (31, .dup, 1), (32, .getfield 155, 3), (35, .iconst 1, 1), (36, .iadd, 1), (37, .putfield 155, 3), (40, .aload_n 0, 1), (41, .getfield 34, 3)]
theorem qt_q218_cX4_nextByte : dcAll cX4_nextByte ql_q218_cX4_nextByte = true := by decide +kernel
theorem dX4_nextByte_0 : decode cX4_nextByte 0 = .ok (.aload_n 0, 1) := dc_of qt_q218_cX4_nextByte 0 rfl
theorem dX4_nextByte_1 : decode cX4_nextByte 1 = .ok (.getfield 152, 3) := dc_of qt_q218_cX4_nextByte 1 rfl
theorem dX4_nextByte_4 : decode cX4_nextByte 4 = .ok (.ifCond .lt 5, 3) := dc_of qt_q218_cX4_nextByte 2 rfl
theorem dX4_nextByte_7 : decode cX4_nextByte 7 = .ok (.iconst 0, 1) := dc_of qt_q218_cX4_nextByte 3 rfl
theorem dX4_nextByte_8 : decode cX4_nextByte 8 = .ok (.ireturn, 1) := dc_of qt_q218_cX4_nextByte 4 rfl
theorem dX4_nextByte_9 : decode cX4_nextByte 9 = .ok (.aload_n 0, 1) := dc_of qt_q218_cX4_nextByte 5 rfl
theorem dX4_nextByte_10 : decode cX4_nextByte 10 = .ok (.getfield 155, 3) := dc_of qt_q218_cX4_nextByte 6 rfl
theorem dX4_nextByte_13 : decode cX4_nextByte 13 = .ok (.aload_n 0, 1) := dc_of qt_q218_cX4_nextByte 7 rfl
theorem dX4_nextByte_14 : decode cX4_nextByte 14 = .ok (.getfield 149, 3) := dc_of qt_q218_cX4_nextByte 8 rfl
theorem dX4_nextByte_17 : decode cX4_nextByte 17 = .ok (.if_icmp .ne 13, 3) := dc_of qt_q218_cX4_nextByte 9 rfl
theorem dX4_nextByte_20 : decode cX4_nextByte 20 = .ok (.aload_n 0, 1) := dc_of qt_q218_cX4_nextByte 10 rfl
theorem dX4_nextByte_21 : decode cX4_nextByte 21 = .ok (.aload_n 0, 1) := dc_of qt_q218_cX4_nextByte 11 rfl
theorem dX4_nextByte_22 : decode cX4_nextByte 22 = .ok (.getfield 155, 3) := dc_of qt_q218_cX4_nextByte 12 rfl
theorem dX4_nextByte_25 : decode cX4_nextByte 25 = .ok (.invokevirtual 158, 3) := dc_of qt_q218_cX4_nextByte 13 rfl
theorem dX4_nextByte_28 : decode cX4_nextByte 28 = .ok (.iconst 0, 1) := dc_of qt_q218_cX4_nextByte 14 rfl
theorem dX4_nextByte_29 : decode cX4_nextByte 29 = .ok (.ireturn, 1) := dc_of qt_q218_cX4_nextByte 15 rfl
theorem dX4_nextByte_30 : decode cX4_nextByte 30 = .ok (.aload_n 0, 1) := dc_of qt_q218_cX4_nextByte 16 rfl
theorem dX4_nextByte_31 : decode cX4_nextByte 31 = .ok (.dup, 1) := dc_of qt_q218_cX4_nextByte 17 rfl
theorem dX4_nextByte_32 : decode cX4_nextByte 32 = .ok (.getfield 155, 3) := dc_of qt_q218_cX4_nextByte 18 rfl
theorem dX4_nextByte_35 : decode cX4_nextByte 35 = .ok (.iconst 1, 1) := dc_of qt_q218_cX4_nextByte 19 rfl
theorem dX4_nextByte_36 : decode cX4_nextByte 36 = .ok (.iadd, 1) := dc_of qt_q218_cX4_nextByte 20 rfl
theorem dX4_nextByte_37 : decode cX4_nextByte 37 = .ok (.putfield 155, 3) := dc_of qt_q218_cX4_nextByte 21 rfl
theorem dX4_nextByte_40 : decode cX4_nextByte 40 = .ok (.aload_n 0, 1) := dc_of qt_q218_cX4_nextByte 22 rfl
theorem dX4_nextByte_41 : decode cX4_nextByte 41 = .ok (.getfield 34, 3) := dc_of qt_q218_cX4_nextByte 23 rfl
def ql_q219_cX4_nextByte : List (Nat × Jvm.ClassFile.Instr × Nat) := [(44, .aload_n 0, 1), (45, .getfield 155, 3), (48, .iconst 1, 1), (49, .isub, 1), (50, .iaload, 1), (51, .ireturn, 1)]
theorem qt_q219_cX4_nextByte : dcAll cX4_nextByte ql_q219_cX4_nextByte = true := by decide +kernel
theorem dX4_nextByte_44 : decode cX4_nextByte 44 = .ok (.aload_n 0, 1) := dc_of qt_q219_cX4_nextByte 0 rfl
theorem dX4_nextByte_45 : decode cX4_nextByte 45 = .ok (.getfield 155, 3) := dc_of qt_q219_cX4_nextByte 1 rfl
theorem dX4_nextByte_48 : decode cX4_nextByte 48 = .ok (.iconst 1, 1) := dc_of qt_q219_cX4_nextByte 2 rfl
theorem dX4_nextByte_49 : decode cX4_nextByte 49 = .ok (.isub, 1) := dc_of qt_q219_cX4_nextByte 3 rfl
theorem dX4_nextByte_50 : decode cX4_nextByte 50 = .ok (.iaload, 1) := dc_of qt_q219_cX4_nextByte 4 rfl
theorem dX4_nextByte_51 : decode cX4_nextByte 51 = .ok (.ireturn, 1) := dc_of qt_q219_cX4_nextByte 5 rfl
set_option maxRecDepth 20000 in
theorem ggX4_nextCount_X4_nextByte : GoodIn wsX4_nextCount wsX4_nextByte := goodIn_r _ [10, 3, 1, 11, 12, 13, 14, 15, 9, 16, 17, 18, 19, 20, 21, 22, 23, 24, 25, 26, 27, 28, 29, 30, 31, 32, 33, 34, 35, 36, 37, 38, 39] rfl (by decide +kernel)
set_option maxRecDepth 20000 in
theorem ggX4_nextCount_X4_stop : GoodIn wsX4_nextCount wsX4_stop := goodIn_r _ [16, 3, 17, 18, 19, 20, 21, 22, 23, 24, 25, 26, 27, 28, 29, 30, 31, 32, 33, 34, 35, 36, 37, 38, 39] rfl (by decide +kernel)
def ql_q220_cX4_nextCount : List (Nat × Jvm.ClassFile.Instr × Nat) := [(0, .aload_n 0, 1), (1, .getfield 155, 3), (4, .istore_n 1, 1), (5, .aload_n 0, 1), (6, .lconst 0, 1), (7, .putfield 161, 3), (10, .lconst 1, 1), (11, .lstore_n 2, 1), (12, .iconst 0, 1), (13, .istore 4, 2), (15, .iconst 1, 1), (16, .istore 5, 2), (18, .iload 5, 2), (20, .ifCond .eq 106, 3), (23, .aload_n 0, 1), (24, .getfield 152, 3), (27, .ifCond .ge 99, 3), (30, .aload_n 0, 1), (31, .invokevirtual 165, 3), (34, .istore 6, 2), (36, .aload_n 0, 1), (37, .getfield 152, 3), (40, .ifCond .ge 83, 3), (43, .iinc 4 1, 3)]
theorem qt_q220_cX4_nextCount : dcAll cX4_nextCount ql_q220_cX4_nextCount = true := by decide +kernel
theorem dX4_nextCount_0 : decode cX4_nextCount 0 = .ok (.aload_n 0, 1) := dc_of qt_q220_cX4_nextCount 0 rfl
theorem dX4_nextCount_1 : decode cX4_nextCount 1 = .ok (.getfield 155, 3) := dc_of qt_q220_cX4_nextCount 1 rfl
theorem dX4_nextCount_4 : decode cX4_nextCount 4 = .ok (.istore_n 1, 1) := dc_of qt_q220_cX4_nextCount 2 rfl
theorem dX4_nextCount_5 : decode cX4_nextCount 5 = .ok (.aload_n 0, 1) := dc_of qt_q220_cX4_nextCount 3 rfl
theorem dX4_nextCount_6 : decode cX4_nextCount 6 = .ok (.lconst 0, 1) := dc_of qt_q220_cX4_nextCount 4 rfl
theorem dX4_nextCount_7 : decode cX4_nextCount 7 = .ok (.putfield 161, 3) := dc_of qt_q220_cX4_nextCount 5 rfl
theorem dX4_nextCount_10 : decode cX4_nextCount 10 = .ok (.lconst 1, 1) := dc_of qt_q220_cX4_nextCount 6 rfl
theorem dX4_nextCount_11 : decode cX4_nextCount 11 = .ok (.lstore_n 2, 1) := dc_of qt_q220_cX4_nextCount 7 rfl
theorem dX4_nextCount_12 : decode cX4_nextCount 12 = .ok (.iconst 0, 1) := dc_of qt_q220_cX4_nextCount 8 rfl
theorem dX4_nextCount_13 : decode cX4_nextCount 13 = .ok (.istore 4, 2) := dc_of qt_q220_cX4_nextCount 9 rfl
theorem dX4_nextCount_15 : decode cX4_nextCount 15 = .ok (.iconst 1, 1) := dc_of qt_q220_cX4_nextCount 10 rfl
theorem dX4_nextCount_16 : decode cX4_nextCount 16 = .ok (.istore 5, 2) := dc_of qt_q220_cX4_nextCount 11 rfl
theorem dX4_nextCount_18 : decode cX4_nextCount 18 = .ok (.iload 5, 2) := dc_of qt_q220_cX4_nextCount 12 rfl
theorem dX4_nextCount_20 : decode cX4_nextCount 20 = .ok (.ifCond .eq 106, 3) := dc_of qt_q220_cX4_nextCount 13 rfl
theorem dX4_nextCount_23 : decode cX4_nextCount 23 = .ok (.aload_n 0, 1) := dc_of qt_q220_cX4_nextCount 14 rfl
theorem dX4_nextCount_24 : decode cX4_nextCount 24 = .ok (.getfield 152, 3) := dc_of qt_q220_cX4_nextCount 15 rfl
theorem dX4_nextCount_27 : decode cX4_nextCount 27 = .ok (.ifCond .ge 99, 3) := dc_of qt_q220_cX4_nextCount 16 rfl
theorem dX4_nextCount_30 : decode cX4_nextCount 30 = .ok (.aload_n 0, 1) := dc_of qt_q220_cX4_nextCount 17 rfl
theorem dX4_nextCount_31 : decode cX4_nextCount 31 = .ok (.invokevirtual 165, 3) := dc_of qt_q220_cX4_nextCount 18 rfl
theorem dX4_nextCount_34 : decode cX4_nextCount 34 = .ok (.istore 6, 2) := dc_of qt_q220_cX4_nextCount 19 rfl
theorem dX4_nextCount_36 : decode cX4_nextCount 36 = .ok (.aload_n 0, 1) := dc_of qt_q220_cX4_nextCount 20 rfl
theorem dX4_nextCount_37 : decode cX4_nextCount 37 = .ok (.getfield 152, 3) := dc_of qt_q220_cX4_nextCount 21 rfl
theorem dX4_nextCount_40 : decode cX4_nextCount 40 = .ok (.ifCond .ge 83, 3) := dc_of qt_q220_cX4_nextCount 22 rfl
theorem dX4_nextCount_43 : decode cX4_nextCount 43 = .ok (.iinc 4 1, 3) := dc_of qt_q220_cX4_nextCount 23 rfl
def ql_q221_cX4_nextCount : List (Nat × Jvm.ClassFile.Instr × Nat) := [(46, .aload_n 0, 1), (47, .aload_n 0, 1), (48, .getfield 161, 3), (51, .iload 6, 2), (53, .sipush 128, 3), (56, .irem, 1), (57, .i2l, 1), (58, .lload_n 2, 1), (59, .lmul, 1), (60, .ladd, 1), (61, .putfield 161, 3), (64, .lload_n 2, 1), (65, .ldc2_w 120, 3), (68, .lmul, 1), (69, .lstore_n 2, 1), (70, .iload 6, 2), (72, .bipush 127, 2), (74, .if_icmp .le 7, 3), (77, .iconst 1, 1), (78, .goto 4, 3), (81, .iconst 0, 1), (82, .istore 5, 2), (84, .iload 5, 2), (86, .ifCond .ne 25, 3)]
theorem qt_q221_cX4_nextCount : dcAll cX4_nextCount ql_q221_cX4_nextCount = true := by decide +kernel
theorem dX4_nextCount_46 : decode cX4_nextCount 46 = .ok (.aload_n 0, 1) := dc_of qt_q221_cX4_nextCount 0 rfl
theorem dX4_nextCount_47 : decode cX4_nextCount 47 = .ok (.aload_n 0, 1) := dc_of qt_q221_cX4_nextCount 1 rfl
theorem dX4_nextCount_48 : decode cX4_nextCount 48 = .ok (.getfield 161, 3) := dc_of qt_q221_cX4_nextCount 2 rfl
theorem dX4_nextCount_51 : decode cX4_nextCount 51 = .ok (.iload 6, 2) := dc_of qt_q221_cX4_nextCount 3 rfl
theorem dX4_nextCount_53 : decode cX4_nextCount 53 = .ok (.sipush 128, 3) := dc_of qt_q221_cX4_nextCount 4 rfl
theorem dX4_nextCount_56 : decode cX4_nextCount 56 = .ok (.irem, 1) := dc_of qt_q221_cX4_nextCount 5 rfl
theorem dX4_nextCount_57 : decode cX4_nextCount 57 = .ok (.i2l, 1) := dc_of qt_q221_cX4_nextCount 6 rfl
theorem dX4_nextCount_58 : decode cX4_nextCount 58 = .ok (.lload_n 2, 1) := dc_of qt_q221_cX4_nextCount 7 rfl
theorem dX4_nextCount_59 : decode cX4_nextCount 59 = .ok (.lmul, 1) := dc_of qt_q221_cX4_nextCount 8 rfl
theorem dX4_nextCount_60 : decode cX4_nextCount 60 = .ok (.ladd, 1) := dc_of qt_q221_cX4_nextCount 9 rfl
theorem dX4_nextCount_61 : decode cX4_nextCount 61 = .ok (.putfield 161, 3) := dc_of qt_q221_cX4_nextCount 10 rfl
theorem dX4_nextCount_64 : decode cX4_nextCount 64 = .ok (.lload_n 2, 1) := dc_of qt_q221_cX4_nextCount 11 rfl
theorem dX4_nextCount_65 : decode cX4_nextCount 65 = .ok (.ldc2_w 120, 3) := dc_of qt_q221_cX4_nextCount 12 rfl
theorem dX4_nextCount_68 : decode cX4_nextCount 68 = .ok (.lmul, 1) := dc_of qt_q221_cX4_nextCount 13 rfl
theorem dX4_nextCount_69 : decode cX4_nextCount 69 = .ok (.lstore_n 2, 1) := dc_of qt_q221_cX4_nextCount 14 rfl
theorem dX4_nextCount_70 : decode cX4_nextCount 70 = .ok (.iload 6, 2) := dc_of qt_q221_cX4_nextCount 15 rfl
theorem dX4_nextCount_72 : decode cX4_nextCount 72 = .ok (.bipush 127, 2) := dc_of qt_q221_cX4_nextCount 16 rfl
theorem dX4_nextCount_74 : decode cX4_nextCount 74 = .ok (.if_icmp .le 7, 3) := dc_of qt_q221_cX4_nextCount 17 rfl
theorem dX4_nextCount_77 : decode cX4_nextCount 77 = .ok (.iconst 1, 1) := dc_of qt_q221_cX4_nextCount 18 rfl
theorem dX4_nextCount_78 : decode cX4_nextCount 78 = .ok (.goto 4, 3) := dc_of qt_q221_cX4_nextCount 19 rfl
theorem dX4_nextCount_81 : decode cX4_nextCount 81 = .ok (.iconst 0, 1) := dc_of qt_q221_cX4_nextCount 20 rfl
theorem dX4_nextCount_82 : decode cX4_nextCount 82 = .ok (.istore 5, 2) := dc_of qt_q221_cX4_nextCount 21 rfl
theorem dX4_nextCount_84 : decode cX4_nextCount 84 = .ok (.iload 5, 2) := dc_of qt_q221_cX4_nextCount 22 rfl
theorem dX4_nextCount_86 : decode cX4_nextCount 86 = .ok (.ifCond .ne 25, 3) := dc_of qt_q221_cX4_nextCount 23 rfl
def ql_q222_cX4_nextCount : List (Nat × Jvm.ClassFile.Instr × Nat) := [(89, .iload 6, 2), (91, .ifCond .ne 9, 3), (94, .iload 4, 2), (96, .iconst 1, 1), (97, .if_icmp .gt 21, 3), (100, .aload_n 0, 1), (101, .getfield 161, 3), (104, .ldc2_w 169, 3), (107, .lcmp, 1), (108, .ifCond .ge 10, 3), (111, .iload 4, 2), (113, .bipush 6, 2), (115, .if_icmp .ne 8, 3), (118, .aload_n 0, 1), (119, .iload_n 1, 1), (120, .invokevirtual 158, 3), (123, .goto (-105), 3), (126, .iload_n 1, 1), (127, .ireturn, 1)]
theorem qt_q222_cX4_nextCount : dcAll cX4_nextCount ql_q222_cX4_nextCount = true := by decide +kernel
theorem dX4_nextCount_89 : decode cX4_nextCount 89 = .ok (.iload 6, 2) := dc_of qt_q222_cX4_nextCount 0 rfl
theorem dX4_nextCount_91 : decode cX4_nextCount 91 = .ok (.ifCond .ne 9, 3) := dc_of qt_q222_cX4_nextCount 1 rfl
theorem dX4_nextCount_94 : decode cX4_nextCount 94 = .ok (.iload 4, 2) := dc_of qt_q222_cX4_nextCount 2 rfl
theorem dX4_nextCount_96 : decode cX4_nextCount 96 = .ok (.iconst 1, 1) := dc_of qt_q222_cX4_nextCount 3 rfl
theorem dX4_nextCount_97 : decode cX4_nextCount 97 = .ok (.if_icmp .gt 21, 3) := dc_of qt_q222_cX4_nextCount 4 rfl
theorem dX4_nextCount_100 : decode cX4_nextCount 100 = .ok (.aload_n 0, 1) := dc_of qt_q222_cX4_nextCount 5 rfl
theorem dX4_nextCount_101 : decode cX4_nextCount 101 = .ok (.getfield 161, 3) := dc_of qt_q222_cX4_nextCount 6 rfl
theorem dX4_nextCount_104 : decode cX4_nextCount 104 = .ok (.ldc2_w 169, 3) := dc_of qt_q222_cX4_nextCount 7 rfl
theorem dX4_nextCount_107 : decode cX4_nextCount 107 = .ok (.lcmp, 1) := dc_of qt_q222_cX4_nextCount 8 rfl
theorem dX4_nextCount_108 : decode cX4_nextCount 108 = .ok (.ifCond .ge 10, 3) := dc_of qt_q222_cX4_nextCount 9 rfl
theorem dX4_nextCount_111 : decode cX4_nextCount 111 = .ok (.iload 4, 2) := dc_of qt_q222_cX4_nextCount 10 rfl
theorem dX4_nextCount_113 : decode cX4_nextCount 113 = .ok (.bipush 6, 2) := dc_of qt_q222_cX4_nextCount 11 rfl
theorem dX4_nextCount_115 : decode cX4_nextCount 115 = .ok (.if_icmp .ne 8, 3) := dc_of qt_q222_cX4_nextCount 12 rfl
theorem dX4_nextCount_118 : decode cX4_nextCount 118 = .ok (.aload_n 0, 1) := dc_of qt_q222_cX4_nextCount 13 rfl
theorem dX4_nextCount_119 : decode cX4_nextCount 119 = .ok (.iload_n 1, 1) := dc_of qt_q222_cX4_nextCount 14 rfl
theorem dX4_nextCount_120 : decode cX4_nextCount 120 = .ok (.invokevirtual 158, 3) := dc_of qt_q222_cX4_nextCount 15 rfl
theorem dX4_nextCount_123 : decode cX4_nextCount 123 = .ok (.goto (-105), 3) := dc_of qt_q222_cX4_nextCount 16 rfl
theorem dX4_nextCount_126 : decode cX4_nextCount 126 = .ok (.iload_n 1, 1) := dc_of qt_q222_cX4_nextCount 17 rfl
theorem dX4_nextCount_127 : decode cX4_nextCount 127 = .ok (.ireturn, 1) := dc_of qt_q222_cX4_nextCount 18 rfl
set_option maxRecDepth 20000 in
theorem ggX4_nextValue_X4_nextCount : GoodIn wsX4_nextValue wsX4_nextCount := goodIn_r _ [14, 15, 2, 1, 16, 17, 18, 19, 20, 13, 21, 22, 23, 24, 25, 26, 27, 28, 29, 30, 31, 32, 33, 34, 35, 36, 37, 38, 39, 40, 41, 42, 43, 44, 45, 46, 47, 48, 49, 50] rfl (by decide +kernel)
set_option maxRecDepth 20000 in
theorem ggX4_nextValue_X4_stop : GoodIn wsX4_nextValue wsX4_stop := goodIn_r _ [27, 1, 28, 29, 30, 31, 32, 33, 34, 35, 36, 37, 38, 39, 40, 41, 42, 43, 44, 45, 46, 47, 48, 49, 50] rfl (by decide +kernel)
def ql_q223_cX4_nextValue : List (Nat × Jvm.ClassFile.Instr × Nat) := [(0, .aload_n 0, 1), (1, .invokevirtual 171, 3), (4, .istore_n 2, 1), (5, .aload_n 0, 1), (6, .getfield 152, 3), (9, .ifCond .lt 5, 3), (12, .iconst 0, 1), (13, .ireturn, 1), (14, .aload_n 0, 1), (15, .getfield 161, 3), (18, .ldc2_w 135, 3), (21, .lrem, 1), (22, .lconst 1, 1), (23, .lcmp, 1), (24, .ifCond .ne 7, 3), (27, .iconst 1, 1), (28, .goto 4, 3), (31, .iconst 0, 1), (32, .istore_n 3, 1), (33, .iload_n 3, 1), (34, .ifCond .eq 73, 3), (37, .iload_n 1, 1), (38, .ifCond .eq 14, 3), (41, .aload_n 0, 1)]
theorem qt_q223_cX4_nextValue : dcAll cX4_nextValue ql_q223_cX4_nextValue = true := by decide +kernel
theorem dX4_nextValue_0 : decode cX4_nextValue 0 = .ok (.aload_n 0, 1) := dc_of qt_q223_cX4_nextValue 0 rfl
theorem dX4_nextValue_1 : decode cX4_nextValue 1 = .ok (.invokevirtual 171, 3) := dc_of qt_q223_cX4_nextValue 1 rfl
theorem dX4_nextValue_4 : decode cX4_nextValue 4 = .ok (.istore_n 2, 1) := dc_of qt_q223_cX4_nextValue 2 rfl
theorem dX4_nextValue_5 : decode cX4_nextValue 5 = .ok (.aload_n 0, 1) := dc_of qt_q223_cX4_nextValue 3 rfl
theorem dX4_nextValue_6 : decode cX4_nextValue 6 = .ok (.getfield 152, 3) := dc_of qt_q223_cX4_nextValue 4 rfl
theorem dX4_nextValue_9 : decode cX4_nextValue 9 = .ok (.ifCond .lt 5, 3) := dc_of qt_q223_cX4_nextValue 5 rfl
theorem dX4_nextValue_12 : decode cX4_nextValue 12 = .ok (.iconst 0, 1) := dc_of qt_q223_cX4_nextValue 6 rfl
theorem dX4_nextValue_13 : decode cX4_nextValue 13 = .ok (.ireturn, 1) := dc_of qt_q223_cX4_nextValue 7 rfl
theorem dX4_nextValue_14 : decode cX4_nextValue 14 = .ok (.aload_n 0, 1) := dc_of qt_q223_cX4_nextValue 8 rfl
theorem dX4_nextValue_15 : decode cX4_nextValue 15 = .ok (.getfield 161, 3) := dc_of qt_q223_cX4_nextValue 9 rfl
theorem dX4_nextValue_18 : decode cX4_nextValue 18 = .ok (.ldc2_w 135, 3) := dc_of qt_q223_cX4_nextValue 10 rfl
theorem dX4_nextValue_21 : decode cX4_nextValue 21 = .ok (.lrem, 1) := dc_of qt_q223_cX4_nextValue 11 rfl
theorem dX4_nextValue_22 : decode cX4_nextValue 22 = .ok (.lconst 1, 1) := dc_of qt_q223_cX4_nextValue 12 rfl
theorem dX4_nextValue_23 : decode cX4_nextValue 23 = .ok (.lcmp, 1) := dc_of qt_q223_cX4_nextValue 13 rfl
theorem dX4_nextValue_24 : decode cX4_nextValue 24 = .ok (.ifCond .ne 7, 3) := dc_of qt_q223_cX4_nextValue 14 rfl
theorem dX4_nextValue_27 : decode cX4_nextValue 27 = .ok (.iconst 1, 1) := dc_of qt_q223_cX4_nextValue 15 rfl
theorem dX4_nextValue_28 : decode cX4_nextValue 28 = .ok (.goto 4, 3) := dc_of qt_q223_cX4_nextValue 16 rfl
theorem dX4_nextValue_31 : decode cX4_nextValue 31 = .ok (.iconst 0, 1) := dc_of qt_q223_cX4_nextValue 17 rfl
theorem dX4_nextValue_32 : decode cX4_nextValue 32 = .ok (.istore_n 3, 1) := dc_of qt_q223_cX4_nextValue 18 rfl
theorem dX4_nextValue_33 : decode cX4_nextValue 33 = .ok (.iload_n 3, 1) := dc_of qt_q223_cX4_nextValue 19 rfl
theorem dX4_nextValue_34 : decode cX4_nextValue 34 = .ok (.ifCond .eq 73, 3) := dc_of qt_q223_cX4_nextValue 20 rfl
theorem dX4_nextValue_37 : decode cX4_nextValue 37 = .ok (.iload_n 1, 1) := dc_of qt_q223_cX4_nextValue 21 rfl
theorem dX4_nextValue_38 : decode cX4_nextValue 38 = .ok (.ifCond .eq 14, 3) := dc_of qt_q223_cX4_nextValue 22 rfl
theorem dX4_nextValue_41 : decode cX4_nextValue 41 = .ok (.aload_n 0, 1) := dc_of qt_q223_cX4_nextValue 23 rfl
def ql_q224_cX4_nextValue : List (Nat × Jvm.ClassFile.Instr × Nat) := [(42, .getfield 161, 3), (45, .ldc2_w 174, 3), (48, .lcmp, 1), (49, .ifCond .lt 10, 3), (52, .aload_n 0, 1), (53, .iload_n 2, 1), (54, .invokevirtual 158, 3), (57, .iconst 0, 1), (58, .ireturn, 1), (59, .aload_n 0, 1), (60, .getfield 161, 3), (63, .ldc2_w 125, 3), (66, .lrem, 1), (67, .lconst 1, 1), (68, .lcmp, 1), (69, .ifCond .ne 14, 3), (72, .aload_n 0, 1), (73, .getfield 161, 3), (76, .ldc2_w 125, 3), (79, .ldiv, 1), (80, .goto 15, 3), (83, .ldc2_w 127, 3), (86, .aload_n 0, 1), (87, .getfield 161, 3)]
theorem qt_q224_cX4_nextValue : dcAll cX4_nextValue ql_q224_cX4_nextValue = true := by decide +kernel
theorem dX4_nextValue_42 : decode cX4_nextValue 42 = .ok (.getfield 161, 3) := dc_of qt_q224_cX4_nextValue 0 rfl
theorem dX4_nextValue_45 : decode cX4_nextValue 45 = .ok (.ldc2_w 174, 3) := dc_of qt_q224_cX4_nextValue 1 rfl
theorem dX4_nextValue_48 : decode cX4_nextValue 48 = .ok (.lcmp, 1) := dc_of qt_q224_cX4_nextValue 2 rfl
theorem dX4_nextValue_49 : decode cX4_nextValue 49 = .ok (.ifCond .lt 10, 3) := dc_of qt_q224_cX4_nextValue 3 rfl
theorem dX4_nextValue_52 : decode cX4_nextValue 52 = .ok (.aload_n 0, 1) := dc_of qt_q224_cX4_nextValue 4 rfl
theorem dX4_nextValue_53 : decode cX4_nextValue 53 = .ok (.iload_n 2, 1) := dc_of qt_q224_cX4_nextValue 5 rfl
theorem dX4_nextValue_54 : decode cX4_nextValue 54 = .ok (.invokevirtual 158, 3) := dc_of qt_q224_cX4_nextValue 6 rfl
theorem dX4_nextValue_57 : decode cX4_nextValue 57 = .ok (.iconst 0, 1) := dc_of qt_q224_cX4_nextValue 7 rfl
theorem dX4_nextValue_58 : decode cX4_nextValue 58 = .ok (.ireturn, 1) := dc_of qt_q224_cX4_nextValue 8 rfl
theorem dX4_nextValue_59 : decode cX4_nextValue 59 = .ok (.aload_n 0, 1) := dc_of qt_q224_cX4_nextValue 9 rfl
theorem dX4_nextValue_60 : decode cX4_nextValue 60 = .ok (.getfield 161, 3) := dc_of qt_q224_cX4_nextValue 10 rfl
theorem dX4_nextValue_63 : decode cX4_nextValue 63 = .ok (.ldc2_w 125, 3) := dc_of qt_q224_cX4_nextValue 11 rfl
theorem dX4_nextValue_66 : decode cX4_nextValue 66 = .ok (.lrem, 1) := dc_of qt_q224_cX4_nextValue 12 rfl
theorem dX4_nextValue_67 : decode cX4_nextValue 67 = .ok (.lconst 1, 1) := dc_of qt_q224_cX4_nextValue 13 rfl
theorem dX4_nextValue_68 : decode cX4_nextValue 68 = .ok (.lcmp, 1) := dc_of qt_q224_cX4_nextValue 14 rfl
theorem dX4_nextValue_69 : decode cX4_nextValue 69 = .ok (.ifCond .ne 14, 3) := dc_of qt_q224_cX4_nextValue 15 rfl
theorem dX4_nextValue_72 : decode cX4_nextValue 72 = .ok (.aload_n 0, 1) := dc_of qt_q224_cX4_nextValue 16 rfl
theorem dX4_nextValue_73 : decode cX4_nextValue 73 = .ok (.getfield 161, 3) := dc_of qt_q224_cX4_nextValue 17 rfl
theorem dX4_nextValue_76 : decode cX4_nextValue 76 = .ok (.ldc2_w 125, 3) := dc_of qt_q224_cX4_nextValue 18 rfl
theorem dX4_nextValue_79 : decode cX4_nextValue 79 = .ok (.ldiv, 1) := dc_of qt_q224_cX4_nextValue 19 rfl
theorem dX4_nextValue_80 : decode cX4_nextValue 80 = .ok (.goto 15, 3) := dc_of qt_q224_cX4_nextValue 20 rfl
theorem dX4_nextValue_83 : decode cX4_nextValue 83 = .ok (.ldc2_w 127, 3) := dc_of qt_q224_cX4_nextValue 21 rfl
theorem dX4_nextValue_86 : decode cX4_nextValue 86 = .ok (.aload_n 0, 1) := dc_of qt_q224_cX4_nextValue 22 rfl
theorem dX4_nextValue_87 : decode cX4_nextValue 87 = .ok (.getfield 161, 3) := dc_of qt_q224_cX4_nextValue 23 rfl
def ql_q225_cX4_nextValue : List (Nat × Jvm.ClassFile.Instr × Nat) := [(90, .ldc2_w 125, 3), (93, .ldiv, 1), (94, .lsub, 1), (95, .lstore 4, 2), (97, .ldc2_w 135, 3), (100, .lload 4, 2), (102, .lmul, 1), (103, .lconst 1, 1), (104, .ladd, 1), (105, .l2i, 1), (106, .ireturn, 1), (107, .iload_n 1, 1), (108, .iconst 1, 1), (109, .if_icmp .ne 10, 3), (112, .aload_n 0, 1), (113, .iload_n 2, 1), (114, .invokevirtual 158, 3), (117, .iconst 0, 1), (118, .ireturn, 1), (119, .aload_n 0, 1), (120, .getfield 161, 3), (123, .lconst 0, 1), (124, .lcmp, 1), (125, .ifCond .ne 5, 3)]
theorem qt_q225_cX4_nextValue : dcAll cX4_nextValue ql_q225_cX4_nextValue = true := by decide +kernel
theorem dX4_nextValue_90 : decode cX4_nextValue 90 = .ok (.ldc2_w 125, 3) := dc_of qt_q225_cX4_nextValue 0 rfl
theorem dX4_nextValue_93 : decode cX4_nextValue 93 = .ok (.ldiv, 1) := dc_of qt_q225_cX4_nextValue 1 rfl
theorem dX4_nextValue_94 : decode cX4_nextValue 94 = .ok (.lsub, 1) := dc_of qt_q225_cX4_nextValue 2 rfl
theorem dX4_nextValue_95 : decode cX4_nextValue 95 = .ok (.lstore 4, 2) := dc_of qt_q225_cX4_nextValue 3 rfl
theorem dX4_nextValue_97 : decode cX4_nextValue 97 = .ok (.ldc2_w 135, 3) := dc_of qt_q225_cX4_nextValue 4 rfl
theorem dX4_nextValue_100 : decode cX4_nextValue 100 = .ok (.lload 4, 2) := dc_of qt_q225_cX4_nextValue 5 rfl
theorem dX4_nextValue_102 : decode cX4_nextValue 102 = .ok (.lmul, 1) := dc_of qt_q225_cX4_nextValue 6 rfl
theorem dX4_nextValue_103 : decode cX4_nextValue 103 = .ok (.lconst 1, 1) := dc_of qt_q225_cX4_nextValue 7 rfl
theorem dX4_nextValue_104 : decode cX4_nextValue 104 = .ok (.ladd, 1) := dc_of qt_q225_cX4_nextValue 8 rfl
theorem dX4_nextValue_105 : decode cX4_nextValue 105 = .ok (.l2i, 1) := dc_of qt_q225_cX4_nextValue 9 rfl
theorem dX4_nextValue_106 : decode cX4_nextValue 106 = .ok (.ireturn, 1) := dc_of qt_q225_cX4_nextValue 10 rfl
theorem dX4_nextValue_107 : decode cX4_nextValue 107 = .ok (.iload_n 1, 1) := dc_of qt_q225_cX4_nextValue 11 rfl
theorem dX4_nextValue_108 : decode cX4_nextValue 108 = .ok (.iconst 1, 1) := dc_of qt_q225_cX4_nextValue 12 rfl
theorem dX4_nextValue_109 : decode cX4_nextValue 109 = .ok (.if_icmp .ne 10, 3) := dc_of qt_q225_cX4_nextValue 13 rfl
theorem dX4_nextValue_112 : decode cX4_nextValue 112 = .ok (.aload_n 0, 1) := dc_of qt_q225_cX4_nextValue 14 rfl
theorem dX4_nextValue_113 : decode cX4_nextValue 113 = .ok (.iload_n 2, 1) := dc_of qt_q225_cX4_nextValue 15 rfl
theorem dX4_nextValue_114 : decode cX4_nextValue 114 = .ok (.invokevirtual 158, 3) := dc_of qt_q225_cX4_nextValue 16 rfl
theorem dX4_nextValue_117 : decode cX4_nextValue 117 = .ok (.iconst 0, 1) := dc_of qt_q225_cX4_nextValue 17 rfl
theorem dX4_nextValue_118 : decode cX4_nextValue 118 = .ok (.ireturn, 1) := dc_of qt_q225_cX4_nextValue 18 rfl
theorem dX4_nextValue_119 : decode cX4_nextValue 119 = .ok (.aload_n 0, 1) := dc_of qt_q225_cX4_nextValue 19 rfl
theorem dX4_nextValue_120 : decode cX4_nextValue 120 = .ok (.getfield 161, 3) := dc_of qt_q225_cX4_nextValue 20 rfl
theorem dX4_nextValue_123 : decode cX4_nextValue 123 = .ok (.lconst 0, 1) := dc_of qt_q225_cX4_nextValue 21 rfl
theorem dX4_nextValue_124 : decode cX4_nextValue 124 = .ok (.lcmp, 1) := dc_of qt_q225_cX4_nextValue 22 rfl
theorem dX4_nextValue_125 : decode cX4_nextValue 125 = .ok (.ifCond .ne 5, 3) := dc_of qt_q225_cX4_nextValue 23 rfl
def ql_q226_cX4_nextValue : List (Nat × Jvm.ClassFile.Instr × Nat) := [(128, .iconst 0, 1), (129, .ireturn, 1), (130, .aload_n 0, 1), (131, .getfield 161, 3), (134, .ldc2_w 135, 3), (137, .ldiv, 1), (138, .lconst 1, 1), (139, .lsub, 1), (140, .lstore 4, 2), (142, .lload 4, 2), (144, .aload_n 0, 1), (145, .getfield 176, 3), (148, .i2l, 1), (149, .lcmp, 1), (150, .ifCond .gt 14, 3), (153, .lload 4, 2), (155, .aload_n 0, 1), (156, .getfield 179, 3), (159, .i2l, 1), (160, .lcmp, 1), (161, .ifCond .lt 10, 3), (164, .aload_n 0, 1), (165, .iload_n 2, 1), (166, .invokevirtual 158, 3)]
theorem qt_q226_cX4_nextValue : dcAll cX4_nextValue ql_q226_cX4_nextValue = true := by decide +kernel
theorem dX4_nextValue_128 : decode cX4_nextValue 128 = .ok (.iconst 0, 1) := dc_of qt_q226_cX4_nextValue 0 rfl
theorem dX4_nextValue_129 : decode cX4_nextValue 129 = .ok (.ireturn, 1) := dc_of qt_q226_cX4_nextValue 1 rfl
theorem dX4_nextValue_130 : decode cX4_nextValue 130 = .ok (.aload_n 0, 1) := dc_of qt_q226_cX4_nextValue 2 rfl
theorem dX4_nextValue_131 : decode cX4_nextValue 131 = .ok (.getfield 161, 3) := dc_of qt_q226_cX4_nextValue 3 rfl
theorem dX4_nextValue_134 : decode cX4_nextValue 134 = .ok (.ldc2_w 135, 3) := dc_of qt_q226_cX4_nextValue 4 rfl
theorem dX4_nextValue_137 : decode cX4_nextValue 137 = .ok (.ldiv, 1) := dc_of qt_q226_cX4_nextValue 5 rfl
theorem dX4_nextValue_138 : decode cX4_nextValue 138 = .ok (.lconst 1, 1) := dc_of qt_q226_cX4_nextValue 6 rfl
theorem dX4_nextValue_139 : decode cX4_nextValue 139 = .ok (.lsub, 1) := dc_of qt_q226_cX4_nextValue 7 rfl
theorem dX4_nextValue_140 : decode cX4_nextValue 140 = .ok (.lstore 4, 2) := dc_of qt_q226_cX4_nextValue 8 rfl
theorem dX4_nextValue_142 : decode cX4_nextValue 142 = .ok (.lload 4, 2) := dc_of qt_q226_cX4_nextValue 9 rfl
theorem dX4_nextValue_144 : decode cX4_nextValue 144 = .ok (.aload_n 0, 1) := dc_of qt_q226_cX4_nextValue 10 rfl
theorem dX4_nextValue_145 : decode cX4_nextValue 145 = .ok (.getfield 176, 3) := dc_of qt_q226_cX4_nextValue 11 rfl
theorem dX4_nextValue_148 : decode cX4_nextValue 148 = .ok (.i2l, 1) := dc_of qt_q226_cX4_nextValue 12 rfl
theorem dX4_nextValue_149 : decode cX4_nextValue 149 = .ok (.lcmp, 1) := dc_of qt_q226_cX4_nextValue 13 rfl
theorem dX4_nextValue_150 : decode cX4_nextValue 150 = .ok (.ifCond .gt 14, 3) := dc_of qt_q226_cX4_nextValue 14 rfl
theorem dX4_nextValue_153 : decode cX4_nextValue 153 = .ok (.lload 4, 2) := dc_of qt_q226_cX4_nextValue 15 rfl
theorem dX4_nextValue_155 : decode cX4_nextValue 155 = .ok (.aload_n 0, 1) := dc_of qt_q226_cX4_nextValue 16 rfl
theorem dX4_nextValue_156 : decode cX4_nextValue 156 = .ok (.getfield 179, 3) := dc_of qt_q226_cX4_nextValue 17 rfl
theorem dX4_nextValue_159 : decode cX4_nextValue 159 = .ok (.i2l, 1) := dc_of qt_q226_cX4_nextValue 18 rfl
theorem dX4_nextValue_160 : decode cX4_nextValue 160 = .ok (.lcmp, 1) := dc_of qt_q226_cX4_nextValue 19 rfl
theorem dX4_nextValue_161 : decode cX4_nextValue 161 = .ok (.ifCond .lt 10, 3) := dc_of qt_q226_cX4_nextValue 20 rfl
theorem dX4_nextValue_164 : decode cX4_nextValue 164 = .ok (.aload_n 0, 1) := dc_of qt_q226_cX4_nextValue 21 rfl
theorem dX4_nextValue_165 : decode cX4_nextValue 165 = .ok (.iload_n 2, 1) := dc_of qt_q226_cX4_nextValue 22 rfl
theorem dX4_nextValue_166 : decode cX4_nextValue 166 = .ok (.invokevirtual 158, 3) := dc_of qt_q226_cX4_nextValue 23 rfl
def ql_q227_cX4_nextValue : List (Nat × Jvm.ClassFile.Instr × Nat) := [(169, .iconst 0, 1), (170, .ireturn, 1), (171, .aload_n 0, 1), (172, .lload 4, 2), (174, .aload_n 0, 1), (175, .getfield 176, 3), (178, .i2l, 1), (179, .lcmp, 1), (180, .ifCond .ne 12, 3), (183, .aload_n 0, 1), (184, .getfield 176, 3), (187, .iconst 1, 1), (188, .iadd, 1), (189, .goto 7, 3), (192, .aload_n 0, 1), (193, .getfield 176, 3), (196, .putfield 176, 3), (199, .ldc2_w 182, 3), (202, .lload 4, 2), (204, .lconst 1, 1), (205, .ladd, 1), (206, .lmul, 1), (207, .l2i, 1), (208, .ireturn, 1)]
theorem qt_q227_cX4_nextValue : dcAll cX4_nextValue ql_q227_cX4_nextValue = true := by decide +kernel
theorem dX4_nextValue_169 : decode cX4_nextValue 169 = .ok (.iconst 0, 1) := dc_of qt_q227_cX4_nextValue 0 rfl
theorem dX4_nextValue_170 : decode cX4_nextValue 170 = .ok (.ireturn, 1) := dc_of qt_q227_cX4_nextValue 1 rfl
theorem dX4_nextValue_171 : decode cX4_nextValue 171 = .ok (.aload_n 0, 1) := dc_of qt_q227_cX4_nextValue 2 rfl
theorem dX4_nextValue_172 : decode cX4_nextValue 172 = .ok (.lload 4, 2) := dc_of qt_q227_cX4_nextValue 3 rfl
theorem dX4_nextValue_174 : decode cX4_nextValue 174 = .ok (.aload_n 0, 1) := dc_of qt_q227_cX4_nextValue 4 rfl
theorem dX4_nextValue_175 : decode cX4_nextValue 175 = .ok (.getfield 176, 3) := dc_of qt_q227_cX4_nextValue 5 rfl
theorem dX4_nextValue_178 : decode cX4_nextValue 178 = .ok (.i2l, 1) := dc_of qt_q227_cX4_nextValue 6 rfl
theorem dX4_nextValue_179 : decode cX4_nextValue 179 = .ok (.lcmp, 1) := dc_of qt_q227_cX4_nextValue 7 rfl
theorem dX4_nextValue_180 : decode cX4_nextValue 180 = .ok (.ifCond .ne 12, 3) := dc_of qt_q227_cX4_nextValue 8 rfl
theorem dX4_nextValue_183 : decode cX4_nextValue 183 = .ok (.aload_n 0, 1) := dc_of qt_q227_cX4_nextValue 9 rfl
theorem dX4_nextValue_184 : decode cX4_nextValue 184 = .ok (.getfield 176, 3) := dc_of qt_q227_cX4_nextValue 10 rfl
theorem dX4_nextValue_187 : decode cX4_nextValue 187 = .ok (.iconst 1, 1) := dc_of qt_q227_cX4_nextValue 11 rfl
theorem dX4_nextValue_188 : decode cX4_nextValue 188 = .ok (.iadd, 1) := dc_of qt_q227_cX4_nextValue 12 rfl
theorem dX4_nextValue_189 : decode cX4_nextValue 189 = .ok (.goto 7, 3) := dc_of qt_q227_cX4_nextValue 13 rfl
theorem dX4_nextValue_192 : decode cX4_nextValue 192 = .ok (.aload_n 0, 1) := dc_of qt_q227_cX4_nextValue 14 rfl
theorem dX4_nextValue_193 : decode cX4_nextValue 193 = .ok (.getfield 176, 3) := dc_of qt_q227_cX4_nextValue 15 rfl
theorem dX4_nextValue_196 : decode cX4_nextValue 196 = .ok (.putfield 176, 3) := dc_of qt_q227_cX4_nextValue 16 rfl
theorem dX4_nextValue_199 : decode cX4_nextValue 199 = .ok (.ldc2_w 182, 3) := dc_of qt_q227_cX4_nextValue 17 rfl
theorem dX4_nextValue_202 : decode cX4_nextValue 202 = .ok (.lload 4, 2) := dc_of qt_q227_cX4_nextValue 18 rfl
theorem dX4_nextValue_204 : decode cX4_nextValue 204 = .ok (.lconst 1, 1) := dc_of qt_q227_cX4_nextValue 19 rfl
theorem dX4_nextValue_205 : decode cX4_nextValue 205 = .ok (.ladd, 1) := dc_of qt_q227_cX4_nextValue 20 rfl
theorem dX4_nextValue_206 : decode cX4_nextValue 206 = .ok (.lmul, 1) := dc_of qt_q227_cX4_nextValue 21 rfl
theorem dX4_nextValue_207 : decode cX4_nextValue 207 = .ok (.l2i, 1) := dc_of qt_q227_cX4_nextValue 22 rfl
theorem dX4_nextValue_208 : decode cX4_nextValue 208 = .ok (.ireturn, 1) := dc_of qt_q227_cX4_nextValue 23 rfl
set_option maxRecDepth 20000 in
theorem ggX4_readAll_X4_nextByte : GoodIn wsX4_readAll wsX4_nextByte := goodIn_r _ [14, 2, 1, 9, 8, 15, 16, 17, 13, 18, 47, 48, 49, 50, 51, 52, 53, 54, 55, 56, 57, 58, 59, 60, 61, 62, 63, 64, 65, 66, 67, 68, 69] rfl (by decide +kernel)
set_option maxRecDepth 20000 in
theorem ggX4_readAll_X4_stop : GoodIn wsX4_readAll wsX4_stop := goodIn_r _ [18, 2, 47, 48, 49, 50, 51, 52, 53, 54, 55, 56, 57, 58, 59, 60, 61, 62, 63, 64, 65, 66, 67, 68, 69] rfl (by decide +kernel)
set_option maxRecDepth 20000 in
theorem ggX4_readAll_X4_nextCount : GoodIn wsX4_readAll wsX4_nextCount := goodIn_r _ [22, 1, 5, 2, 23, 24, 10, 11, 12, 13, 14, 9, 8, 15, 16, 17, 18, 47, 48, 49, 50, 51, 52, 53, 54, 55, 56, 57, 58, 59, 60, 61, 62, 63, 64, 65, 66, 67, 68, 69] rfl (by decide +kernel)
set_option maxRecDepth 20000 in
theorem ggX4_readAll_X4_nextValue : GoodIn wsX4_readAll wsX4_nextValue := goodIn_r _ [28, 2, 5, 29, 30, 31, 32, 3, 4, 33, 19, 20, 21, 13, 22, 1, 23, 24, 10, 11, 12, 14, 9, 8, 15, 16, 17, 18, 47, 48, 49, 50, 51, 52, 53, 54, 55, 56, 57, 58, 59, 60, 61, 62, 63, 64, 65, 66, 67, 68, 69] rfl (by decide +kernel)
set_option maxRecDepth 20000 in
theorem ggX4_readAll_X4_readObject : GoodIn wsX4_readAll wsX4_readObject := goodIn_r _ [37, 1, 2, 3, 38, 39, 10, 11, 12, 13, 14, 9, 8, 15, 16, 17, 18, 40, 41, 42, 25, 26, 27, 28, 5, 29, 30, 31, 32, 4, 33, 19, 20, 21, 22, 23, 24, 47, 48, 49, 50, 51, 52, 53, 54, 55, 56, 57, 58, 59, 60, 61, 62, 63, 64, 65, 66, 67, 68, 69] rfl (by decide +kernel)
set_option maxRecDepth 20000 in
theorem ggX4_readAll_X4_sumOf : GoodIn wsX4_readAll wsX4_sumOf := goodIn_r _ [45, 46] rfl (by decide +kernel)
def ql_q228_cX4_readAll : List (Nat × Jvm.ClassFile.Instr × Nat) := [(0, .aload_n 0, 1), (1, .iconst 0, 1), (2, .putfield 155, 3), (5, .aload_n 0, 1), (6, .iconst (-1), 1), (7, .putfield 152, 3), (10, .aload_n 0, 1), (11, .iconst 0, 1), (12, .putfield 176, 3), (15, .aload_n 0, 1), (16, .iconst 0, 1), (17, .putfield 179, 3), (20, .iconst 0, 1), (21, .istore_n 1, 1), (22, .iload_n 1, 1), (23, .iconst 3, 1), (24, .if_icmp .ge 50, 3), (27, .aload_n 0, 1), (28, .invokevirtual 165, 3), (31, .istore_n 2, 1), (32, .aload_n 0, 1), (33, .getfield 152, 3), (36, .ifCond .ge 32, 3), (39, .iload_n 2, 1)]
theorem qt_q228_cX4_readAll : dcAll cX4_readAll ql_q228_cX4_readAll = true := by decide +kernel
theorem dX4_readAll_0 : decode cX4_readAll 0 = .ok (.aload_n 0, 1) := dc_of qt_q228_cX4_readAll 0 rfl
theorem dX4_readAll_1 : decode cX4_readAll 1 = .ok (.iconst 0, 1) := dc_of qt_q228_cX4_readAll 1 rfl
theorem dX4_readAll_2 : decode cX4_readAll 2 = .ok (.putfield 155, 3) := dc_of qt_q228_cX4_readAll 2 rfl
