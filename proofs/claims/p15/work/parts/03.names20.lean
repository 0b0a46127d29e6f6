theorem dX4_readObject_231 : decode cX4_readObject 231 = .ok (.iconst (-1), 1) := dc_of qt_q240_cX4_readObject 6 rfl
theorem dX4_readObject_232 : decode cX4_readObject 232 = .ok (.invokevirtual 186, 3) := dc_of qt_q240_cX4_readObject 7 rfl
theorem dX4_readObject_235 : decode cX4_readObject 235 = .ok (.iastore, 1) := dc_of qt_q240_cX4_readObject 8 rfl
theorem dX4_readObject_236 : decode cX4_readObject 236 = .ok (.iinc 7 1, 3) := dc_of qt_q240_cX4_readObject 9 rfl
theorem dX4_readObject_239 : decode cX4_readObject 239 = .ok (.goto (-104), 3) := dc_of qt_q240_cX4_readObject 10 rfl
theorem dX4_readObject_242 : decode cX4_readObject 242 = .ok (.iload_n 2, 1) := dc_of qt_q240_cX4_readObject 11 rfl
theorem dX4_readObject_243 : decode cX4_readObject 243 = .ok (.iconst 1, 1) := dc_of qt_q240_cX4_readObject 12 rfl
theorem dX4_readObject_244 : decode cX4_readObject 244 = .ok (.iadd, 1) := dc_of qt_q240_cX4_readObject 13 rfl
theorem dX4_readObject_245 : decode cX4_readObject 245 = .ok (.iload 6, 2) := dc_of qt_q240_cX4_readObject 14 rfl
theorem dX4_readObject_247 : decode cX4_readObject 247 = .ok (.iadd, 1) := dc_of qt_q240_cX4_readObject 15 rfl
theorem dX4_readObject_248 : decode cX4_readObject 248 = .ok (.ireturn, 1) := dc_of qt_q240_cX4_readObject 16 rfl
set_option maxRecDepth 20000 in
theorem ggX4_placed_X4_isNumber : GoodIn wsX4_placed wsX4_isNumber := goodIn_r _ [5] rfl (by decide +kernel)
def ql_q241_cX4_placed : List (Nat × Jvm.ClassFile.Instr × Nat) := [(0, .iload_n 1, 1), (1, .invokestatic 81, 3), (4, .ifCond .ne 7, 3), (7, .iload_n 1, 1), (8, .ifCond .ne 7, 3), (11, .iload_n 1, 1), (12, .goto 18, 3), (15, .iload_n 2, 1), (16, .iconst 4, 1), (17, .aload_n 0, 1), (18, .getfield 43, 3), (21, .iload_n 1, 1), (22, .bipush (-2), 2), (24, .idiv, 1), (25, .iconst 1, 1), (26, .isub, 1), (27, .iaload, 1), (28, .imul, 1), (29, .iadd, 1), (30, .ireturn, 1)]
theorem qt_q241_cX4_placed : dcAll cX4_placed ql_q241_cX4_placed = true := by decide +kernel
theorem dX4_placed_0 : decode cX4_placed 0 = .ok (.iload_n 1, 1) := dc_of qt_q241_cX4_placed 0 rfl
theorem dX4_placed_1 : decode cX4_placed 1 = .ok (.invokestatic 81, 3) := dc_of qt_q241_cX4_placed 1 rfl
theorem dX4_placed_4 : decode cX4_placed 4 = .ok (.ifCond .ne 7, 3) := dc_of qt_q241_cX4_placed 2 rfl
theorem dX4_placed_7 : decode cX4_placed 7 = .ok (.iload_n 1, 1) := dc_of qt_q241_cX4_placed 3 rfl
theorem dX4_placed_8 : decode cX4_placed 8 = .ok (.ifCond .ne 7, 3) := dc_of qt_q241_cX4_placed 4 rfl
theorem dX4_placed_11 : decode cX4_placed 11 = .ok (.iload_n 1, 1) := dc_of qt_q241_cX4_placed 5 rfl
theorem dX4_placed_12 : decode cX4_placed 12 = .ok (.goto 18, 3) := dc_of qt_q241_cX4_placed 6 rfl
theorem dX4_placed_15 : decode cX4_placed 15 = .ok (.iload_n 2, 1) := dc_of qt_q241_cX4_placed 7 rfl
theorem dX4_placed_16 : decode cX4_placed 16 = .ok (.iconst 4, 1) := dc_of qt_q241_cX4_placed 8 rfl
theorem dX4_placed_17 : decode cX4_placed 17 = .ok (.aload_n 0, 1) := dc_of qt_q241_cX4_placed 9 rfl
theorem dX4_placed_18 : decode cX4_placed 18 = .ok (.getfield 43, 3) := dc_of qt_q241_cX4_placed 10 rfl
theorem dX4_placed_21 : decode cX4_placed 21 = .ok (.iload_n 1, 1) := dc_of qt_q241_cX4_placed 11 rfl
theorem dX4_placed_22 : decode cX4_placed 22 = .ok (.bipush (-2), 2) := dc_of qt_q241_cX4_placed 12 rfl
theorem dX4_placed_24 : decode cX4_placed 24 = .ok (.idiv, 1) := dc_of qt_q241_cX4_placed 13 rfl
theorem dX4_placed_25 : decode cX4_placed 25 = .ok (.iconst 1, 1) := dc_of qt_q241_cX4_placed 14 rfl
theorem dX4_placed_26 : decode cX4_placed 26 = .ok (.isub, 1) := dc_of qt_q241_cX4_placed 15 rfl
theorem dX4_placed_27 : decode cX4_placed 27 = .ok (.iaload, 1) := dc_of qt_q241_cX4_placed 16 rfl
theorem dX4_placed_28 : decode cX4_placed 28 = .ok (.imul, 1) := dc_of qt_q241_cX4_placed 17 rfl
theorem dX4_placed_29 : decode cX4_placed 29 = .ok (.iadd, 1) := dc_of qt_q241_cX4_placed 18 rfl
theorem dX4_placed_30 : decode cX4_placed 30 = .ok (.ireturn, 1) := dc_of qt_q241_cX4_placed 19 rfl
set_option maxRecDepth 20000 in
theorem ggX4_restore_X4_isHeap : GoodIn wsX4_restore wsX4_isHeap := goodIn_r _ [15] rfl (by decide +kernel)
set_option maxRecDepth 20000 in
theorem ggX4_restore_X4_isBase : GoodIn wsX4_restore wsX4_isBase := goodIn_r _ [18, 19] rfl (by decide +kernel)
set_option maxRecDepth 20000 in
theorem ggX4_restore_X4_readAll : GoodIn wsX4_restore wsX4_readAll := goodIn_r _ [23, 5, 3, 24, 11, 25, 26, 10, 27, 2, 28, 29, 30, 14, 31, 32, 33, 34, 35, 36, 37, 38, 39, 40, 41, 42, 43, 44, 45, 46, 47, 48, 49, 50, 51, 52, 53, 54, 55, 8, 56, 57, 58, 59, 60, 61, 62, 78, 79, 80, 81, 82, 83, 84, 85, 86, 87, 88, 89, 90, 91, 92, 93, 94, 95, 96, 97, 98, 99, 100] rfl (by decide +kernel)
set_option maxRecDepth 20000 in
theorem ggX4_restore_X4_kindAt : GoodIn wsX4_restore wsX4_kindAt := goodIn_r _ [66, 7, 78, 79, 80, 81, 82, 83, 84, 85, 86, 87, 88, 89, 90, 91, 92, 93, 94, 95, 96, 97, 98, 99, 100] rfl (by decide +kernel)
set_option maxRecDepth 20000 in
theorem ggX4_restore_X4_slotsAt : GoodIn wsX4_restore wsX4_slotsAt := goodIn_r _ [70, 7, 78, 79, 80, 81, 82, 83, 84, 85, 86, 87, 88, 89, 90, 91, 92, 93, 94, 95, 96, 97, 98, 99, 100] rfl (by decide +kernel)
set_option maxRecDepth 20000 in
theorem ggX4_restore_X4_placed : GoodIn wsX4_restore wsX4_placed := goodIn_r _ [74, 55, 75, 76, 14, 77, 78, 79, 80, 81, 82, 83, 84, 85, 86, 87, 88, 89, 90, 91, 92, 93, 94, 95, 96, 97, 98, 99, 100] rfl (by decide +kernel)
def ql_q242_cX4_restore : List (Nat × Jvm.ClassFile.Instr × Nat) := [(0, .aload_n 0, 1), (1, .iload_n 1, 1), (2, .invokestatic 65, 3), (5, .ifCond .ne 7, 3), (8, .iconst 1, 1), (9, .goto 15, 3), (12, .iload_n 2, 1), (13, .invokestatic 98, 3), (16, .ifCond .ne 7, 3), (19, .iconst 2, 1), (20, .goto 4, 3), (23, .iconst 0, 1), (24, .putfield 49, 3), (27, .aload_n 0, 1), (28, .getfield 49, 3), (31, .ifCond .le 5, 3), (34, .iconst 0, 1), (35, .ireturn, 1), (36, .aload_n 0, 1), (37, .invokevirtual 192, 3), (40, .aload_n 0, 1), (41, .iconst 0, 1), (42, .putfield 149, 3), (45, .aload_n 0, 1)]
theorem qt_q242_cX4_restore : dcAll cX4_restore ql_q242_cX4_restore = true := by decide +kernel
theorem dX4_restore_0 : decode cX4_restore 0 = .ok (.aload_n 0, 1) := dc_of qt_q242_cX4_restore 0 rfl
theorem dX4_restore_1 : decode cX4_restore 1 = .ok (.iload_n 1, 1) := dc_of qt_q242_cX4_restore 1 rfl
theorem dX4_restore_2 : decode cX4_restore 2 = .ok (.invokestatic 65, 3) := dc_of qt_q242_cX4_restore 2 rfl
theorem dX4_restore_5 : decode cX4_restore 5 = .ok (.ifCond .ne 7, 3) := dc_of qt_q242_cX4_restore 3 rfl
theorem dX4_restore_8 : decode cX4_restore 8 = .ok (.iconst 1, 1) := dc_of qt_q242_cX4_restore 4 rfl
theorem dX4_restore_9 : decode cX4_restore 9 = .ok (.goto 15, 3) := dc_of qt_q242_cX4_restore 5 rfl
theorem dX4_restore_12 : decode cX4_restore 12 = .ok (.iload_n 2, 1) := dc_of qt_q242_cX4_restore 6 rfl
theorem dX4_restore_13 : decode cX4_restore 13 = .ok (.invokestatic 98, 3) := dc_of qt_q242_cX4_restore 7 rfl
theorem dX4_restore_16 : decode cX4_restore 16 = .ok (.ifCond .ne 7, 3) := dc_of qt_q242_cX4_restore 8 rfl
theorem dX4_restore_19 : decode cX4_restore 19 = .ok (.iconst 2, 1) := dc_of qt_q242_cX4_restore 9 rfl
theorem dX4_restore_20 : decode cX4_restore 20 = .ok (.goto 4, 3) := dc_of qt_q242_cX4_restore 10 rfl
theorem dX4_restore_23 : decode cX4_restore 23 = .ok (.iconst 0, 1) := dc_of qt_q242_cX4_restore 11 rfl
theorem dX4_restore_24 : decode cX4_restore 24 = .ok (.putfield 49, 3) := dc_of qt_q242_cX4_restore 12 rfl
theorem dX4_restore_27 : decode cX4_restore 27 = .ok (.aload_n 0, 1) := dc_of qt_q242_cX4_restore 13 rfl
theorem dX4_restore_28 : decode cX4_restore 28 = .ok (.getfield 49, 3) := dc_of qt_q242_cX4_restore 14 rfl
theorem dX4_restore_31 : decode cX4_restore 31 = .ok (.ifCond .le 5, 3) := dc_of qt_q242_cX4_restore 15 rfl
theorem dX4_restore_34 : decode cX4_restore 34 = .ok (.iconst 0, 1) := dc_of qt_q242_cX4_restore 16 rfl
theorem dX4_restore_35 : decode cX4_restore 35 = .ok (.ireturn, 1) := dc_of qt_q242_cX4_restore 17 rfl
theorem dX4_restore_36 : decode cX4_restore 36 = .ok (.aload_n 0, 1) := dc_of qt_q242_cX4_restore 18 rfl
theorem dX4_restore_37 : decode cX4_restore 37 = .ok (.invokevirtual 192, 3) := dc_of qt_q242_cX4_restore 19 rfl
theorem dX4_restore_40 : decode cX4_restore 40 = .ok (.aload_n 0, 1) := dc_of qt_q242_cX4_restore 20 rfl
theorem dX4_restore_41 : decode cX4_restore 41 = .ok (.iconst 0, 1) := dc_of qt_q242_cX4_restore 21 rfl
theorem dX4_restore_42 : decode cX4_restore 42 = .ok (.putfield 149, 3) := dc_of qt_q242_cX4_restore 22 rfl
theorem dX4_restore_45 : decode cX4_restore 45 = .ok (.aload_n 0, 1) := dc_of qt_q242_cX4_restore 23 rfl
def ql_q243_cX4_restore : List (Nat × Jvm.ClassFile.Instr × Nat) := [(46, .getfield 152, 3), (49, .ifCond .lt 10, 3), (52, .iconst (-1), 1), (53, .aload_n 0, 1), (54, .getfield 152, 3), (57, .isub, 1), (58, .ireturn, 1), (59, .aload_n 0, 1), (60, .getfield 13, 3), (63, .iload_n 1, 1), (64, .aload_n 0, 1), (65, .getfield 155, 3), (68, .iastore, 1), (69, .aload_n 0, 1), (70, .getfield 7, 3), (73, .iload_n 1, 1), (74, .iload_n 2, 1), (75, .iastore, 1), (76, .iconst 0, 1), (77, .istore_n 3, 1), (78, .iconst 0, 1), (79, .istore 4, 2), (81, .iload 4, 2), (83, .sipush 256, 3)]
theorem qt_q243_cX4_restore : dcAll cX4_restore ql_q243_cX4_restore = true := by decide +kernel
theorem dX4_restore_46 : decode cX4_restore 46 = .ok (.getfield 152, 3) := dc_of qt_q243_cX4_restore 0 rfl
theorem dX4_restore_49 : decode cX4_restore 49 = .ok (.ifCond .lt 10, 3) := dc_of qt_q243_cX4_restore 1 rfl
theorem dX4_restore_52 : decode cX4_restore 52 = .ok (.iconst (-1), 1) := dc_of qt_q243_cX4_restore 2 rfl
theorem dX4_restore_53 : decode cX4_restore 53 = .ok (.aload_n 0, 1) := dc_of qt_q243_cX4_restore 3 rfl
theorem dX4_restore_54 : decode cX4_restore 54 = .ok (.getfield 152, 3) := dc_of qt_q243_cX4_restore 4 rfl
theorem dX4_restore_57 : decode cX4_restore 57 = .ok (.isub, 1) := dc_of qt_q243_cX4_restore 5 rfl
theorem dX4_restore_58 : decode cX4_restore 58 = .ok (.ireturn, 1) := dc_of qt_q243_cX4_restore 6 rfl
theorem dX4_restore_59 : decode cX4_restore 59 = .ok (.aload_n 0, 1) := dc_of qt_q243_cX4_restore 7 rfl
theorem dX4_restore_60 : decode cX4_restore 60 = .ok (.getfield 13, 3) := dc_of qt_q243_cX4_restore 8 rfl
theorem dX4_restore_63 : decode cX4_restore 63 = .ok (.iload_n 1, 1) := dc_of qt_q243_cX4_restore 9 rfl
theorem dX4_restore_64 : decode cX4_restore 64 = .ok (.aload_n 0, 1) := dc_of qt_q243_cX4_restore 10 rfl
theorem dX4_restore_65 : decode cX4_restore 65 = .ok (.getfield 155, 3) := dc_of qt_q243_cX4_restore 11 rfl
theorem dX4_restore_68 : decode cX4_restore 68 = .ok (.iastore, 1) := dc_of qt_q243_cX4_restore 12 rfl
theorem dX4_restore_69 : decode cX4_restore 69 = .ok (.aload_n 0, 1) := dc_of qt_q243_cX4_restore 13 rfl
theorem dX4_restore_70 : decode cX4_restore 70 = .ok (.getfield 7, 3) := dc_of qt_q243_cX4_restore 14 rfl
theorem dX4_restore_73 : decode cX4_restore 73 = .ok (.iload_n 1, 1) := dc_of qt_q243_cX4_restore 15 rfl
theorem dX4_restore_74 : decode cX4_restore 74 = .ok (.iload_n 2, 1) := dc_of qt_q243_cX4_restore 16 rfl
theorem dX4_restore_75 : decode cX4_restore 75 = .ok (.iastore, 1) := dc_of qt_q243_cX4_restore 17 rfl
theorem dX4_restore_76 : decode cX4_restore 76 = .ok (.iconst 0, 1) := dc_of qt_q243_cX4_restore 18 rfl
theorem dX4_restore_77 : decode cX4_restore 77 = .ok (.istore_n 3, 1) := dc_of qt_q243_cX4_restore 19 rfl
theorem dX4_restore_78 : decode cX4_restore 78 = .ok (.iconst 0, 1) := dc_of qt_q243_cX4_restore 20 rfl
theorem dX4_restore_79 : decode cX4_restore 79 = .ok (.istore 4, 2) := dc_of qt_q243_cX4_restore 21 rfl
theorem dX4_restore_81 : decode cX4_restore 81 = .ok (.iload 4, 2) := dc_of qt_q243_cX4_restore 22 rfl
theorem dX4_restore_83 : decode cX4_restore 83 = .ok (.sipush 256, 3) := dc_of qt_q243_cX4_restore 23 rfl
def ql_q244_cX4_restore : List (Nat × Jvm.ClassFile.Instr × Nat) := [(86, .if_icmp .ge 42, 3), (89, .aload_n 0, 1), (90, .getfield 16, 3), (93, .sipush 256, 3), (96, .iload_n 1, 1), (97, .imul, 1), (98, .iload 4, 2), (100, .iadd, 1), (101, .iload 4, 2), (103, .aload_n 0, 1), (104, .getfield 155, 3), (107, .if_icmp .ge 13, 3), (110, .aload_n 0, 1), (111, .getfield 37, 3), (114, .iload 4, 2), (116, .iaload, 1), (117, .goto 4, 3), (120, .iconst 0, 1), (121, .iastore, 1), (122, .iinc 4 1, 3), (125, .goto (-44), 3), (128, .iload_n 3, 1), (129, .aload_n 0, 1), (130, .getfield 155, 3)]
theorem qt_q244_cX4_restore : dcAll cX4_restore ql_q244_cX4_restore = true := by decide +kernel
theorem dX4_restore_86 : decode cX4_restore 86 = .ok (.if_icmp .ge 42, 3) := dc_of qt_q244_cX4_restore 0 rfl
theorem dX4_restore_89 : decode cX4_restore 89 = .ok (.aload_n 0, 1) := dc_of qt_q244_cX4_restore 1 rfl
theorem dX4_restore_90 : decode cX4_restore 90 = .ok (.getfield 16, 3) := dc_of qt_q244_cX4_restore 2 rfl
theorem dX4_restore_93 : decode cX4_restore 93 = .ok (.sipush 256, 3) := dc_of qt_q244_cX4_restore 3 rfl
theorem dX4_restore_96 : decode cX4_restore 96 = .ok (.iload_n 1, 1) := dc_of qt_q244_cX4_restore 4 rfl
theorem dX4_restore_97 : decode cX4_restore 97 = .ok (.imul, 1) := dc_of qt_q244_cX4_restore 5 rfl
theorem dX4_restore_98 : decode cX4_restore 98 = .ok (.iload 4, 2) := dc_of qt_q244_cX4_restore 6 rfl
theorem dX4_restore_100 : decode cX4_restore 100 = .ok (.iadd, 1) := dc_of qt_q244_cX4_restore 7 rfl
theorem dX4_restore_101 : decode cX4_restore 101 = .ok (.iload 4, 2) := dc_of qt_q244_cX4_restore 8 rfl
theorem dX4_restore_103 : decode cX4_restore 103 = .ok (.aload_n 0, 1) := dc_of qt_q244_cX4_restore 9 rfl
theorem dX4_restore_104 : decode cX4_restore 104 = .ok (.getfield 155, 3) := dc_of qt_q244_cX4_restore 10 rfl
theorem dX4_restore_107 : decode cX4_restore 107 = .ok (.if_icmp .ge 13, 3) := dc_of qt_q244_cX4_restore 11 rfl
theorem dX4_restore_110 : decode cX4_restore 110 = .ok (.aload_n 0, 1) := dc_of qt_q244_cX4_restore 12 rfl
theorem dX4_restore_111 : decode cX4_restore 111 = .ok (.getfield 37, 3) := dc_of qt_q244_cX4_restore 13 rfl
theorem dX4_restore_114 : decode cX4_restore 114 = .ok (.iload 4, 2) := dc_of qt_q244_cX4_restore 14 rfl
theorem dX4_restore_116 : decode cX4_restore 116 = .ok (.iaload, 1) := dc_of qt_q244_cX4_restore 15 rfl
theorem dX4_restore_117 : decode cX4_restore 117 = .ok (.goto 4, 3) := dc_of qt_q244_cX4_restore 16 rfl
theorem dX4_restore_120 : decode cX4_restore 120 = .ok (.iconst 0, 1) := dc_of qt_q244_cX4_restore 17 rfl
theorem dX4_restore_121 : decode cX4_restore 121 = .ok (.iastore, 1) := dc_of qt_q244_cX4_restore 18 rfl
theorem dX4_restore_122 : decode cX4_restore 122 = .ok (.iinc 4 1, 3) := dc_of qt_q244_cX4_restore 19 rfl
theorem dX4_restore_125 : decode cX4_restore 125 = .ok (.goto (-44), 3) := dc_of qt_q244_cX4_restore 20 rfl
theorem dX4_restore_128 : decode cX4_restore 128 = .ok (.iload_n 3, 1) := dc_of qt_q244_cX4_restore 21 rfl
theorem dX4_restore_129 : decode cX4_restore 129 = .ok (.aload_n 0, 1) := dc_of qt_q244_cX4_restore 22 rfl
theorem dX4_restore_130 : decode cX4_restore 130 = .ok (.getfield 155, 3) := dc_of qt_q244_cX4_restore 23 rfl
def ql_q245_cX4_restore : List (Nat × Jvm.ClassFile.Instr × Nat) := [(133, .if_icmp .ge 86, 3), (136, .aload_n 0, 1), (137, .iload_n 1, 1), (138, .iload_n 3, 1), (139, .invokevirtual 87, 3), (142, .istore 4, 2), (144, .aload_n 0, 1), (145, .iload_n 1, 1), (146, .iload_n 3, 1), (147, .invokevirtual 71, 3), (150, .istore 5, 2), (152, .iconst 1, 1), (153, .istore 6, 2), (155, .iload 6, 2), (157, .iload 5, 2), (159, .if_icmp .gt 50, 3), (162, .iload 4, 2), (164, .iconst 2, 1), (165, .if_icmp .eq 44, 3), (168, .aload_n 0, 1), (169, .getfield 16, 3), (172, .sipush 256, 3), (175, .iload_n 1, 1), (176, .imul, 1)]
theorem qt_q245_cX4_restore : dcAll cX4_restore ql_q245_cX4_restore = true := by decide +kernel
theorem dX4_restore_133 : decode cX4_restore 133 = .ok (.if_icmp .ge 86, 3) := dc_of qt_q245_cX4_restore 0 rfl
theorem dX4_restore_136 : decode cX4_restore 136 = .ok (.aload_n 0, 1) := dc_of qt_q245_cX4_restore 1 rfl
theorem dX4_restore_137 : decode cX4_restore 137 = .ok (.iload_n 1, 1) := dc_of qt_q245_cX4_restore 2 rfl
theorem dX4_restore_138 : decode cX4_restore 138 = .ok (.iload_n 3, 1) := dc_of qt_q245_cX4_restore 3 rfl
theorem dX4_restore_139 : decode cX4_restore 139 = .ok (.invokevirtual 87, 3) := dc_of qt_q245_cX4_restore 4 rfl
theorem dX4_restore_142 : decode cX4_restore 142 = .ok (.istore 4, 2) := dc_of qt_q245_cX4_restore 5 rfl
theorem dX4_restore_144 : decode cX4_restore 144 = .ok (.aload_n 0, 1) := dc_of qt_q245_cX4_restore 6 rfl
theorem dX4_restore_145 : decode cX4_restore 145 = .ok (.iload_n 1, 1) := dc_of qt_q245_cX4_restore 7 rfl
theorem dX4_restore_146 : decode cX4_restore 146 = .ok (.iload_n 3, 1) := dc_of qt_q245_cX4_restore 8 rfl
theorem dX4_restore_147 : decode cX4_restore 147 = .ok (.invokevirtual 71, 3) := dc_of qt_q245_cX4_restore 9 rfl
theorem dX4_restore_150 : decode cX4_restore 150 = .ok (.istore 5, 2) := dc_of qt_q245_cX4_restore 10 rfl
theorem dX4_restore_152 : decode cX4_restore 152 = .ok (.iconst 1, 1) := dc_of qt_q245_cX4_restore 11 rfl
theorem dX4_restore_153 : decode cX4_restore 153 = .ok (.istore 6, 2) := dc_of qt_q245_cX4_restore 12 rfl
theorem dX4_restore_155 : decode cX4_restore 155 = .ok (.iload 6, 2) := dc_of qt_q245_cX4_restore 13 rfl
theorem dX4_restore_157 : decode cX4_restore 157 = .ok (.iload 5, 2) := dc_of qt_q245_cX4_restore 14 rfl
theorem dX4_restore_159 : decode cX4_restore 159 = .ok (.if_icmp .gt 50, 3) := dc_of qt_q245_cX4_restore 15 rfl
theorem dX4_restore_162 : decode cX4_restore 162 = .ok (.iload 4, 2) := dc_of qt_q245_cX4_restore 16 rfl
theorem dX4_restore_164 : decode cX4_restore 164 = .ok (.iconst 2, 1) := dc_of qt_q245_cX4_restore 17 rfl
theorem dX4_restore_165 : decode cX4_restore 165 = .ok (.if_icmp .eq 44, 3) := dc_of qt_q245_cX4_restore 18 rfl
theorem dX4_restore_168 : decode cX4_restore 168 = .ok (.aload_n 0, 1) := dc_of qt_q245_cX4_restore 19 rfl
theorem dX4_restore_169 : decode cX4_restore 169 = .ok (.getfield 16, 3) := dc_of qt_q245_cX4_restore 20 rfl
theorem dX4_restore_172 : decode cX4_restore 172 = .ok (.sipush 256, 3) := dc_of qt_q245_cX4_restore 21 rfl
theorem dX4_restore_175 : decode cX4_restore 175 = .ok (.iload_n 1, 1) := dc_of qt_q245_cX4_restore 22 rfl
theorem dX4_restore_176 : decode cX4_restore 176 = .ok (.imul, 1) := dc_of qt_q245_cX4_restore 23 rfl
def ql_q246_cX4_restore : List (Nat × Jvm.ClassFile.Instr × Nat) := [(177, .iload_n 3, 1), (178, .iadd, 1), (179, .iload 6, 2), (181, .iadd, 1), (182, .aload_n 0, 1), (183, .aload_n 0, 1), (184, .getfield 16, 3), (187, .sipush 256, 3), (190, .iload_n 1, 1), (191, .imul, 1), (192, .iload_n 3, 1), (193, .iadd, 1), (194, .iload 6, 2), (196, .iadd, 1), (197, .iaload, 1), (198, .iload_n 2, 1), (199, .invokevirtual 195, 3), (202, .iastore, 1), (203, .iinc 6 1, 3), (206, .goto (-51), 3), (209, .iload_n 3, 1), (210, .iconst 1, 1), (211, .iadd, 1), (212, .iload 5, 2)]
theorem qt_q246_cX4_restore : dcAll cX4_restore ql_q246_cX4_restore = true := by decide +kernel
theorem dX4_restore_177 : decode cX4_restore 177 = .ok (.iload_n 3, 1) := dc_of qt_q246_cX4_restore 0 rfl
theorem dX4_restore_178 : decode cX4_restore 178 = .ok (.iadd, 1) := dc_of qt_q246_cX4_restore 1 rfl
theorem dX4_restore_179 : decode cX4_restore 179 = .ok (.iload 6, 2) := dc_of qt_q246_cX4_restore 2 rfl
theorem dX4_restore_181 : decode cX4_restore 181 = .ok (.iadd, 1) := dc_of qt_q246_cX4_restore 3 rfl
theorem dX4_restore_182 : decode cX4_restore 182 = .ok (.aload_n 0, 1) := dc_of qt_q246_cX4_restore 4 rfl
theorem dX4_restore_183 : decode cX4_restore 183 = .ok (.aload_n 0, 1) := dc_of qt_q246_cX4_restore 5 rfl
theorem dX4_restore_184 : decode cX4_restore 184 = .ok (.getfield 16, 3) := dc_of qt_q246_cX4_restore 6 rfl
theorem dX4_restore_187 : decode cX4_restore 187 = .ok (.sipush 256, 3) := dc_of qt_q246_cX4_restore 7 rfl
theorem dX4_restore_190 : decode cX4_restore 190 = .ok (.iload_n 1, 1) := dc_of qt_q246_cX4_restore 8 rfl
theorem dX4_restore_191 : decode cX4_restore 191 = .ok (.imul, 1) := dc_of qt_q246_cX4_restore 9 rfl
theorem dX4_restore_192 : decode cX4_restore 192 = .ok (.iload_n 3, 1) := dc_of qt_q246_cX4_restore 10 rfl
theorem dX4_restore_193 : decode cX4_restore 193 = .ok (.iadd, 1) := dc_of qt_q246_cX4_restore 11 rfl
theorem dX4_restore_194 : decode cX4_restore 194 = .ok (.iload 6, 2) := dc_of qt_q246_cX4_restore 12 rfl
theorem dX4_restore_196 : decode cX4_restore 196 = .ok (.iadd, 1) := dc_of qt_q246_cX4_restore 13 rfl
theorem dX4_restore_197 : decode cX4_restore 197 = .ok (.iaload, 1) := dc_of qt_q246_cX4_restore 14 rfl
theorem dX4_restore_198 : decode cX4_restore 198 = .ok (.iload_n 2, 1) := dc_of qt_q246_cX4_restore 15 rfl
theorem dX4_restore_199 : decode cX4_restore 199 = .ok (.invokevirtual 195, 3) := dc_of qt_q246_cX4_restore 16 rfl
theorem dX4_restore_202 : decode cX4_restore 202 = .ok (.iastore, 1) := dc_of qt_q246_cX4_restore 17 rfl
theorem dX4_restore_203 : decode cX4_restore 203 = .ok (.iinc 6 1, 3) := dc_of qt_q246_cX4_restore 18 rfl
theorem dX4_restore_206 : decode cX4_restore 206 = .ok (.goto (-51), 3) := dc_of qt_q246_cX4_restore 19 rfl
theorem dX4_restore_209 : decode cX4_restore 209 = .ok (.iload_n 3, 1) := dc_of qt_q246_cX4_restore 20 rfl
theorem dX4_restore_210 : decode cX4_restore 210 = .ok (.iconst 1, 1) := dc_of qt_q246_cX4_restore 21 rfl
theorem dX4_restore_211 : decode cX4_restore 211 = .ok (.iadd, 1) := dc_of qt_q246_cX4_restore 22 rfl
theorem dX4_restore_212 : decode cX4_restore 212 = .ok (.iload 5, 2) := dc_of qt_q246_cX4_restore 23 rfl
def ql_q247_cX4_restore : List (Nat × Jvm.ClassFile.Instr × Nat) := [(214, .iadd, 1), (215, .istore_n 3, 1), (216, .goto (-88), 3), (219, .iconst 0, 1), (220, .istore 4, 2), (222, .iload 4, 2), (224, .iconst 4, 1), (225, .if_icmp .ge 32, 3), (228, .aload_n 0, 1), (229, .getfield 19, 3), (232, .iconst 4, 1), (233, .iload_n 1, 1), (234, .imul, 1), (235, .iload 4, 2), (237, .iadd, 1), (238, .aload_n 0, 1), (239, .aload_n 0, 1), (240, .getfield 40, 3), (243, .iload 4, 2), (245, .iaload, 1), (246, .iload_n 2, 1), (247, .invokevirtual 195, 3), (250, .iastore, 1), (251, .iinc 4 1, 3)]
theorem qt_q247_cX4_restore : dcAll cX4_restore ql_q247_cX4_restore = true := by decide +kernel
theorem dX4_restore_214 : decode cX4_restore 214 = .ok (.iadd, 1) := dc_of qt_q247_cX4_restore 0 rfl
theorem dX4_restore_215 : decode cX4_restore 215 = .ok (.istore_n 3, 1) := dc_of qt_q247_cX4_restore 1 rfl
theorem dX4_restore_216 : decode cX4_restore 216 = .ok (.goto (-88), 3) := dc_of qt_q247_cX4_restore 2 rfl
theorem dX4_restore_219 : decode cX4_restore 219 = .ok (.iconst 0, 1) := dc_of qt_q247_cX4_restore 3 rfl
theorem dX4_restore_220 : decode cX4_restore 220 = .ok (.istore 4, 2) := dc_of qt_q247_cX4_restore 4 rfl
theorem dX4_restore_222 : decode cX4_restore 222 = .ok (.iload 4, 2) := dc_of qt_q247_cX4_restore 5 rfl
theorem dX4_restore_224 : decode cX4_restore 224 = .ok (.iconst 4, 1) := dc_of qt_q247_cX4_restore 6 rfl
theorem dX4_restore_225 : decode cX4_restore 225 = .ok (.if_icmp .ge 32, 3) := dc_of qt_q247_cX4_restore 7 rfl
theorem dX4_restore_228 : decode cX4_restore 228 = .ok (.aload_n 0, 1) := dc_of qt_q247_cX4_restore 8 rfl
theorem dX4_restore_229 : decode cX4_restore 229 = .ok (.getfield 19, 3) := dc_of qt_q247_cX4_restore 9 rfl
theorem dX4_restore_232 : decode cX4_restore 232 = .ok (.iconst 4, 1) := dc_of qt_q247_cX4_restore 10 rfl
theorem dX4_restore_233 : decode cX4_restore 233 = .ok (.iload_n 1, 1) := dc_of qt_q247_cX4_restore 11 rfl
theorem dX4_restore_234 : decode cX4_restore 234 = .ok (.imul, 1) := dc_of qt_q247_cX4_restore 12 rfl
theorem dX4_restore_235 : decode cX4_restore 235 = .ok (.iload 4, 2) := dc_of qt_q247_cX4_restore 13 rfl
theorem dX4_restore_237 : decode cX4_restore 237 = .ok (.iadd, 1) := dc_of qt_q247_cX4_restore 14 rfl
theorem dX4_restore_238 : decode cX4_restore 238 = .ok (.aload_n 0, 1) := dc_of qt_q247_cX4_restore 15 rfl
theorem dX4_restore_239 : decode cX4_restore 239 = .ok (.aload_n 0, 1) := dc_of qt_q247_cX4_restore 16 rfl
theorem dX4_restore_240 : decode cX4_restore 240 = .ok (.getfield 40, 3) := dc_of qt_q247_cX4_restore 17 rfl
theorem dX4_restore_243 : decode cX4_restore 243 = .ok (.iload 4, 2) := dc_of qt_q247_cX4_restore 18 rfl
theorem dX4_restore_245 : decode cX4_restore 245 = .ok (.iaload, 1) := dc_of qt_q247_cX4_restore 19 rfl
theorem dX4_restore_246 : decode cX4_restore 246 = .ok (.iload_n 2, 1) := dc_of qt_q247_cX4_restore 20 rfl
theorem dX4_restore_247 : decode cX4_restore 247 = .ok (.invokevirtual 195, 3) := dc_of qt_q247_cX4_restore 21 rfl
theorem dX4_restore_250 : decode cX4_restore 250 = .ok (.iastore, 1) := dc_of qt_q247_cX4_restore 22 rfl
theorem dX4_restore_251 : decode cX4_restore 251 = .ok (.iinc 4 1, 3) := dc_of qt_q247_cX4_restore 23 rfl
def ql_q248_cX4_restore : List (Nat × Jvm.ClassFile.Instr × Nat) := [(254, .goto (-32), 3), (257, .aload_n 0, 1), (258, .getfield 179, 3), (261, .ireturn, 1)]
theorem qt_q248_cX4_restore : dcAll cX4_restore ql_q248_cX4_restore = true := by decide +kernel
theorem dX4_restore_254 : decode cX4_restore 254 = .ok (.goto (-32), 3) := dc_of qt_q248_cX4_restore 0 rfl
theorem dX4_restore_257 : decode cX4_restore 257 = .ok (.aload_n 0, 1) := dc_of qt_q248_cX4_restore 1 rfl
theorem dX4_restore_258 : decode cX4_restore 258 = .ok (.getfield 179, 3) := dc_of qt_q248_cX4_restore 2 rfl
theorem dX4_restore_261 : decode cX4_restore 261 = .ok (.ireturn, 1) := dc_of qt_q248_cX4_restore 3 rfl
set_option maxRecDepth 20000 in
theorem ggX4_same_X4_firstFault : GoodIn wsX4_same wsX4_firstFault := goodIn_r _ [11, 12, 13, 14, 15, 16, 10, 17, 18, 19, 20, 21, 22, 23, 24, 25, 26, 27, 28, 29, 30, 31, 32, 33, 34, 35, 36, 37, 38, 39, 40, 41, 42, 43, 44, 45, 46, 47, 48, 86, 87, 88, 89, 90, 91, 92, 93, 94, 95, 96, 97, 98, 99, 100, 101, 102, 103, 104, 105, 106, 107, 108] rfl (by decide +kernel)
set_option maxRecDepth 20000 in
theorem ggX4_same_X4_makeImage : GoodIn wsX4_same wsX4_makeImage := goodIn_r _ [52, 2, 53, 14, 54, 13, 4, 55, 56, 57, 10, 58, 59, 60, 61, 62, 63, 48, 37, 38, 39, 25, 26, 27, 28, 29, 30, 31, 32, 64, 65, 66, 67, 68, 69, 70, 71, 72, 73, 74, 75, 76, 77, 78, 79, 80, 81, 82, 83, 84, 85, 86, 87, 88, 89, 90, 91, 92, 93, 94, 95, 96, 97, 98, 99, 100, 101, 102, 103, 104, 105, 106, 107, 108] rfl (by decide +kernel)
def ql_q249_cX4_same : List (Nat × Jvm.ClassFile.Instr × Nat) := [(0, .aload_n 0, 1), (1, .aload_n 0, 1), (2, .iconst 0, 1), (3, .invokevirtual 93, 3), (6, .ifCond .gt 11, 3), (9, .aload_n 0, 1), (10, .iconst 1, 1), (11, .invokevirtual 93, 3), (14, .ifCond .le 7, 3), (17, .iconst 1, 1), (18, .goto 4, 3), (21, .iconst 0, 1), (22, .putfield 49, 3), (25, .aload_n 0, 1), (26, .getfield 49, 3), (29, .iconst 1, 1), (30, .if_icmp .ne 5, 3), (33, .iconst 0, 1), (34, .ireturn, 1), (35, .aload_n 0, 1), (36, .getfield 115, 3), (39, .istore_n 1, 1), (40, .iconst 0, 1), (41, .istore_n 2, 1)]
theorem qt_q249_cX4_same : dcAll cX4_same ql_q249_cX4_same = true := by decide +kernel
theorem dX4_same_0 : decode cX4_same 0 = .ok (.aload_n 0, 1) := dc_of qt_q249_cX4_same 0 rfl
theorem dX4_same_1 : decode cX4_same 1 = .ok (.aload_n 0, 1) := dc_of qt_q249_cX4_same 1 rfl
theorem dX4_same_2 : decode cX4_same 2 = .ok (.iconst 0, 1) := dc_of qt_q249_cX4_same 2 rfl
theorem dX4_same_3 : decode cX4_same 3 = .ok (.invokevirtual 93, 3) := dc_of qt_q249_cX4_same 3 rfl
theorem dX4_same_6 : decode cX4_same 6 = .ok (.ifCond .gt 11, 3) := dc_of qt_q249_cX4_same 4 rfl
theorem dX4_same_9 : decode cX4_same 9 = .ok (.aload_n 0, 1) := dc_of qt_q249_cX4_same 5 rfl
theorem dX4_same_10 : decode cX4_same 10 = .ok (.iconst 1, 1) := dc_of qt_q249_cX4_same 6 rfl
theorem dX4_same_11 : decode cX4_same 11 = .ok (.invokevirtual 93, 3) := dc_of qt_q249_cX4_same 7 rfl
theorem dX4_same_14 : decode cX4_same 14 = .ok (.ifCond .le 7, 3) := dc_of qt_q249_cX4_same 8 rfl
theorem dX4_same_17 : decode cX4_same 17 = .ok (.iconst 1, 1) := dc_of qt_q249_cX4_same 9 rfl
theorem dX4_same_18 : decode cX4_same 18 = .ok (.goto 4, 3) := dc_of qt_q249_cX4_same 10 rfl
theorem dX4_same_21 : decode cX4_same 21 = .ok (.iconst 0, 1) := dc_of qt_q249_cX4_same 11 rfl
theorem dX4_same_22 : decode cX4_same 22 = .ok (.putfield 49, 3) := dc_of qt_q249_cX4_same 12 rfl
theorem dX4_same_25 : decode cX4_same 25 = .ok (.aload_n 0, 1) := dc_of qt_q249_cX4_same 13 rfl
theorem dX4_same_26 : decode cX4_same 26 = .ok (.getfield 49, 3) := dc_of qt_q249_cX4_same 14 rfl
theorem dX4_same_29 : decode cX4_same 29 = .ok (.iconst 1, 1) := dc_of qt_q249_cX4_same 15 rfl
theorem dX4_same_30 : decode cX4_same 30 = .ok (.if_icmp .ne 5, 3) := dc_of qt_q249_cX4_same 16 rfl
theorem dX4_same_33 : decode cX4_same 33 = .ok (.iconst 0, 1) := dc_of qt_q249_cX4_same 17 rfl
theorem dX4_same_34 : decode cX4_same 34 = .ok (.ireturn, 1) := dc_of qt_q249_cX4_same 18 rfl
theorem dX4_same_35 : decode cX4_same 35 = .ok (.aload_n 0, 1) := dc_of qt_q249_cX4_same 19 rfl
theorem dX4_same_36 : decode cX4_same 36 = .ok (.getfield 115, 3) := dc_of qt_q249_cX4_same 20 rfl
theorem dX4_same_39 : decode cX4_same 39 = .ok (.istore_n 1, 1) := dc_of qt_q249_cX4_same 21 rfl
theorem dX4_same_40 : decode cX4_same 40 = .ok (.iconst 0, 1) := dc_of qt_q249_cX4_same 22 rfl
theorem dX4_same_41 : decode cX4_same 41 = .ok (.istore_n 2, 1) := dc_of qt_q249_cX4_same 23 rfl
def ql_q250_cX4_same : List (Nat × Jvm.ClassFile.Instr × Nat) := [(42, .iload_n 2, 1), (43, .iload_n 1, 1), (44, .if_icmp .ge 21, 3), (47, .aload_n 0, 1), (48, .getfield 46, 3), (51, .iload_n 2, 1), (52, .aload_n 0, 1), (53, .getfield 28, 3), (56, .iload_n 2, 1), (57, .iaload, 1), (58, .iastore, 1), (59, .iinc 2 1, 3), (62, .goto (-20), 3), (65, .aload_n 0, 1), (66, .iconst 0, 1), (67, .invokevirtual 146, 3), (70, .aload_n 0, 1), (71, .aload_n 0, 1), (72, .getfield 115, 3), (75, .putfield 198, 3), (78, .iconst 0, 1), (79, .istore_n 2, 1), (80, .iload_n 2, 1), (81, .aload_n 0, 1)]
theorem qt_q250_cX4_same : dcAll cX4_same ql_q250_cX4_same = true := by decide +kernel
theorem dX4_same_42 : decode cX4_same 42 = .ok (.iload_n 2, 1) := dc_of qt_q250_cX4_same 0 rfl
theorem dX4_same_43 : decode cX4_same 43 = .ok (.iload_n 1, 1) := dc_of qt_q250_cX4_same 1 rfl
theorem dX4_same_44 : decode cX4_same 44 = .ok (.if_icmp .ge 21, 3) := dc_of qt_q250_cX4_same 2 rfl
theorem dX4_same_47 : decode cX4_same 47 = .ok (.aload_n 0, 1) := dc_of qt_q250_cX4_same 3 rfl
theorem dX4_same_48 : decode cX4_same 48 = .ok (.getfield 46, 3) := dc_of qt_q250_cX4_same 4 rfl
theorem dX4_same_51 : decode cX4_same 51 = .ok (.iload_n 2, 1) := dc_of qt_q250_cX4_same 5 rfl
theorem dX4_same_52 : decode cX4_same 52 = .ok (.aload_n 0, 1) := dc_of qt_q250_cX4_same 6 rfl
theorem dX4_same_53 : decode cX4_same 53 = .ok (.getfield 28, 3) := dc_of qt_q250_cX4_same 7 rfl
theorem dX4_same_56 : decode cX4_same 56 = .ok (.iload_n 2, 1) := dc_of qt_q250_cX4_same 8 rfl
theorem dX4_same_57 : decode cX4_same 57 = .ok (.iaload, 1) := dc_of qt_q250_cX4_same 9 rfl
theorem dX4_same_58 : decode cX4_same 58 = .ok (.iastore, 1) := dc_of qt_q250_cX4_same 10 rfl
theorem dX4_same_59 : decode cX4_same 59 = .ok (.iinc 2 1, 3) := dc_of qt_q250_cX4_same 11 rfl
theorem dX4_same_62 : decode cX4_same 62 = .ok (.goto (-20), 3) := dc_of qt_q250_cX4_same 12 rfl
theorem dX4_same_65 : decode cX4_same 65 = .ok (.aload_n 0, 1) := dc_of qt_q250_cX4_same 13 rfl
theorem dX4_same_66 : decode cX4_same 66 = .ok (.iconst 0, 1) := dc_of qt_q250_cX4_same 14 rfl
theorem dX4_same_67 : decode cX4_same 67 = .ok (.invokevirtual 146, 3) := dc_of qt_q250_cX4_same 15 rfl
theorem dX4_same_70 : decode cX4_same 70 = .ok (.aload_n 0, 1) := dc_of qt_q250_cX4_same 16 rfl
theorem dX4_same_71 : decode cX4_same 71 = .ok (.aload_n 0, 1) := dc_of qt_q250_cX4_same 17 rfl
theorem dX4_same_72 : decode cX4_same 72 = .ok (.getfield 115, 3) := dc_of qt_q250_cX4_same 18 rfl
theorem dX4_same_75 : decode cX4_same 75 = .ok (.putfield 198, 3) := dc_of qt_q250_cX4_same 19 rfl
theorem dX4_same_78 : decode cX4_same 78 = .ok (.iconst 0, 1) := dc_of qt_q250_cX4_same 20 rfl
theorem dX4_same_79 : decode cX4_same 79 = .ok (.istore_n 2, 1) := dc_of qt_q250_cX4_same 21 rfl
theorem dX4_same_80 : decode cX4_same 80 = .ok (.iload_n 2, 1) := dc_of qt_q250_cX4_same 22 rfl
theorem dX4_same_81 : decode cX4_same 81 = .ok (.aload_n 0, 1) := dc_of qt_q250_cX4_same 23 rfl
def ql_q251_cX4_same : List (Nat × Jvm.ClassFile.Instr × Nat) := [(82, .getfield 115, 3), (85, .if_icmp .ge 21, 3), (88, .aload_n 0, 1), (89, .getfield 31, 3), (92, .iload_n 2, 1), (93, .aload_n 0, 1), (94, .getfield 28, 3), (97, .iload_n 2, 1), (98, .iaload, 1), (99, .iastore, 1), (100, .iinc 2 1, 3), (103, .goto (-23), 3), (106, .aload_n 0, 1), (107, .iconst 1, 1), (108, .invokevirtual 146, 3), (111, .aload_n 0, 1), (112, .getfield 115, 3), (115, .aload_n 0, 1), (116, .getfield 198, 3), (119, .if_icmp .ne 7, 3), (122, .iconst 1, 1), (123, .goto 4, 3), (126, .iconst 0, 1), (127, .istore_n 2, 1)]
theorem qt_q251_cX4_same : dcAll cX4_same ql_q251_cX4_same = true := by decide +kernel
theorem dX4_same_82 : decode cX4_same 82 = .ok (.getfield 115, 3) := dc_of qt_q251_cX4_same 0 rfl
theorem dX4_same_85 : decode cX4_same 85 = .ok (.if_icmp .ge 21, 3) := dc_of qt_q251_cX4_same 1 rfl
theorem dX4_same_88 : decode cX4_same 88 = .ok (.aload_n 0, 1) := dc_of qt_q251_cX4_same 2 rfl
theorem dX4_same_89 : decode cX4_same 89 = .ok (.getfield 31, 3) := dc_of qt_q251_cX4_same 3 rfl
theorem dX4_same_92 : decode cX4_same 92 = .ok (.iload_n 2, 1) := dc_of qt_q251_cX4_same 4 rfl
theorem dX4_same_93 : decode cX4_same 93 = .ok (.aload_n 0, 1) := dc_of qt_q251_cX4_same 5 rfl
theorem dX4_same_94 : decode cX4_same 94 = .ok (.getfield 28, 3) := dc_of qt_q251_cX4_same 6 rfl
theorem dX4_same_97 : decode cX4_same 97 = .ok (.iload_n 2, 1) := dc_of qt_q251_cX4_same 7 rfl
theorem dX4_same_98 : decode cX4_same 98 = .ok (.iaload, 1) := dc_of qt_q251_cX4_same 8 rfl
theorem dX4_same_99 : decode cX4_same 99 = .ok (.iastore, 1) := dc_of qt_q251_cX4_same 9 rfl
theorem dX4_same_100 : decode cX4_same 100 = .ok (.iinc 2 1, 3) := dc_of qt_q251_cX4_same 10 rfl
theorem dX4_same_103 : decode cX4_same 103 = .ok (.goto (-23), 3) := dc_of qt_q251_cX4_same 11 rfl
theorem dX4_same_106 : decode cX4_same 106 = .ok (.aload_n 0, 1) := dc_of qt_q251_cX4_same 12 rfl
theorem dX4_same_107 : decode cX4_same 107 = .ok (.iconst 1, 1) := dc_of qt_q251_cX4_same 13 rfl
theorem dX4_same_108 : decode cX4_same 108 = .ok (.invokevirtual 146, 3) := dc_of qt_q251_cX4_same 14 rfl
theorem dX4_same_111 : decode cX4_same 111 = .ok (.aload_n 0, 1) := dc_of qt_q251_cX4_same 15 rfl
theorem dX4_same_112 : decode cX4_same 112 = .ok (.getfield 115, 3) := dc_of qt_q251_cX4_same 16 rfl
theorem dX4_same_115 : decode cX4_same 115 = .ok (.aload_n 0, 1) := dc_of qt_q251_cX4_same 17 rfl
theorem dX4_same_116 : decode cX4_same 116 = .ok (.getfield 198, 3) := dc_of qt_q251_cX4_same 18 rfl
theorem dX4_same_119 : decode cX4_same 119 = .ok (.if_icmp .ne 7, 3) := dc_of qt_q251_cX4_same 19 rfl
theorem dX4_same_122 : decode cX4_same 122 = .ok (.iconst 1, 1) := dc_of qt_q251_cX4_same 20 rfl
theorem dX4_same_123 : decode cX4_same 123 = .ok (.goto 4, 3) := dc_of qt_q251_cX4_same 21 rfl
theorem dX4_same_126 : decode cX4_same 126 = .ok (.iconst 0, 1) := dc_of qt_q251_cX4_same 22 rfl
theorem dX4_same_127 : decode cX4_same 127 = .ok (.istore_n 2, 1) := dc_of qt_q251_cX4_same 23 rfl
def ql_q252_cX4_same : List (Nat × Jvm.ClassFile.Instr × Nat) := [(128, .iconst 0, 1), (129, .istore_n 3, 1), (130, .iload_n 3, 1), (131, .aload_n 0, 1), (132, .getfield 115, 3), (135, .if_icmp .ge 34, 3), (138, .iload_n 2, 1), (139, .ifCond .eq 30, 3), (142, .aload_n 0, 1), (143, .getfield 28, 3), (146, .iload_n 3, 1), (147, .iaload, 1), (148, .aload_n 0, 1), (149, .getfield 31, 3), (152, .iload_n 3, 1), (153, .iaload, 1), (154, .if_icmp .ne 7, 3), (157, .iconst 1, 1), (158, .goto 4, 3), (161, .iconst 0, 1), (162, .istore_n 2, 1), (163, .iinc 3 1, 3), (166, .goto (-36), 3), (169, .aload_n 0, 1)]
theorem qt_q252_cX4_same : dcAll cX4_same ql_q252_cX4_same = true := by decide +kernel
theorem dX4_same_128 : decode cX4_same 128 = .ok (.iconst 0, 1) := dc_of qt_q252_cX4_same 0 rfl
theorem dX4_same_129 : decode cX4_same 129 = .ok (.istore_n 3, 1) := dc_of qt_q252_cX4_same 1 rfl
theorem dX4_same_130 : decode cX4_same 130 = .ok (.iload_n 3, 1) := dc_of qt_q252_cX4_same 2 rfl
theorem dX4_same_131 : decode cX4_same 131 = .ok (.aload_n 0, 1) := dc_of qt_q252_cX4_same 3 rfl
theorem dX4_same_132 : decode cX4_same 132 = .ok (.getfield 115, 3) := dc_of qt_q252_cX4_same 4 rfl
theorem dX4_same_135 : decode cX4_same 135 = .ok (.if_icmp .ge 34, 3) := dc_of qt_q252_cX4_same 5 rfl
theorem dX4_same_138 : decode cX4_same 138 = .ok (.iload_n 2, 1) := dc_of qt_q252_cX4_same 6 rfl
