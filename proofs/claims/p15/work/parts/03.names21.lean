theorem dX4_same_139 : decode cX4_same 139 = .ok (.ifCond .eq 30, 3) := dc_of qt_q252_cX4_same 7 rfl
theorem dX4_same_142 : decode cX4_same 142 = .ok (.aload_n 0, 1) := dc_of qt_q252_cX4_same 8 rfl
theorem dX4_same_143 : decode cX4_same 143 = .ok (.getfield 28, 3) := dc_of qt_q252_cX4_same 9 rfl
theorem dX4_same_146 : decode cX4_same 146 = .ok (.iload_n 3, 1) := dc_of qt_q252_cX4_same 10 rfl
theorem dX4_same_147 : decode cX4_same 147 = .ok (.iaload, 1) := dc_of qt_q252_cX4_same 11 rfl
theorem dX4_same_148 : decode cX4_same 148 = .ok (.aload_n 0, 1) := dc_of qt_q252_cX4_same 12 rfl
theorem dX4_same_149 : decode cX4_same 149 = .ok (.getfield 31, 3) := dc_of qt_q252_cX4_same 13 rfl
theorem dX4_same_152 : decode cX4_same 152 = .ok (.iload_n 3, 1) := dc_of qt_q252_cX4_same 14 rfl
theorem dX4_same_153 : decode cX4_same 153 = .ok (.iaload, 1) := dc_of qt_q252_cX4_same 15 rfl
theorem dX4_same_154 : decode cX4_same 154 = .ok (.if_icmp .ne 7, 3) := dc_of qt_q252_cX4_same 16 rfl
theorem dX4_same_157 : decode cX4_same 157 = .ok (.iconst 1, 1) := dc_of qt_q252_cX4_same 17 rfl
theorem dX4_same_158 : decode cX4_same 158 = .ok (.goto 4, 3) := dc_of qt_q252_cX4_same 18 rfl
theorem dX4_same_161 : decode cX4_same 161 = .ok (.iconst 0, 1) := dc_of qt_q252_cX4_same 19 rfl
theorem dX4_same_162 : decode cX4_same 162 = .ok (.istore_n 2, 1) := dc_of qt_q252_cX4_same 20 rfl
theorem dX4_same_163 : decode cX4_same 163 = .ok (.iinc 3 1, 3) := dc_of qt_q252_cX4_same 21 rfl
theorem dX4_same_166 : decode cX4_same 166 = .ok (.goto (-36), 3) := dc_of qt_q252_cX4_same 22 rfl
theorem dX4_same_169 : decode cX4_same 169 = .ok (.aload_n 0, 1) := dc_of qt_q252_cX4_same 23 rfl
def ql_q253_cX4_same : List (Nat × Jvm.ClassFile.Instr × Nat) := [(170, .iload_n 1, 1), (171, .putfield 115, 3), (174, .iconst 0, 1), (175, .istore_n 3, 1), (176, .iload_n 3, 1), (177, .iload_n 1, 1), (178, .if_icmp .ge 21, 3), (181, .aload_n 0, 1), (182, .getfield 28, 3), (185, .iload_n 3, 1), (186, .aload_n 0, 1), (187, .getfield 46, 3), (190, .iload_n 3, 1), (191, .iaload, 1), (192, .iastore, 1), (193, .iinc 3 1, 3), (196, .goto (-20), 3), (199, .iload_n 2, 1), (200, .ireturn, 1)]
theorem qt_q253_cX4_same : dcAll cX4_same ql_q253_cX4_same = true := by decide +kernel
theorem dX4_same_170 : decode cX4_same 170 = .ok (.iload_n 1, 1) := dc_of qt_q253_cX4_same 0 rfl
theorem dX4_same_171 : decode cX4_same 171 = .ok (.putfield 115, 3) := dc_of qt_q253_cX4_same 1 rfl
theorem dX4_same_174 : decode cX4_same 174 = .ok (.iconst 0, 1) := dc_of qt_q253_cX4_same 2 rfl
theorem dX4_same_175 : decode cX4_same 175 = .ok (.istore_n 3, 1) := dc_of qt_q253_cX4_same 3 rfl
theorem dX4_same_176 : decode cX4_same 176 = .ok (.iload_n 3, 1) := dc_of qt_q253_cX4_same 4 rfl
theorem dX4_same_177 : decode cX4_same 177 = .ok (.iload_n 1, 1) := dc_of qt_q253_cX4_same 5 rfl
theorem dX4_same_178 : decode cX4_same 178 = .ok (.if_icmp .ge 21, 3) := dc_of qt_q253_cX4_same 6 rfl
theorem dX4_same_181 : decode cX4_same 181 = .ok (.aload_n 0, 1) := dc_of qt_q253_cX4_same 7 rfl
theorem dX4_same_182 : decode cX4_same 182 = .ok (.getfield 28, 3) := dc_of qt_q253_cX4_same 8 rfl
theorem dX4_same_185 : decode cX4_same 185 = .ok (.iload_n 3, 1) := dc_of qt_q253_cX4_same 9 rfl
theorem dX4_same_186 : decode cX4_same 186 = .ok (.aload_n 0, 1) := dc_of qt_q253_cX4_same 10 rfl
theorem dX4_same_187 : decode cX4_same 187 = .ok (.getfield 46, 3) := dc_of qt_q253_cX4_same 11 rfl
theorem dX4_same_190 : decode cX4_same 190 = .ok (.iload_n 3, 1) := dc_of qt_q253_cX4_same 12 rfl
theorem dX4_same_191 : decode cX4_same 191 = .ok (.iaload, 1) := dc_of qt_q253_cX4_same 13 rfl
theorem dX4_same_192 : decode cX4_same 192 = .ok (.iastore, 1) := dc_of qt_q253_cX4_same 14 rfl
theorem dX4_same_193 : decode cX4_same 193 = .ok (.iinc 3 1, 3) := dc_of qt_q253_cX4_same 15 rfl
theorem dX4_same_196 : decode cX4_same 196 = .ok (.goto (-20), 3) := dc_of qt_q253_cX4_same 16 rfl
theorem dX4_same_199 : decode cX4_same 199 = .ok (.iload_n 2, 1) := dc_of qt_q253_cX4_same 17 rfl
theorem dX4_same_200 : decode cX4_same 200 = .ok (.ireturn, 1) := dc_of qt_q253_cX4_same 18 rfl
set_option maxRecDepth 20000 in
theorem ggX4_told_X4_isHeap : GoodIn wsX4_told wsX4_isHeap := goodIn_r _ [8] rfl (by decide +kernel)
set_option maxRecDepth 20000 in
theorem ggX4_told_X4_firstFault : GoodIn wsX4_told wsX4_firstFault := goodIn_r _ [12, 3, 13, 14, 15, 16, 7, 17, 18, 19, 20, 21, 22, 23, 24, 25, 26, 27, 28, 29, 30, 31, 32, 33, 34, 35, 36, 37, 38, 39, 40, 41, 42, 43, 44, 45, 46, 47, 2, 62, 63, 64, 65, 66, 67, 68, 69, 70, 71, 72, 73, 74, 75, 76, 77, 78, 79, 80, 81, 82, 83, 84] rfl (by decide +kernel)
set_option maxRecDepth 20000 in
theorem ggX4_told_X4_reach : GoodIn wsX4_told wsX4_reach := goodIn_r _ [51, 52, 4, 14, 53, 13, 54, 55, 56, 7, 57, 2, 37, 38, 39, 25, 26, 27, 28, 29, 30, 31, 32, 62, 63, 64, 65, 66, 67, 68, 69, 70, 71, 72, 73, 74, 75, 76, 77, 78, 79, 80, 81, 82, 83, 84] rfl (by decide +kernel)
set_option maxRecDepth 20000 in
theorem ggX4_told_X4_objects : GoodIn wsX4_told wsX4_objects := goodIn_r _ [61, 3, 21, 22, 23, 7, 24, 13, 15, 16, 17, 18, 19, 20, 62, 63, 64, 65, 66, 67, 68, 69, 70, 71, 72, 73, 74, 75, 76, 77, 78, 79, 80, 81, 82, 83, 84] rfl (by decide +kernel)
def ql_q254_cX4_told : List (Nat × Jvm.ClassFile.Instr × Nat) := [(0, .aload_n 0, 1), (1, .iload_n 1, 1), (2, .invokestatic 65, 3), (5, .ifCond .ne 7, 3), (8, .iconst 1, 1), (9, .goto 34, 3), (12, .iload_n 2, 1), (13, .ifCond .lt 8, 3), (16, .iload_n 2, 1), (17, .iconst 3, 1), (18, .if_icmp .le 7, 3), (21, .iconst 2, 1), (22, .goto 21, 3), (25, .iload_n 2, 1), (26, .iconst 2, 1), (27, .if_icmp .ne 15, 3), (30, .aload_n 0, 1), (31, .iload_n 1, 1), (32, .invokevirtual 93, 3), (35, .ifCond .le 7, 3), (38, .iconst 3, 1), (39, .goto 4, 3), (42, .iconst 0, 1), (43, .putfield 49, 3)]
theorem qt_q254_cX4_told : dcAll cX4_told ql_q254_cX4_told = true := by decide +kernel
theorem dX4_told_0 : decode cX4_told 0 = .ok (.aload_n 0, 1) := dc_of qt_q254_cX4_told 0 rfl
theorem dX4_told_1 : decode cX4_told 1 = .ok (.iload_n 1, 1) := dc_of qt_q254_cX4_told 1 rfl
theorem dX4_told_2 : decode cX4_told 2 = .ok (.invokestatic 65, 3) := dc_of qt_q254_cX4_told 2 rfl
theorem dX4_told_5 : decode cX4_told 5 = .ok (.ifCond .ne 7, 3) := dc_of qt_q254_cX4_told 3 rfl
theorem dX4_told_8 : decode cX4_told 8 = .ok (.iconst 1, 1) := dc_of qt_q254_cX4_told 4 rfl
theorem dX4_told_9 : decode cX4_told 9 = .ok (.goto 34, 3) := dc_of qt_q254_cX4_told 5 rfl
theorem dX4_told_12 : decode cX4_told 12 = .ok (.iload_n 2, 1) := dc_of qt_q254_cX4_told 6 rfl
theorem dX4_told_13 : decode cX4_told 13 = .ok (.ifCond .lt 8, 3) := dc_of qt_q254_cX4_told 7 rfl
theorem dX4_told_16 : decode cX4_told 16 = .ok (.iload_n 2, 1) := dc_of qt_q254_cX4_told 8 rfl
theorem dX4_told_17 : decode cX4_told 17 = .ok (.iconst 3, 1) := dc_of qt_q254_cX4_told 9 rfl
theorem dX4_told_18 : decode cX4_told 18 = .ok (.if_icmp .le 7, 3) := dc_of qt_q254_cX4_told 10 rfl
theorem dX4_told_21 : decode cX4_told 21 = .ok (.iconst 2, 1) := dc_of qt_q254_cX4_told 11 rfl
theorem dX4_told_22 : decode cX4_told 22 = .ok (.goto 21, 3) := dc_of qt_q254_cX4_told 12 rfl
theorem dX4_told_25 : decode cX4_told 25 = .ok (.iload_n 2, 1) := dc_of qt_q254_cX4_told 13 rfl
theorem dX4_told_26 : decode cX4_told 26 = .ok (.iconst 2, 1) := dc_of qt_q254_cX4_told 14 rfl
theorem dX4_told_27 : decode cX4_told 27 = .ok (.if_icmp .ne 15, 3) := dc_of qt_q254_cX4_told 15 rfl
theorem dX4_told_30 : decode cX4_told 30 = .ok (.aload_n 0, 1) := dc_of qt_q254_cX4_told 16 rfl
theorem dX4_told_31 : decode cX4_told 31 = .ok (.iload_n 1, 1) := dc_of qt_q254_cX4_told 17 rfl
theorem dX4_told_32 : decode cX4_told 32 = .ok (.invokevirtual 93, 3) := dc_of qt_q254_cX4_told 18 rfl
theorem dX4_told_35 : decode cX4_told 35 = .ok (.ifCond .le 7, 3) := dc_of qt_q254_cX4_told 19 rfl
theorem dX4_told_38 : decode cX4_told 38 = .ok (.iconst 3, 1) := dc_of qt_q254_cX4_told 20 rfl
theorem dX4_told_39 : decode cX4_told 39 = .ok (.goto 4, 3) := dc_of qt_q254_cX4_told 21 rfl
theorem dX4_told_42 : decode cX4_told 42 = .ok (.iconst 0, 1) := dc_of qt_q254_cX4_told 22 rfl
theorem dX4_told_43 : decode cX4_told 43 = .ok (.putfield 49, 3) := dc_of qt_q254_cX4_told 23 rfl
def ql_q255_cX4_told : List (Nat × Jvm.ClassFile.Instr × Nat) := [(46, .aload_n 0, 1), (47, .getfield 49, 3), (50, .ifCond .le 5, 3), (53, .iconst 0, 1), (54, .ireturn, 1), (55, .iload_n 2, 1), (56, .iconst 2, 1), (57, .if_icmp .ne 8, 3), (60, .aload_n 0, 1), (61, .iload_n 1, 1), (62, .invokevirtual 108, 3), (65, .iload_n 2, 1), (66, .ifCond .ne 12, 3), (69, .aload_n 0, 1), (70, .getfield 7, 3), (73, .iload_n 1, 1), (74, .iaload, 1), (75, .goto 34, 3), (78, .iload_n 2, 1), (79, .iconst 1, 1), (80, .if_icmp .ne 12, 3), (83, .aload_n 0, 1), (84, .getfield 13, 3), (87, .iload_n 1, 1)]
theorem qt_q255_cX4_told : dcAll cX4_told ql_q255_cX4_told = true := by decide +kernel
theorem dX4_told_46 : decode cX4_told 46 = .ok (.aload_n 0, 1) := dc_of qt_q255_cX4_told 0 rfl
theorem dX4_told_47 : decode cX4_told 47 = .ok (.getfield 49, 3) := dc_of qt_q255_cX4_told 1 rfl
theorem dX4_told_50 : decode cX4_told 50 = .ok (.ifCond .le 5, 3) := dc_of qt_q255_cX4_told 2 rfl
theorem dX4_told_53 : decode cX4_told 53 = .ok (.iconst 0, 1) := dc_of qt_q255_cX4_told 3 rfl
theorem dX4_told_54 : decode cX4_told 54 = .ok (.ireturn, 1) := dc_of qt_q255_cX4_told 4 rfl
theorem dX4_told_55 : decode cX4_told 55 = .ok (.iload_n 2, 1) := dc_of qt_q255_cX4_told 5 rfl
theorem dX4_told_56 : decode cX4_told 56 = .ok (.iconst 2, 1) := dc_of qt_q255_cX4_told 6 rfl
theorem dX4_told_57 : decode cX4_told 57 = .ok (.if_icmp .ne 8, 3) := dc_of qt_q255_cX4_told 7 rfl
theorem dX4_told_60 : decode cX4_told 60 = .ok (.aload_n 0, 1) := dc_of qt_q255_cX4_told 8 rfl
theorem dX4_told_61 : decode cX4_told 61 = .ok (.iload_n 1, 1) := dc_of qt_q255_cX4_told 9 rfl
theorem dX4_told_62 : decode cX4_told 62 = .ok (.invokevirtual 108, 3) := dc_of qt_q255_cX4_told 10 rfl
theorem dX4_told_65 : decode cX4_told 65 = .ok (.iload_n 2, 1) := dc_of qt_q255_cX4_told 11 rfl
theorem dX4_told_66 : decode cX4_told 66 = .ok (.ifCond .ne 12, 3) := dc_of qt_q255_cX4_told 12 rfl
theorem dX4_told_69 : decode cX4_told 69 = .ok (.aload_n 0, 1) := dc_of qt_q255_cX4_told 13 rfl
theorem dX4_told_70 : decode cX4_told 70 = .ok (.getfield 7, 3) := dc_of qt_q255_cX4_told 14 rfl
theorem dX4_told_73 : decode cX4_told 73 = .ok (.iload_n 1, 1) := dc_of qt_q255_cX4_told 15 rfl
theorem dX4_told_74 : decode cX4_told 74 = .ok (.iaload, 1) := dc_of qt_q255_cX4_told 16 rfl
theorem dX4_told_75 : decode cX4_told 75 = .ok (.goto 34, 3) := dc_of qt_q255_cX4_told 17 rfl
theorem dX4_told_78 : decode cX4_told 78 = .ok (.iload_n 2, 1) := dc_of qt_q255_cX4_told 18 rfl
theorem dX4_told_79 : decode cX4_told 79 = .ok (.iconst 1, 1) := dc_of qt_q255_cX4_told 19 rfl
theorem dX4_told_80 : decode cX4_told 80 = .ok (.if_icmp .ne 12, 3) := dc_of qt_q255_cX4_told 20 rfl
theorem dX4_told_83 : decode cX4_told 83 = .ok (.aload_n 0, 1) := dc_of qt_q255_cX4_told 21 rfl
theorem dX4_told_84 : decode cX4_told 84 = .ok (.getfield 13, 3) := dc_of qt_q255_cX4_told 22 rfl
theorem dX4_told_87 : decode cX4_told 87 = .ok (.iload_n 1, 1) := dc_of qt_q255_cX4_told 23 rfl
def ql_q256_cX4_told : List (Nat × Jvm.ClassFile.Instr × Nat) := [(88, .iaload, 1), (89, .goto 20, 3), (92, .iload_n 2, 1), (93, .iconst 2, 1), (94, .if_icmp .ne 10, 3), (97, .aload_n 0, 1), (98, .getfield 101, 3), (101, .goto 8, 3), (104, .aload_n 0, 1), (105, .iload_n 1, 1), (106, .invokevirtual 201, 3), (109, .ireturn, 1)]
theorem qt_q256_cX4_told : dcAll cX4_told ql_q256_cX4_told = true := by decide +kernel
theorem dX4_told_88 : decode cX4_told 88 = .ok (.iaload, 1) := dc_of qt_q256_cX4_told 0 rfl
theorem dX4_told_89 : decode cX4_told 89 = .ok (.goto 20, 3) := dc_of qt_q256_cX4_told 1 rfl
theorem dX4_told_92 : decode cX4_told 92 = .ok (.iload_n 2, 1) := dc_of qt_q256_cX4_told 2 rfl
theorem dX4_told_93 : decode cX4_told 93 = .ok (.iconst 2, 1) := dc_of qt_q256_cX4_told 3 rfl
theorem dX4_told_94 : decode cX4_told 94 = .ok (.if_icmp .ne 10, 3) := dc_of qt_q256_cX4_told 4 rfl
theorem dX4_told_97 : decode cX4_told 97 = .ok (.aload_n 0, 1) := dc_of qt_q256_cX4_told 5 rfl
theorem dX4_told_98 : decode cX4_told 98 = .ok (.getfield 101, 3) := dc_of qt_q256_cX4_told 6 rfl
theorem dX4_told_101 : decode cX4_told 101 = .ok (.goto 8, 3) := dc_of qt_q256_cX4_told 7 rfl
theorem dX4_told_104 : decode cX4_told 104 = .ok (.aload_n 0, 1) := dc_of qt_q256_cX4_told 8 rfl
theorem dX4_told_105 : decode cX4_told 105 = .ok (.iload_n 1, 1) := dc_of qt_q256_cX4_told 9 rfl
theorem dX4_told_106 : decode cX4_told 106 = .ok (.invokevirtual 201, 3) := dc_of qt_q256_cX4_told 10 rfl
theorem dX4_told_109 : decode cX4_told 109 = .ok (.ireturn, 1) := dc_of qt_q256_cX4_told 11 rfl
def ql_q257_cX4_clear : List (Nat × Jvm.ClassFile.Instr × Nat) := [(0, .aload_n 0, 1), (1, .iconst 0, 1), (2, .putfield 49, 3), (5, .iconst 0, 1), (6, .istore_n 1, 1), (7, .iload_n 1, 1), (8, .sipush 512, 3), (11, .if_icmp .ge 16, 3), (14, .aload_n 0, 1), (15, .getfield 16, 3), (18, .iload_n 1, 1), (19, .iconst 0, 1), (20, .iastore, 1), (21, .iinc 1 1, 3), (24, .goto (-17), 3), (27, .iconst 0, 1), (28, .istore_n 1, 1), (29, .iload_n 1, 1), (30, .bipush 8, 2), (32, .if_icmp .ge 16, 3), (35, .aload_n 0, 1), (36, .getfield 19, 3), (39, .iload_n 1, 1), (40, .iconst 0, 1)]
theorem qt_q257_cX4_clear : dcAll cX4_clear ql_q257_cX4_clear = true := by decide +kernel
theorem dX4_clear_0 : decode cX4_clear 0 = .ok (.aload_n 0, 1) := dc_of qt_q257_cX4_clear 0 rfl
theorem dX4_clear_1 : decode cX4_clear 1 = .ok (.iconst 0, 1) := dc_of qt_q257_cX4_clear 1 rfl
theorem dX4_clear_2 : decode cX4_clear 2 = .ok (.putfield 49, 3) := dc_of qt_q257_cX4_clear 2 rfl
theorem dX4_clear_5 : decode cX4_clear 5 = .ok (.iconst 0, 1) := dc_of qt_q257_cX4_clear 3 rfl
theorem dX4_clear_6 : decode cX4_clear 6 = .ok (.istore_n 1, 1) := dc_of qt_q257_cX4_clear 4 rfl
theorem dX4_clear_7 : decode cX4_clear 7 = .ok (.iload_n 1, 1) := dc_of qt_q257_cX4_clear 5 rfl
theorem dX4_clear_8 : decode cX4_clear 8 = .ok (.sipush 512, 3) := dc_of qt_q257_cX4_clear 6 rfl
theorem dX4_clear_11 : decode cX4_clear 11 = .ok (.if_icmp .ge 16, 3) := dc_of qt_q257_cX4_clear 7 rfl
theorem dX4_clear_14 : decode cX4_clear 14 = .ok (.aload_n 0, 1) := dc_of qt_q257_cX4_clear 8 rfl
theorem dX4_clear_15 : decode cX4_clear 15 = .ok (.getfield 16, 3) := dc_of qt_q257_cX4_clear 9 rfl
theorem dX4_clear_18 : decode cX4_clear 18 = .ok (.iload_n 1, 1) := dc_of qt_q257_cX4_clear 10 rfl
theorem dX4_clear_19 : decode cX4_clear 19 = .ok (.iconst 0, 1) := dc_of qt_q257_cX4_clear 11 rfl
theorem dX4_clear_20 : decode cX4_clear 20 = .ok (.iastore, 1) := dc_of qt_q257_cX4_clear 12 rfl
theorem dX4_clear_21 : decode cX4_clear 21 = .ok (.iinc 1 1, 3) := dc_of qt_q257_cX4_clear 13 rfl
theorem dX4_clear_24 : decode cX4_clear 24 = .ok (.goto (-17), 3) := dc_of qt_q257_cX4_clear 14 rfl
theorem dX4_clear_27 : decode cX4_clear 27 = .ok (.iconst 0, 1) := dc_of qt_q257_cX4_clear 15 rfl
theorem dX4_clear_28 : decode cX4_clear 28 = .ok (.istore_n 1, 1) := dc_of qt_q257_cX4_clear 16 rfl
theorem dX4_clear_29 : decode cX4_clear 29 = .ok (.iload_n 1, 1) := dc_of qt_q257_cX4_clear 17 rfl
theorem dX4_clear_30 : decode cX4_clear 30 = .ok (.bipush 8, 2) := dc_of qt_q257_cX4_clear 18 rfl
theorem dX4_clear_32 : decode cX4_clear 32 = .ok (.if_icmp .ge 16, 3) := dc_of qt_q257_cX4_clear 19 rfl
theorem dX4_clear_35 : decode cX4_clear 35 = .ok (.aload_n 0, 1) := dc_of qt_q257_cX4_clear 20 rfl
theorem dX4_clear_36 : decode cX4_clear 36 = .ok (.getfield 19, 3) := dc_of qt_q257_cX4_clear 21 rfl
theorem dX4_clear_39 : decode cX4_clear 39 = .ok (.iload_n 1, 1) := dc_of qt_q257_cX4_clear 22 rfl
theorem dX4_clear_40 : decode cX4_clear 40 = .ok (.iconst 0, 1) := dc_of qt_q257_cX4_clear 23 rfl
def ql_q258_cX4_clear : List (Nat × Jvm.ClassFile.Instr × Nat) := [(41, .iastore, 1), (42, .iinc 1 1, 3), (45, .goto (-16), 3), (48, .iconst 0, 1), (49, .istore_n 1, 1), (50, .iload_n 1, 1), (51, .iconst 2, 1), (52, .if_icmp .ge 25, 3), (55, .aload_n 0, 1), (56, .getfield 7, 3), (59, .iload_n 1, 1), (60, .sipush 4096, 3), (63, .iastore, 1), (64, .aload_n 0, 1), (65, .getfield 13, 3), (68, .iload_n 1, 1), (69, .iconst 0, 1), (70, .iastore, 1), (71, .iinc 1 1, 3), (74, .goto (-24), 3), (77, .aload_n 0, 1), (78, .iconst 0, 1), (79, .putfield 115, 3), (82, .aload_n 0, 1)]
theorem qt_q258_cX4_clear : dcAll cX4_clear ql_q258_cX4_clear = true := by decide +kernel
theorem dX4_clear_41 : decode cX4_clear 41 = .ok (.iastore, 1) := dc_of qt_q258_cX4_clear 0 rfl
theorem dX4_clear_42 : decode cX4_clear 42 = .ok (.iinc 1 1, 3) := dc_of qt_q258_cX4_clear 1 rfl
theorem dX4_clear_45 : decode cX4_clear 45 = .ok (.goto (-16), 3) := dc_of qt_q258_cX4_clear 2 rfl
theorem dX4_clear_48 : decode cX4_clear 48 = .ok (.iconst 0, 1) := dc_of qt_q258_cX4_clear 3 rfl
theorem dX4_clear_49 : decode cX4_clear 49 = .ok (.istore_n 1, 1) := dc_of qt_q258_cX4_clear 4 rfl
theorem dX4_clear_50 : decode cX4_clear 50 = .ok (.iload_n 1, 1) := dc_of qt_q258_cX4_clear 5 rfl
theorem dX4_clear_51 : decode cX4_clear 51 = .ok (.iconst 2, 1) := dc_of qt_q258_cX4_clear 6 rfl
theorem dX4_clear_52 : decode cX4_clear 52 = .ok (.if_icmp .ge 25, 3) := dc_of qt_q258_cX4_clear 7 rfl
theorem dX4_clear_55 : decode cX4_clear 55 = .ok (.aload_n 0, 1) := dc_of qt_q258_cX4_clear 8 rfl
theorem dX4_clear_56 : decode cX4_clear 56 = .ok (.getfield 7, 3) := dc_of qt_q258_cX4_clear 9 rfl
theorem dX4_clear_59 : decode cX4_clear 59 = .ok (.iload_n 1, 1) := dc_of qt_q258_cX4_clear 10 rfl
theorem dX4_clear_60 : decode cX4_clear 60 = .ok (.sipush 4096, 3) := dc_of qt_q258_cX4_clear 11 rfl
theorem dX4_clear_63 : decode cX4_clear 63 = .ok (.iastore, 1) := dc_of qt_q258_cX4_clear 12 rfl
theorem dX4_clear_64 : decode cX4_clear 64 = .ok (.aload_n 0, 1) := dc_of qt_q258_cX4_clear 13 rfl
theorem dX4_clear_65 : decode cX4_clear 65 = .ok (.getfield 13, 3) := dc_of qt_q258_cX4_clear 14 rfl
theorem dX4_clear_68 : decode cX4_clear 68 = .ok (.iload_n 1, 1) := dc_of qt_q258_cX4_clear 15 rfl
theorem dX4_clear_69 : decode cX4_clear 69 = .ok (.iconst 0, 1) := dc_of qt_q258_cX4_clear 16 rfl
theorem dX4_clear_70 : decode cX4_clear 70 = .ok (.iastore, 1) := dc_of qt_q258_cX4_clear 17 rfl
theorem dX4_clear_71 : decode cX4_clear 71 = .ok (.iinc 1 1, 3) := dc_of qt_q258_cX4_clear 18 rfl
theorem dX4_clear_74 : decode cX4_clear 74 = .ok (.goto (-24), 3) := dc_of qt_q258_cX4_clear 19 rfl
theorem dX4_clear_77 : decode cX4_clear 77 = .ok (.aload_n 0, 1) := dc_of qt_q258_cX4_clear 20 rfl
theorem dX4_clear_78 : decode cX4_clear 78 = .ok (.iconst 0, 1) := dc_of qt_q258_cX4_clear 21 rfl
theorem dX4_clear_79 : decode cX4_clear 79 = .ok (.putfield 115, 3) := dc_of qt_q258_cX4_clear 22 rfl
theorem dX4_clear_82 : decode cX4_clear 82 = .ok (.aload_n 0, 1) := dc_of qt_q258_cX4_clear 23 rfl
def ql_q259_cX4_clear : List (Nat × Jvm.ClassFile.Instr × Nat) := [(83, .iconst 0, 1), (84, .putfield 149, 3), (87, .return_, 1)]
theorem qt_q259_cX4_clear : dcAll cX4_clear ql_q259_cX4_clear = true := by decide +kernel
theorem dX4_clear_83 : decode cX4_clear 83 = .ok (.iconst 0, 1) := dc_of qt_q259_cX4_clear 0 rfl
theorem dX4_clear_84 : decode cX4_clear 84 = .ok (.putfield 149, 3) := dc_of qt_q259_cX4_clear 1 rfl
theorem dX4_clear_87 : decode cX4_clear 87 = .ok (.return_, 1) := dc_of qt_q259_cX4_clear 2 rfl
def ql_q260_cJ9_min_7cf53 : List (Nat × Jvm.ClassFile.Instr × Nat) := [(0, .iload_n 0, 1), (1, .iload_n 1, 1), (2, .if_icmp .gt 7, 3), (5, .iload_n 0, 1), (6, .goto 4, 3), (9, .iload_n 1, 1), (10, .ireturn, 1)]
theorem qt_q260_cJ9_min_7cf53 : dcAll cJ9_min_7cf53 ql_q260_cJ9_min_7cf53 = true := by decide +kernel
theorem dJ9_min_7cf53_0 : decode cJ9_min_7cf53 0 = .ok (.iload_n 0, 1) := dc_of qt_q260_cJ9_min_7cf53 0 rfl
theorem dJ9_min_7cf53_1 : decode cJ9_min_7cf53 1 = .ok (.iload_n 1, 1) := dc_of qt_q260_cJ9_min_7cf53 1 rfl
theorem dJ9_min_7cf53_2 : decode cJ9_min_7cf53 2 = .ok (.if_icmp .gt 7, 3) := dc_of qt_q260_cJ9_min_7cf53 2 rfl
theorem dJ9_min_7cf53_5 : decode cJ9_min_7cf53 5 = .ok (.iload_n 0, 1) := dc_of qt_q260_cJ9_min_7cf53 3 rfl
theorem dJ9_min_7cf53_6 : decode cJ9_min_7cf53 6 = .ok (.goto 4, 3) := dc_of qt_q260_cJ9_min_7cf53 4 rfl
theorem dJ9_min_7cf53_9 : decode cJ9_min_7cf53 9 = .ok (.iload_n 1, 1) := dc_of qt_q260_cJ9_min_7cf53 5 rfl
theorem dJ9_min_7cf53_10 : decode cJ9_min_7cf53 10 = .ok (.ireturn, 1) := dc_of qt_q260_cJ9_min_7cf53 6 rfl
def ql_q261_cJ9_min_f86c9 : List (Nat × Jvm.ClassFile.Instr × Nat) := [(0, .lload_n 0, 1), (1, .lload_n 2, 1), (2, .lcmp, 1), (3, .ifCond .gt 7, 3), (6, .lload_n 0, 1), (7, .goto 4, 3), (10, .lload_n 2, 1), (11, .lreturn, 1)]
theorem qt_q261_cJ9_min_f86c9 : dcAll cJ9_min_f86c9 ql_q261_cJ9_min_f86c9 = true := by decide +kernel
theorem dJ9_min_f86c9_0 : decode cJ9_min_f86c9 0 = .ok (.lload_n 0, 1) := dc_of qt_q261_cJ9_min_f86c9 0 rfl
theorem dJ9_min_f86c9_1 : decode cJ9_min_f86c9 1 = .ok (.lload_n 2, 1) := dc_of qt_q261_cJ9_min_f86c9 1 rfl
theorem dJ9_min_f86c9_2 : decode cJ9_min_f86c9 2 = .ok (.lcmp, 1) := dc_of qt_q261_cJ9_min_f86c9 2 rfl
theorem dJ9_min_f86c9_3 : decode cJ9_min_f86c9 3 = .ok (.ifCond .gt 7, 3) := dc_of qt_q261_cJ9_min_f86c9 3 rfl
theorem dJ9_min_f86c9_6 : decode cJ9_min_f86c9 6 = .ok (.lload_n 0, 1) := dc_of qt_q261_cJ9_min_f86c9 4 rfl
theorem dJ9_min_f86c9_7 : decode cJ9_min_f86c9 7 = .ok (.goto 4, 3) := dc_of qt_q261_cJ9_min_f86c9 5 rfl
theorem dJ9_min_f86c9_10 : decode cJ9_min_f86c9 10 = .ok (.lload_n 2, 1) := dc_of qt_q261_cJ9_min_f86c9 6 rfl
theorem dJ9_min_f86c9_11 : decode cJ9_min_f86c9 11 = .ok (.lreturn, 1) := dc_of qt_q261_cJ9_min_f86c9 7 rfl
def ql_q262_cJ7_fill_53178 : List (Nat × Jvm.ClassFile.Instr × Nat) := [(0, .iconst 0, 1), (1, .istore_n 2, 1), (2, .aload_n 0, 1), (3, .arraylength, 1), (4, .istore_n 3, 1), (5, .iload_n 2, 1), (6, .iload_n 3, 1), (7, .if_icmp .ge 13, 3), (10, .aload_n 0, 1), (11, .iload_n 2, 1), (12, .iload_n 1, 1), (13, .iastore, 1), (14, .iinc 2 1, 3), (17, .goto (-12), 3), (20, .return_, 1)]
theorem qt_q262_cJ7_fill_53178 : dcAll cJ7_fill_53178 ql_q262_cJ7_fill_53178 = true := by decide +kernel
theorem dJ7_fill_53178_0 : decode cJ7_fill_53178 0 = .ok (.iconst 0, 1) := dc_of qt_q262_cJ7_fill_53178 0 rfl
theorem dJ7_fill_53178_1 : decode cJ7_fill_53178 1 = .ok (.istore_n 2, 1) := dc_of qt_q262_cJ7_fill_53178 1 rfl
theorem dJ7_fill_53178_2 : decode cJ7_fill_53178 2 = .ok (.aload_n 0, 1) := dc_of qt_q262_cJ7_fill_53178 2 rfl
theorem dJ7_fill_53178_3 : decode cJ7_fill_53178 3 = .ok (.arraylength, 1) := dc_of qt_q262_cJ7_fill_53178 3 rfl
theorem dJ7_fill_53178_4 : decode cJ7_fill_53178 4 = .ok (.istore_n 3, 1) := dc_of qt_q262_cJ7_fill_53178 4 rfl
theorem dJ7_fill_53178_5 : decode cJ7_fill_53178 5 = .ok (.iload_n 2, 1) := dc_of qt_q262_cJ7_fill_53178 5 rfl
theorem dJ7_fill_53178_6 : decode cJ7_fill_53178 6 = .ok (.iload_n 3, 1) := dc_of qt_q262_cJ7_fill_53178 6 rfl
theorem dJ7_fill_53178_7 : decode cJ7_fill_53178 7 = .ok (.if_icmp .ge 13, 3) := dc_of qt_q262_cJ7_fill_53178 7 rfl
theorem dJ7_fill_53178_10 : decode cJ7_fill_53178 10 = .ok (.aload_n 0, 1) := dc_of qt_q262_cJ7_fill_53178 8 rfl
theorem dJ7_fill_53178_11 : decode cJ7_fill_53178 11 = .ok (.iload_n 2, 1) := dc_of qt_q262_cJ7_fill_53178 9 rfl
theorem dJ7_fill_53178_12 : decode cJ7_fill_53178 12 = .ok (.iload_n 1, 1) := dc_of qt_q262_cJ7_fill_53178 10 rfl
theorem dJ7_fill_53178_13 : decode cJ7_fill_53178 13 = .ok (.iastore, 1) := dc_of qt_q262_cJ7_fill_53178 11 rfl
theorem dJ7_fill_53178_14 : decode cJ7_fill_53178 14 = .ok (.iinc 2 1, 3) := dc_of qt_q262_cJ7_fill_53178 12 rfl
theorem dJ7_fill_53178_17 : decode cJ7_fill_53178 17 = .ok (.goto (-12), 3) := dc_of qt_q262_cJ7_fill_53178 13 rfl
theorem dJ7_fill_53178_20 : decode cJ7_fill_53178 20 = .ok (.return_, 1) := dc_of qt_q262_cJ7_fill_53178 14 rfl
set_option maxRecDepth 20000 in
theorem ggL_make_X3_make : GoodIn wsL_make wsX3_make := goodIn_ca (goodIn_ca (goodIn_ca (goodIn_r _ [8, 9, 10, 11, 12, 13, 14, 15, 7, 16, 17, 18, 19, 20, 21, 22, 23, 24, 25, 26, 27, 28, 29, 30, 31, 32, 33, 34, 35, 36, 37, 38, 39, 40, 41, 42, 43, 44, 45, 46, 47, 48, 49, 50, 51, 52, 53, 54, 55, 56] rfl (by decide +kernel)) (goodIn_sub (fun _ h => List.mem_cons_of_mem _ (List.mem_append_left _ (List.mem_append_left _ (List.mem_append_right _ h)))) (by decide +kernel))) (goodIn_sub (fun _ h => List.mem_cons_of_mem _ (List.mem_append_left _ (List.mem_append_right _ h))) (by decide +kernel))) (goodIn_sub (fun _ h => List.mem_cons_of_mem _ (List.mem_append_right _ h)) (by decide +kernel))
set_option maxRecDepth 20000 in
theorem ggL_set_X3_set : GoodIn wsL_set wsX3_set := goodIn_ca (goodIn_r _ [6, 7, 8, 9, 5, 10, 11, 12, 13, 14, 15, 16, 17, 18, 19, 20, 21, 22, 23, 24, 25, 26, 27, 28, 29, 30, 31, 32, 33, 34, 35, 36, 37, 38, 39, 40, 41, 42, 43, 44, 45, 46, 47, 48, 49, 50, 51, 52, 53, 54, 55, 56, 57, 58, 59, 60, 61, 62, 63, 64, 65, 66, 67, 68] rfl (by decide +kernel)) (goodIn_sub (fun _ h => List.mem_cons_of_mem _ (List.mem_append_right _ h)) (by decide +kernel))
set_option maxRecDepth 20000 in
theorem ggL_at_X3_at : GoodIn wsL_at wsX3_at := goodIn_ca (goodIn_r _ [6, 7, 8, 9, 5, 10, 11, 12, 13, 14, 15, 16, 17, 18, 19, 20, 21, 22, 23, 24, 25, 26, 27, 28, 29, 30, 31, 32, 33, 34, 35, 36, 37, 38, 39, 40, 41, 42, 43, 44, 45, 46, 47, 48, 49, 50, 51, 52, 53, 54, 55, 56, 57, 58, 59, 60, 61, 62, 63, 64, 65, 66, 67, 68] rfl (by decide +kernel)) (goodIn_sub (fun _ h => List.mem_cons_of_mem _ (List.mem_append_right _ h)) (by decide +kernel))
set_option maxRecDepth 20000 in
theorem ggL_root_X3_root : GoodIn wsL_root wsX3_root := goodIn_ca (goodIn_r _ [6, 7, 8, 9, 10, 11, 5, 12, 13, 14, 15, 16, 17, 18, 19, 20, 21, 22, 23, 24, 25, 26, 27, 28] rfl (by decide +kernel)) (goodIn_sub (fun _ h => List.mem_cons_of_mem _ (List.mem_append_right _ h)) (by decide +kernel))
set_option maxRecDepth 20000 in
theorem ggL_poke_X3_poke : GoodIn wsL_poke wsX3_poke := goodIn_ca (goodIn_r _ [6, 7, 8, 9, 5, 10, 11, 12, 13, 14, 15, 16, 17, 18, 19, 20, 21, 22, 23, 24, 25, 26, 27, 28, 29, 30, 31] rfl (by decide +kernel)) (goodIn_sub (fun _ h => List.mem_cons_of_mem _ (List.mem_append_right _ h)) (by decide +kernel))
set_option maxRecDepth 20000 in
theorem ggL_word_X3_word : GoodIn wsL_word wsX3_word := goodIn_ca (goodIn_r _ [6, 7, 8, 9, 5, 10, 11, 12, 13, 14, 15, 16, 17, 18, 19, 20, 21, 22, 23, 24, 25, 26, 27, 28, 29, 30, 31] rfl (by decide +kernel)) (goodIn_sub (fun _ h => List.mem_cons_of_mem _ (List.mem_append_right _ h)) (by decide +kernel))
set_option maxRecDepth 20000 in
theorem ggL_check_X3_check : GoodIn wsL_check wsX3_check := goodIn_ca (goodIn_r _ [6, 7, 8, 9, 5, 10, 11, 12, 13, 14, 15, 16, 17, 18, 19, 20, 21, 22, 23, 24, 25, 26, 27, 28, 29, 30, 31, 32, 33, 34, 35, 36, 37, 38, 39, 40, 41, 42, 43, 44, 45, 46, 47, 48, 49, 50, 51, 52, 53, 54, 55, 56, 57, 58, 59, 60, 61, 62, 63, 64, 65, 66, 67, 68, 69, 70, 71, 72, 73, 74, 75, 76, 77, 78, 79, 80, 81, 82, 83, 84, 85, 86, 87, 88, 89, 90] rfl (by decide +kernel)) (goodIn_sub (fun _ h => List.mem_cons_of_mem _ (List.mem_append_right _ h)) (by decide +kernel))
set_option maxRecDepth 20000 in
theorem ggL_move_X3_move : GoodIn wsL_move wsX3_move := goodIn_ca (goodIn_ca (goodIn_ca (goodIn_r _ [8, 9, 10, 11, 7, 12, 13, 14, 15, 16, 17, 18, 19, 20, 21, 22, 23, 24, 25, 26, 27, 28, 29, 30, 31, 32, 33, 34, 35, 36, 37, 38, 39, 40, 41, 42, 43, 44, 45, 46, 47, 48, 49, 50, 51, 52, 53, 54, 55, 56, 57, 58, 59, 60, 61, 62, 63, 64, 65, 66, 67, 68, 69, 70, 71, 72, 73, 74, 75, 76, 77, 78, 79, 80, 81, 82, 83, 84, 85, 86, 87, 88, 89, 90, 91, 92, 93, 94, 95, 96, 97, 98, 99, 100, 101, 102, 103, 104, 105, 106, 107, 108, 109, 110, 111, 112, 113, 114, 115, 116] rfl (by decide +kernel)) (goodIn_sub (fun _ h => List.mem_cons_of_mem _ (List.mem_append_left _ (List.mem_append_left _ (List.mem_append_right _ h)))) (by decide +kernel))) (goodIn_sub (fun _ h => List.mem_cons_of_mem _ (List.mem_append_left _ (List.mem_append_right _ h))) (by decide +kernel))) (goodIn_sub (fun _ h => List.mem_cons_of_mem _ (List.mem_append_right _ h)) (by decide +kernel))
set_option maxRecDepth 20000 in
theorem ggL_sweep_X3_sweep : GoodIn wsL_sweep wsX3_sweep := goodIn_ca (goodIn_ca (goodIn_r _ [7, 8, 9, 10, 6, 11, 12, 13, 14, 15, 16, 17, 18, 19, 20, 21, 22, 23, 24, 25, 26, 27, 28, 29, 30, 31, 32, 33, 34, 35, 36, 37, 38, 39, 40, 41, 42, 43, 44, 45, 46, 47, 48, 49, 50, 51, 52, 53, 54, 55, 56, 57, 58, 59, 60, 61, 62, 63, 64, 65, 66, 67, 68, 69, 70, 71, 72, 73, 74, 75, 76, 77, 78, 79, 80, 81, 82, 83, 84, 85, 86, 87, 88, 89, 90, 91, 92, 93, 94, 95, 96, 97, 98, 99, 100, 101, 102, 103, 104, 105, 106, 107, 108, 109, 110, 111, 112, 113, 114, 115, 116, 117, 118, 119, 120, 121, 122, 123, 124, 125, 126, 127] rfl (by decide +kernel)) (goodIn_sub (fun _ h => List.mem_cons_of_mem _ (List.mem_append_left _ (List.mem_append_right _ h))) (by decide +kernel))) (goodIn_sub (fun _ h => List.mem_cons_of_mem _ (List.mem_append_right _ h)) (by decide +kernel))
set_option maxRecDepth 20000 in
theorem ggL_dump_X3_dump : GoodIn wsL_dump wsX3_dump := goodIn_ca (goodIn_ca (goodIn_r _ [7, 8, 9, 10, 11, 6, 12, 13, 14, 15, 16, 17, 18, 19, 20, 21, 22, 23, 24, 25, 26, 27, 28, 29, 30, 31, 32, 33, 34, 35, 36, 37, 38, 39, 40, 41, 42, 43, 44, 45, 46, 47, 48, 49, 50, 51, 52, 53, 54, 55, 56, 57, 58, 59, 60, 61, 62, 63, 64, 65, 66, 67, 68, 69, 70, 71, 72, 73, 74, 75, 76, 77, 78, 79, 80, 81, 82, 83, 84, 85, 86, 87, 88, 89, 90, 91, 92, 93, 94, 95, 96, 97, 98, 99, 100, 101, 102, 103, 104, 105, 106, 107, 108, 109, 110, 111, 112, 113, 114, 115, 116, 117, 118, 119, 120, 121, 122, 123, 124, 125, 126, 127, 128, 129, 130, 131, 132, 133, 134, 135, 136, 137, 138, 139, 140, 141, 142, 143, 144, 145, 146, 147, 148, 149, 150, 151, 152] rfl (by decide +kernel)) (goodIn_sub (fun _ h => List.mem_cons_of_mem _ (List.mem_append_left _ (List.mem_append_right _ h))) (by decide +kernel))) (goodIn_sub (fun _ h => List.mem_cons_of_mem _ (List.mem_append_right _ h)) (by decide +kernel))
set_option maxRecDepth 20000 in
theorem ggL_byteAt_X3_byteAt : GoodIn wsL_byteAt wsX3_byteAt := goodIn_ca (goodIn_r _ [6, 7, 8, 9, 10, 5, 11, 12, 13, 14, 15, 16, 17, 18, 19, 20] rfl (by decide +kernel)) (goodIn_sub (fun _ h => List.mem_cons_of_mem _ (List.mem_append_right _ h)) (by decide +kernel))
set_option maxRecDepth 20000 in
theorem ggL_feed_X3_feed : GoodIn wsL_feed wsX3_feed := goodIn_ca (goodIn_ca (goodIn_r _ [7, 8, 9, 10, 11, 12, 13, 14, 15, 16, 17, 18, 19, 20, 21, 22, 23, 24, 25, 26] rfl (by decide +kernel)) (goodIn_sub (fun _ h => List.mem_cons_of_mem _ (List.mem_append_left _ (List.mem_append_right _ h))) (by decide +kernel))) (goodIn_sub (fun _ h => List.mem_cons_of_mem _ (List.mem_append_right _ h)) (by decide +kernel))
set_option maxRecDepth 20000 in
theorem ggL_pass_X3_pass : GoodIn wsL_pass wsX3_pass := goodIn_ca (goodIn_ca (goodIn_ca (goodIn_r _ [8, 9, 10, 11, 12, 13, 14, 15, 16, 17, 18, 19, 20, 21, 7, 22, 23, 24, 25, 26, 27, 28, 29, 30, 31, 32, 33, 34, 35, 36, 37, 38] rfl (by decide +kernel)) (goodIn_sub (fun _ h => List.mem_cons_of_mem _ (List.mem_append_left _ (List.mem_append_left _ (List.mem_append_right _ h)))) (by decide +kernel))) (goodIn_sub (fun _ h => List.mem_cons_of_mem _ (List.mem_append_left _ (List.mem_append_right _ h))) (by decide +kernel))) (goodIn_sub (fun _ h => List.mem_cons_of_mem _ (List.mem_append_right _ h)) (by decide +kernel))
set_option maxRecDepth 20000 in
theorem ggL_restore_X3_restore : GoodIn wsL_restore wsX3_restore := goodIn_ca (goodIn_ca (goodIn_r _ [7, 8, 9, 10, 11, 12, 13, 14, 6, 15, 16, 17, 18, 19, 20, 21, 22, 23, 24, 25, 26, 27, 28, 29, 30, 31, 32, 33, 34, 35, 36, 37, 38, 39, 40, 41, 42, 43, 44, 45, 46, 47, 48, 49, 50, 51, 52, 53, 54, 55, 56, 57, 58, 59, 60, 61, 62, 63, 64, 65, 66, 67, 68, 69, 70, 71, 72, 73, 74, 75, 76, 77, 78, 79, 80, 81, 82, 83, 84, 85, 86, 87, 88, 89, 90, 91, 92, 93, 94, 95, 96, 97, 98, 99, 100, 101, 102, 103, 104, 105, 106, 107, 108, 109, 110, 111, 112, 113, 114, 115, 116, 117, 118, 119, 120, 121, 122, 123, 124, 125, 126, 127, 128, 129, 130, 131, 132, 133, 134, 135, 136, 137, 138, 139, 140, 141, 142, 143, 144, 145, 146, 147, 148, 149, 150, 151, 152, 153, 154, 155, 156, 157, 158, 159, 160, 161, 162, 163, 164, 165, 166, 167, 168, 169, 170, 171, 172, 173, 174, 175, 176, 177, 178, 179, 180, 181, 182, 183, 184, 185, 186, 187, 188] rfl (by decide +kernel)) (goodIn_sub (fun _ h => List.mem_cons_of_mem _ (List.mem_append_left _ (List.mem_append_right _ h))) (by decide +kernel))) (goodIn_sub (fun _ h => List.mem_cons_of_mem _ (List.mem_append_right _ h)) (by decide +kernel))
set_option maxRecDepth 20000 in
theorem ggL_same_X3_same : GoodIn wsL_same wsX3_same := goodIn_ca (goodIn_r _ [6, 7, 8, 9, 5, 10, 11, 12, 13, 14, 15, 16, 17, 18, 19, 20, 21, 22, 23, 24, 25, 26, 27, 28, 29, 30, 31, 32, 33, 34, 35, 36, 37, 38, 39, 40, 41, 42, 43, 44, 45, 46, 47, 48, 49, 50, 51, 52, 53, 54, 55, 56, 57, 58, 59, 60, 61, 62, 63, 64, 65, 66, 67, 68, 69, 70, 71, 72, 73, 74, 75, 76, 77, 78, 79, 80, 81, 82, 83, 84, 85, 86, 87, 88, 89, 90, 91, 92, 93, 94, 95, 96, 97, 98, 99, 100, 101, 102, 103, 104, 105, 106, 107, 108, 109, 110, 111, 112, 113, 114, 115] rfl (by decide +kernel)) (goodIn_sub (fun _ h => List.mem_cons_of_mem _ (List.mem_append_right _ h)) (by decide +kernel))
set_option maxRecDepth 20000 in
theorem ggL_told_X3_told : GoodIn wsL_told wsX3_told := goodIn_ca (goodIn_ca (goodIn_ca (goodIn_r _ [8, 9, 10, 11, 12, 13, 7, 14, 15, 16, 17, 18, 19, 20, 21, 22, 23, 24, 25, 26, 27, 28, 29, 30, 31, 32, 33, 34, 35, 36, 37, 38, 39, 40, 41, 42, 43, 44, 45, 46, 47, 48, 49, 50, 51, 52, 53, 54, 55, 56, 57, 58, 59, 60, 61, 62, 63, 64, 65, 66, 67, 68, 69, 70, 71, 72, 73, 74, 75, 76, 77, 78, 79, 80, 81, 82, 83, 84, 85, 86, 87, 88, 89, 90, 91, 92, 93, 94, 95, 96, 97, 98, 99, 100, 101, 102, 103, 104, 105, 106, 107, 108, 109, 110] rfl (by decide +kernel)) (goodIn_sub (fun _ h => List.mem_cons_of_mem _ (List.mem_append_left _ (List.mem_append_left _ (List.mem_append_right _ h)))) (by decide +kernel))) (goodIn_sub (fun _ h => List.mem_cons_of_mem _ (List.mem_append_left _ (List.mem_append_right _ h))) (by decide +kernel))) (goodIn_sub (fun _ h => List.mem_cons_of_mem _ (List.mem_append_right _ h)) (by decide +kernel))
abbrev vwCl : List vw_C := [(RX0, TX0, 2), (RX1, TX1, 10), (RX2, TX2, 5), (RX3, TX3, 5), (RX4, TX4, 23)]
