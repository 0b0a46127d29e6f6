set_option maxRecDepth 20000 in
theorem ggX4_firstFault_X4_isReference : GoodIn wsX4_firstFault wsX4_isReference := goodIn_r _ [33, 34, 35, 36, 6, 37, 1, 38, 11, 12, 13, 14, 2, 4, 5, 7, 8, 9, 10, 39, 40, 41, 42, 43, 44, 45, 46, 47, 48, 49, 50, 51, 52, 53, 54, 55, 56, 57, 58, 59, 60, 61] rfl (by decide +kernel)
def ql_q165_cX4_firstFault : List (Nat × Jvm.ClassFile.Instr × Nat) := [(0, .iconst 0, 1), (1, .istore_n 2, 1), (2, .iload_n 2, 1), (3, .aload_n 0, 1), (4, .getfield 13, 3), (7, .iload_n 1, 1), (8, .iaload, 1), (9, .if_icmp .ge 49, 3), (12, .aload_n 0, 1), (13, .getfield 16, 3), (16, .sipush 256, 3), (19, .iload_n 1, 1), (20, .imul, 1), (21, .iload_n 2, 1), (22, .iadd, 1), (23, .iaload, 1), (24, .invokestatic 57, 3), (27, .ifCond .ne 9, 3), (30, .sipush 1000, 3), (33, .iload_n 2, 1), (34, .iadd, 1), (35, .ireturn, 1), (36, .aload_n 0, 1), (37, .iload_n 1, 1)]
theorem qt_q165_cX4_firstFault : dcAll cX4_firstFault ql_q165_cX4_firstFault = true := by decide +kernel
theorem dX4_firstFault_0 : decode cX4_firstFault 0 = .ok (.iconst 0, 1) := dc_of qt_q165_cX4_firstFault 0 rfl
theorem dX4_firstFault_1 : decode cX4_firstFault 1 = .ok (.istore_n 2, 1) := dc_of qt_q165_cX4_firstFault 1 rfl
theorem dX4_firstFault_2 : decode cX4_firstFault 2 = .ok (.iload_n 2, 1) := dc_of qt_q165_cX4_firstFault 2 rfl
theorem dX4_firstFault_3 : decode cX4_firstFault 3 = .ok (.aload_n 0, 1) := dc_of qt_q165_cX4_firstFault 3 rfl
theorem dX4_firstFault_4 : decode cX4_firstFault 4 = .ok (.getfield 13, 3) := dc_of qt_q165_cX4_firstFault 4 rfl
theorem dX4_firstFault_7 : decode cX4_firstFault 7 = .ok (.iload_n 1, 1) := dc_of qt_q165_cX4_firstFault 5 rfl
theorem dX4_firstFault_8 : decode cX4_firstFault 8 = .ok (.iaload, 1) := dc_of qt_q165_cX4_firstFault 6 rfl
theorem dX4_firstFault_9 : decode cX4_firstFault 9 = .ok (.if_icmp .ge 49, 3) := dc_of qt_q165_cX4_firstFault 7 rfl
theorem dX4_firstFault_12 : decode cX4_firstFault 12 = .ok (.aload_n 0, 1) := dc_of qt_q165_cX4_firstFault 8 rfl
theorem dX4_firstFault_13 : decode cX4_firstFault 13 = .ok (.getfield 16, 3) := dc_of qt_q165_cX4_firstFault 9 rfl
theorem dX4_firstFault_16 : decode cX4_firstFault 16 = .ok (.sipush 256, 3) := dc_of qt_q165_cX4_firstFault 10 rfl
theorem dX4_firstFault_19 : decode cX4_firstFault 19 = .ok (.iload_n 1, 1) := dc_of qt_q165_cX4_firstFault 11 rfl
theorem dX4_firstFault_20 : decode cX4_firstFault 20 = .ok (.imul, 1) := dc_of qt_q165_cX4_firstFault 12 rfl
theorem dX4_firstFault_21 : decode cX4_firstFault 21 = .ok (.iload_n 2, 1) := dc_of qt_q165_cX4_firstFault 13 rfl
theorem dX4_firstFault_22 : decode cX4_firstFault 22 = .ok (.iadd, 1) := dc_of qt_q165_cX4_firstFault 14 rfl
theorem dX4_firstFault_23 : decode cX4_firstFault 23 = .ok (.iaload, 1) := dc_of qt_q165_cX4_firstFault 15 rfl
theorem dX4_firstFault_24 : decode cX4_firstFault 24 = .ok (.invokestatic 57, 3) := dc_of qt_q165_cX4_firstFault 16 rfl
theorem dX4_firstFault_27 : decode cX4_firstFault 27 = .ok (.ifCond .ne 9, 3) := dc_of qt_q165_cX4_firstFault 17 rfl
theorem dX4_firstFault_30 : decode cX4_firstFault 30 = .ok (.sipush 1000, 3) := dc_of qt_q165_cX4_firstFault 18 rfl
theorem dX4_firstFault_33 : decode cX4_firstFault 33 = .ok (.iload_n 2, 1) := dc_of qt_q165_cX4_firstFault 19 rfl
theorem dX4_firstFault_34 : decode cX4_firstFault 34 = .ok (.iadd, 1) := dc_of qt_q165_cX4_firstFault 20 rfl
theorem dX4_firstFault_35 : decode cX4_firstFault 35 = .ok (.ireturn, 1) := dc_of qt_q165_cX4_firstFault 21 rfl
theorem dX4_firstFault_36 : decode cX4_firstFault 36 = .ok (.aload_n 0, 1) := dc_of qt_q165_cX4_firstFault 22 rfl
theorem dX4_firstFault_37 : decode cX4_firstFault 37 = .ok (.iload_n 1, 1) := dc_of qt_q165_cX4_firstFault 23 rfl
def ql_q166_cX4_firstFault : List (Nat × Jvm.ClassFile.Instr × Nat) := [(38, .iload_n 2, 1), (39, .invokevirtual 61, 3), (42, .istore_n 3, 1), (43, .iload_n 3, 1), (44, .ifCond .ge 9, 3), (47, .sipush 2000, 3), (50, .iload_n 2, 1), (51, .iadd, 1), (52, .ireturn, 1), (53, .iload_n 3, 1), (54, .istore_n 2, 1), (55, .goto (-53), 3), (58, .iconst 0, 1), (59, .istore_n 2, 1), (60, .iload_n 2, 1), (61, .aload_n 0, 1), (62, .getfield 13, 3), (65, .iload_n 1, 1), (66, .iaload, 1), (67, .if_icmp .ge 103, 3), (70, .aload_n 0, 1), (71, .iload_n 1, 1), (72, .iload_n 2, 1), (73, .invokevirtual 71, 3)]
theorem qt_q166_cX4_firstFault : dcAll cX4_firstFault ql_q166_cX4_firstFault = true := by decide +kernel
theorem dX4_firstFault_38 : decode cX4_firstFault 38 = .ok (.iload_n 2, 1) := dc_of qt_q166_cX4_firstFault 0 rfl
theorem dX4_firstFault_39 : decode cX4_firstFault 39 = .ok (.invokevirtual 61, 3) := dc_of qt_q166_cX4_firstFault 1 rfl
theorem dX4_firstFault_42 : decode cX4_firstFault 42 = .ok (.istore_n 3, 1) := dc_of qt_q166_cX4_firstFault 2 rfl
theorem dX4_firstFault_43 : decode cX4_firstFault 43 = .ok (.iload_n 3, 1) := dc_of qt_q166_cX4_firstFault 3 rfl
theorem dX4_firstFault_44 : decode cX4_firstFault 44 = .ok (.ifCond .ge 9, 3) := dc_of qt_q166_cX4_firstFault 4 rfl
theorem dX4_firstFault_47 : decode cX4_firstFault 47 = .ok (.sipush 2000, 3) := dc_of qt_q166_cX4_firstFault 5 rfl
theorem dX4_firstFault_50 : decode cX4_firstFault 50 = .ok (.iload_n 2, 1) := dc_of qt_q166_cX4_firstFault 6 rfl
theorem dX4_firstFault_51 : decode cX4_firstFault 51 = .ok (.iadd, 1) := dc_of qt_q166_cX4_firstFault 7 rfl
theorem dX4_firstFault_52 : decode cX4_firstFault 52 = .ok (.ireturn, 1) := dc_of qt_q166_cX4_firstFault 8 rfl
theorem dX4_firstFault_53 : decode cX4_firstFault 53 = .ok (.iload_n 3, 1) := dc_of qt_q166_cX4_firstFault 9 rfl
theorem dX4_firstFault_54 : decode cX4_firstFault 54 = .ok (.istore_n 2, 1) := dc_of qt_q166_cX4_firstFault 10 rfl
theorem dX4_firstFault_55 : decode cX4_firstFault 55 = .ok (.goto (-53), 3) := dc_of qt_q166_cX4_firstFault 11 rfl
theorem dX4_firstFault_58 : decode cX4_firstFault 58 = .ok (.iconst 0, 1) := dc_of qt_q166_cX4_firstFault 12 rfl
theorem dX4_firstFault_59 : decode cX4_firstFault 59 = .ok (.istore_n 2, 1) := dc_of qt_q166_cX4_firstFault 13 rfl
theorem dX4_firstFault_60 : decode cX4_firstFault 60 = .ok (.iload_n 2, 1) := dc_of qt_q166_cX4_firstFault 14 rfl
theorem dX4_firstFault_61 : decode cX4_firstFault 61 = .ok (.aload_n 0, 1) := dc_of qt_q166_cX4_firstFault 15 rfl
theorem dX4_firstFault_62 : decode cX4_firstFault 62 = .ok (.getfield 13, 3) := dc_of qt_q166_cX4_firstFault 16 rfl
theorem dX4_firstFault_65 : decode cX4_firstFault 65 = .ok (.iload_n 1, 1) := dc_of qt_q166_cX4_firstFault 17 rfl
theorem dX4_firstFault_66 : decode cX4_firstFault 66 = .ok (.iaload, 1) := dc_of qt_q166_cX4_firstFault 18 rfl
theorem dX4_firstFault_67 : decode cX4_firstFault 67 = .ok (.if_icmp .ge 103, 3) := dc_of qt_q166_cX4_firstFault 19 rfl
theorem dX4_firstFault_70 : decode cX4_firstFault 70 = .ok (.aload_n 0, 1) := dc_of qt_q166_cX4_firstFault 20 rfl
theorem dX4_firstFault_71 : decode cX4_firstFault 71 = .ok (.iload_n 1, 1) := dc_of qt_q166_cX4_firstFault 21 rfl
theorem dX4_firstFault_72 : decode cX4_firstFault 72 = .ok (.iload_n 2, 1) := dc_of qt_q166_cX4_firstFault 22 rfl
theorem dX4_firstFault_73 : decode cX4_firstFault 73 = .ok (.invokevirtual 71, 3) := dc_of qt_q166_cX4_firstFault 23 rfl
def ql_q167_cX4_firstFault : List (Nat × Jvm.ClassFile.Instr × Nat) := [(76, .istore_n 3, 1), (77, .aload_n 0, 1), (78, .iload_n 1, 1), (79, .iload_n 2, 1), (80, .invokevirtual 87, 3), (83, .istore 4, 2), (85, .iconst 0, 1), (86, .istore 5, 2), (88, .iload 5, 2), (90, .iload_n 3, 1), (91, .if_icmp .ge 70, 3), (94, .iload 4, 2), (96, .iconst 2, 1), (97, .if_icmp .eq 64, 3), (100, .aload_n 0, 1), (101, .iload_n 1, 1), (102, .aload_n 0, 1), (103, .getfield 16, 3), (106, .sipush 256, 3), (109, .iload_n 1, 1), (110, .imul, 1), (111, .iload_n 2, 1), (112, .iadd, 1), (113, .iconst 1, 1)]
theorem qt_q167_cX4_firstFault : dcAll cX4_firstFault ql_q167_cX4_firstFault = true := by decide +kernel
theorem dX4_firstFault_76 : decode cX4_firstFault 76 = .ok (.istore_n 3, 1) := dc_of qt_q167_cX4_firstFault 0 rfl
theorem dX4_firstFault_77 : decode cX4_firstFault 77 = .ok (.aload_n 0, 1) := dc_of qt_q167_cX4_firstFault 1 rfl
theorem dX4_firstFault_78 : decode cX4_firstFault 78 = .ok (.iload_n 1, 1) := dc_of qt_q167_cX4_firstFault 2 rfl
theorem dX4_firstFault_79 : decode cX4_firstFault 79 = .ok (.iload_n 2, 1) := dc_of qt_q167_cX4_firstFault 3 rfl
theorem dX4_firstFault_80 : decode cX4_firstFault 80 = .ok (.invokevirtual 87, 3) := dc_of qt_q167_cX4_firstFault 4 rfl
theorem dX4_firstFault_83 : decode cX4_firstFault 83 = .ok (.istore 4, 2) := dc_of qt_q167_cX4_firstFault 5 rfl
theorem dX4_firstFault_85 : decode cX4_firstFault 85 = .ok (.iconst 0, 1) := dc_of qt_q167_cX4_firstFault 6 rfl
theorem dX4_firstFault_86 : decode cX4_firstFault 86 = .ok (.istore 5, 2) := dc_of qt_q167_cX4_firstFault 7 rfl
theorem dX4_firstFault_88 : decode cX4_firstFault 88 = .ok (.iload 5, 2) := dc_of qt_q167_cX4_firstFault 8 rfl
theorem dX4_firstFault_90 : decode cX4_firstFault 90 = .ok (.iload_n 3, 1) := dc_of qt_q167_cX4_firstFault 9 rfl
theorem dX4_firstFault_91 : decode cX4_firstFault 91 = .ok (.if_icmp .ge 70, 3) := dc_of qt_q167_cX4_firstFault 10 rfl
theorem dX4_firstFault_94 : decode cX4_firstFault 94 = .ok (.iload 4, 2) := dc_of qt_q167_cX4_firstFault 11 rfl
theorem dX4_firstFault_96 : decode cX4_firstFault 96 = .ok (.iconst 2, 1) := dc_of qt_q167_cX4_firstFault 12 rfl
theorem dX4_firstFault_97 : decode cX4_firstFault 97 = .ok (.if_icmp .eq 64, 3) := dc_of qt_q167_cX4_firstFault 13 rfl
theorem dX4_firstFault_100 : decode cX4_firstFault 100 = .ok (.aload_n 0, 1) := dc_of qt_q167_cX4_firstFault 14 rfl
theorem dX4_firstFault_101 : decode cX4_firstFault 101 = .ok (.iload_n 1, 1) := dc_of qt_q167_cX4_firstFault 15 rfl
theorem dX4_firstFault_102 : decode cX4_firstFault 102 = .ok (.aload_n 0, 1) := dc_of qt_q167_cX4_firstFault 16 rfl
theorem dX4_firstFault_103 : decode cX4_firstFault 103 = .ok (.getfield 16, 3) := dc_of qt_q167_cX4_firstFault 17 rfl
theorem dX4_firstFault_106 : decode cX4_firstFault 106 = .ok (.sipush 256, 3) := dc_of qt_q167_cX4_firstFault 18 rfl
theorem dX4_firstFault_109 : decode cX4_firstFault 109 = .ok (.iload_n 1, 1) := dc_of qt_q167_cX4_firstFault 19 rfl
theorem dX4_firstFault_110 : decode cX4_firstFault 110 = .ok (.imul, 1) := dc_of qt_q167_cX4_firstFault 20 rfl
theorem dX4_firstFault_111 : decode cX4_firstFault 111 = .ok (.iload_n 2, 1) := dc_of qt_q167_cX4_firstFault 21 rfl
theorem dX4_firstFault_112 : decode cX4_firstFault 112 = .ok (.iadd, 1) := dc_of qt_q167_cX4_firstFault 22 rfl
theorem dX4_firstFault_113 : decode cX4_firstFault 113 = .ok (.iconst 1, 1) := dc_of qt_q167_cX4_firstFault 23 rfl
def ql_q168_cX4_firstFault : List (Nat × Jvm.ClassFile.Instr × Nat) := [(114, .iadd, 1), (115, .iload 5, 2), (117, .iadd, 1), (118, .iaload, 1), (119, .iload 4, 2), (121, .iconst 3, 1), (122, .if_icmp .ne 8, 3), (125, .iload 5, 2), (127, .goto 4, 3), (130, .iconst (-1), 1), (131, .invokevirtual 90, 3), (134, .istore 6, 2), (136, .iload 6, 2), (138, .ifCond .le 17, 3), (141, .sipush 1000, 3), (144, .iload 6, 2), (146, .imul, 1), (147, .iload_n 2, 1), (148, .iadd, 1), (149, .iconst 1, 1), (150, .iadd, 1), (151, .iload 5, 2), (153, .iadd, 1), (154, .ireturn, 1)]
theorem qt_q168_cX4_firstFault : dcAll cX4_firstFault ql_q168_cX4_firstFault = true := by decide +kernel
theorem dX4_firstFault_114 : decode cX4_firstFault 114 = .ok (.iadd, 1) := dc_of qt_q168_cX4_firstFault 0 rfl
theorem dX4_firstFault_115 : decode cX4_firstFault 115 = .ok (.iload 5, 2) := dc_of qt_q168_cX4_firstFault 1 rfl
theorem dX4_firstFault_117 : decode cX4_firstFault 117 = .ok (.iadd, 1) := dc_of qt_q168_cX4_firstFault 2 rfl
theorem dX4_firstFault_118 : decode cX4_firstFault 118 = .ok (.iaload, 1) := dc_of qt_q168_cX4_firstFault 3 rfl
theorem dX4_firstFault_119 : decode cX4_firstFault 119 = .ok (.iload 4, 2) := dc_of qt_q168_cX4_firstFault 4 rfl
theorem dX4_firstFault_121 : decode cX4_firstFault 121 = .ok (.iconst 3, 1) := dc_of qt_q168_cX4_firstFault 5 rfl
theorem dX4_firstFault_122 : decode cX4_firstFault 122 = .ok (.if_icmp .ne 8, 3) := dc_of qt_q168_cX4_firstFault 6 rfl
theorem dX4_firstFault_125 : decode cX4_firstFault 125 = .ok (.iload 5, 2) := dc_of qt_q168_cX4_firstFault 7 rfl
theorem dX4_firstFault_127 : decode cX4_firstFault 127 = .ok (.goto 4, 3) := dc_of qt_q168_cX4_firstFault 8 rfl
theorem dX4_firstFault_130 : decode cX4_firstFault 130 = .ok (.iconst (-1), 1) := dc_of qt_q168_cX4_firstFault 9 rfl
theorem dX4_firstFault_131 : decode cX4_firstFault 131 = .ok (.invokevirtual 90, 3) := dc_of qt_q168_cX4_firstFault 10 rfl
theorem dX4_firstFault_134 : decode cX4_firstFault 134 = .ok (.istore 6, 2) := dc_of qt_q168_cX4_firstFault 11 rfl
theorem dX4_firstFault_136 : decode cX4_firstFault 136 = .ok (.iload 6, 2) := dc_of qt_q168_cX4_firstFault 12 rfl
theorem dX4_firstFault_138 : decode cX4_firstFault 138 = .ok (.ifCond .le 17, 3) := dc_of qt_q168_cX4_firstFault 13 rfl
theorem dX4_firstFault_141 : decode cX4_firstFault 141 = .ok (.sipush 1000, 3) := dc_of qt_q168_cX4_firstFault 14 rfl
theorem dX4_firstFault_144 : decode cX4_firstFault 144 = .ok (.iload 6, 2) := dc_of qt_q168_cX4_firstFault 15 rfl
theorem dX4_firstFault_146 : decode cX4_firstFault 146 = .ok (.imul, 1) := dc_of qt_q168_cX4_firstFault 16 rfl
theorem dX4_firstFault_147 : decode cX4_firstFault 147 = .ok (.iload_n 2, 1) := dc_of qt_q168_cX4_firstFault 17 rfl
theorem dX4_firstFault_148 : decode cX4_firstFault 148 = .ok (.iadd, 1) := dc_of qt_q168_cX4_firstFault 18 rfl
theorem dX4_firstFault_149 : decode cX4_firstFault 149 = .ok (.iconst 1, 1) := dc_of qt_q168_cX4_firstFault 19 rfl
theorem dX4_firstFault_150 : decode cX4_firstFault 150 = .ok (.iadd, 1) := dc_of qt_q168_cX4_firstFault 20 rfl
theorem dX4_firstFault_151 : decode cX4_firstFault 151 = .ok (.iload 5, 2) := dc_of qt_q168_cX4_firstFault 21 rfl
theorem dX4_firstFault_153 : decode cX4_firstFault 153 = .ok (.iadd, 1) := dc_of qt_q168_cX4_firstFault 22 rfl
theorem dX4_firstFault_154 : decode cX4_firstFault 154 = .ok (.ireturn, 1) := dc_of qt_q168_cX4_firstFault 23 rfl
def ql_q169_cX4_firstFault : List (Nat × Jvm.ClassFile.Instr × Nat) := [(155, .iinc 5 1, 3), (158, .goto (-70), 3), (161, .iload_n 2, 1), (162, .iconst 1, 1), (163, .iadd, 1), (164, .iload_n 3, 1), (165, .iadd, 1), (166, .istore_n 2, 1), (167, .goto (-107), 3), (170, .iconst 0, 1), (171, .istore_n 3, 1), (172, .iload_n 3, 1), (173, .iconst 4, 1), (174, .if_icmp .ge 50, 3), (177, .aload_n 0, 1), (178, .getfield 19, 3), (181, .iconst 4, 1), (182, .iload_n 1, 1), (183, .imul, 1), (184, .iload_n 3, 1), (185, .iadd, 1), (186, .iaload, 1), (187, .istore 4, 2), (189, .iload 4, 2)]
theorem qt_q169_cX4_firstFault : dcAll cX4_firstFault ql_q169_cX4_firstFault = true := by decide +kernel
theorem dX4_firstFault_155 : decode cX4_firstFault 155 = .ok (.iinc 5 1, 3) := dc_of qt_q169_cX4_firstFault 0 rfl
theorem dX4_firstFault_158 : decode cX4_firstFault 158 = .ok (.goto (-70), 3) := dc_of qt_q169_cX4_firstFault 1 rfl
theorem dX4_firstFault_161 : decode cX4_firstFault 161 = .ok (.iload_n 2, 1) := dc_of qt_q169_cX4_firstFault 2 rfl
theorem dX4_firstFault_162 : decode cX4_firstFault 162 = .ok (.iconst 1, 1) := dc_of qt_q169_cX4_firstFault 3 rfl
theorem dX4_firstFault_163 : decode cX4_firstFault 163 = .ok (.iadd, 1) := dc_of qt_q169_cX4_firstFault 4 rfl
theorem dX4_firstFault_164 : decode cX4_firstFault 164 = .ok (.iload_n 3, 1) := dc_of qt_q169_cX4_firstFault 5 rfl
theorem dX4_firstFault_165 : decode cX4_firstFault 165 = .ok (.iadd, 1) := dc_of qt_q169_cX4_firstFault 6 rfl
theorem dX4_firstFault_166 : decode cX4_firstFault 166 = .ok (.istore_n 2, 1) := dc_of qt_q169_cX4_firstFault 7 rfl
theorem dX4_firstFault_167 : decode cX4_firstFault 167 = .ok (.goto (-107), 3) := dc_of qt_q169_cX4_firstFault 8 rfl
theorem dX4_firstFault_170 : decode cX4_firstFault 170 = .ok (.iconst 0, 1) := dc_of qt_q169_cX4_firstFault 9 rfl
theorem dX4_firstFault_171 : decode cX4_firstFault 171 = .ok (.istore_n 3, 1) := dc_of qt_q169_cX4_firstFault 10 rfl
theorem dX4_firstFault_172 : decode cX4_firstFault 172 = .ok (.iload_n 3, 1) := dc_of qt_q169_cX4_firstFault 11 rfl
theorem dX4_firstFault_173 : decode cX4_firstFault 173 = .ok (.iconst 4, 1) := dc_of qt_q169_cX4_firstFault 12 rfl
theorem dX4_firstFault_174 : decode cX4_firstFault 174 = .ok (.if_icmp .ge 50, 3) := dc_of qt_q169_cX4_firstFault 13 rfl
theorem dX4_firstFault_177 : decode cX4_firstFault 177 = .ok (.aload_n 0, 1) := dc_of qt_q169_cX4_firstFault 14 rfl
theorem dX4_firstFault_178 : decode cX4_firstFault 178 = .ok (.getfield 19, 3) := dc_of qt_q169_cX4_firstFault 15 rfl
theorem dX4_firstFault_181 : decode cX4_firstFault 181 = .ok (.iconst 4, 1) := dc_of qt_q169_cX4_firstFault 16 rfl
theorem dX4_firstFault_182 : decode cX4_firstFault 182 = .ok (.iload_n 1, 1) := dc_of qt_q169_cX4_firstFault 17 rfl
theorem dX4_firstFault_183 : decode cX4_firstFault 183 = .ok (.imul, 1) := dc_of qt_q169_cX4_firstFault 18 rfl
theorem dX4_firstFault_184 : decode cX4_firstFault 184 = .ok (.iload_n 3, 1) := dc_of qt_q169_cX4_firstFault 19 rfl
theorem dX4_firstFault_185 : decode cX4_firstFault 185 = .ok (.iadd, 1) := dc_of qt_q169_cX4_firstFault 20 rfl
theorem dX4_firstFault_186 : decode cX4_firstFault 186 = .ok (.iaload, 1) := dc_of qt_q169_cX4_firstFault 21 rfl
theorem dX4_firstFault_187 : decode cX4_firstFault 187 = .ok (.istore 4, 2) := dc_of qt_q169_cX4_firstFault 22 rfl
theorem dX4_firstFault_189 : decode cX4_firstFault 189 = .ok (.iload 4, 2) := dc_of qt_q169_cX4_firstFault 23 rfl
def ql_q170_cX4_firstFault : List (Nat × Jvm.ClassFile.Instr × Nat) := [(191, .invokestatic 81, 3), (194, .ifCond .ne 24, 3), (197, .iload 4, 2), (199, .ifCond .eq 19, 3), (202, .aload_n 0, 1), (203, .iload_n 1, 1), (204, .iload 4, 2), (206, .invokevirtual 84, 3), (209, .ifCond .ne 9, 3), (212, .sipush 6000, 3), (215, .iload_n 3, 1), (216, .iadd, 1), (217, .ireturn, 1), (218, .iinc 3 1, 3), (221, .goto (-49), 3), (224, .iconst 0, 1), (225, .ireturn, 1)]
theorem qt_q170_cX4_firstFault : dcAll cX4_firstFault ql_q170_cX4_firstFault = true := by decide +kernel
theorem dX4_firstFault_191 : decode cX4_firstFault 191 = .ok (.invokestatic 81, 3) := dc_of qt_q170_cX4_firstFault 0 rfl
theorem dX4_firstFault_194 : decode cX4_firstFault 194 = .ok (.ifCond .ne 24, 3) := dc_of qt_q170_cX4_firstFault 1 rfl
theorem dX4_firstFault_197 : decode cX4_firstFault 197 = .ok (.iload 4, 2) := dc_of qt_q170_cX4_firstFault 2 rfl
theorem dX4_firstFault_199 : decode cX4_firstFault 199 = .ok (.ifCond .eq 19, 3) := dc_of qt_q170_cX4_firstFault 3 rfl
theorem dX4_firstFault_202 : decode cX4_firstFault 202 = .ok (.aload_n 0, 1) := dc_of qt_q170_cX4_firstFault 4 rfl
theorem dX4_firstFault_203 : decode cX4_firstFault 203 = .ok (.iload_n 1, 1) := dc_of qt_q170_cX4_firstFault 5 rfl
theorem dX4_firstFault_204 : decode cX4_firstFault 204 = .ok (.iload 4, 2) := dc_of qt_q170_cX4_firstFault 6 rfl
theorem dX4_firstFault_206 : decode cX4_firstFault 206 = .ok (.invokevirtual 84, 3) := dc_of qt_q170_cX4_firstFault 7 rfl
theorem dX4_firstFault_209 : decode cX4_firstFault 209 = .ok (.ifCond .ne 9, 3) := dc_of qt_q170_cX4_firstFault 8 rfl
theorem dX4_firstFault_212 : decode cX4_firstFault 212 = .ok (.sipush 6000, 3) := dc_of qt_q170_cX4_firstFault 9 rfl
theorem dX4_firstFault_215 : decode cX4_firstFault 215 = .ok (.iload_n 3, 1) := dc_of qt_q170_cX4_firstFault 10 rfl
theorem dX4_firstFault_216 : decode cX4_firstFault 216 = .ok (.iadd, 1) := dc_of qt_q170_cX4_firstFault 11 rfl
theorem dX4_firstFault_217 : decode cX4_firstFault 217 = .ok (.ireturn, 1) := dc_of qt_q170_cX4_firstFault 12 rfl
theorem dX4_firstFault_218 : decode cX4_firstFault 218 = .ok (.iinc 3 1, 3) := dc_of qt_q170_cX4_firstFault 13 rfl
theorem dX4_firstFault_221 : decode cX4_firstFault 221 = .ok (.goto (-49), 3) := dc_of qt_q170_cX4_firstFault 14 rfl
theorem dX4_firstFault_224 : decode cX4_firstFault 224 = .ok (.iconst 0, 1) := dc_of qt_q170_cX4_firstFault 15 rfl
theorem dX4_firstFault_225 : decode cX4_firstFault 225 = .ok (.ireturn, 1) := dc_of qt_q170_cX4_firstFault 16 rfl
set_option maxRecDepth 20000 in
theorem ggX4_check_X4_isHeap : GoodIn wsX4_check wsX4_isHeap := goodIn_r _ [5] rfl (by decide +kernel)
set_option maxRecDepth 20000 in
theorem ggX4_check_X4_firstFault : GoodIn wsX4_check wsX4_firstFault := goodIn_r _ [9, 10, 11, 12, 13, 14, 4, 15, 16, 17, 18, 19, 20, 21, 22, 23, 24, 25, 26, 27, 28, 29, 30, 31, 32, 33, 34, 35, 36, 37, 38, 39, 40, 41, 42, 43, 44, 45, 46, 47, 48, 49, 50, 51, 52, 53, 54, 55, 56, 57, 58, 59, 60, 61, 62, 63, 64, 65, 66, 67, 68, 69] rfl (by decide +kernel)
def ql_q171_cX4_check : List (Nat × Jvm.ClassFile.Instr × Nat) := [(0, .aload_n 0, 1), (1, .iload_n 1, 1), (2, .invokestatic 65, 3), (5, .ifCond .eq 7, 3), (8, .iconst 0, 1), (9, .goto 4, 3), (12, .iconst 1, 1), (13, .putfield 49, 3), (16, .aload_n 0, 1), (17, .getfield 49, 3), (20, .iconst 1, 1), (21, .if_icmp .ne 7, 3), (24, .iconst 0, 1), (25, .goto 8, 3), (28, .aload_n 0, 1), (29, .iload_n 1, 1), (30, .invokevirtual 93, 3), (33, .ireturn, 1)]
theorem qt_q171_cX4_check : dcAll cX4_check ql_q171_cX4_check = true := by decide +kernel
theorem dX4_check_0 : decode cX4_check 0 = .ok (.aload_n 0, 1) := dc_of qt_q171_cX4_check 0 rfl
theorem dX4_check_1 : decode cX4_check 1 = .ok (.iload_n 1, 1) := dc_of qt_q171_cX4_check 1 rfl
theorem dX4_check_2 : decode cX4_check 2 = .ok (.invokestatic 65, 3) := dc_of qt_q171_cX4_check 2 rfl
theorem dX4_check_5 : decode cX4_check 5 = .ok (.ifCond .eq 7, 3) := dc_of qt_q171_cX4_check 3 rfl
theorem dX4_check_8 : decode cX4_check 8 = .ok (.iconst 0, 1) := dc_of qt_q171_cX4_check 4 rfl
theorem dX4_check_9 : decode cX4_check 9 = .ok (.goto 4, 3) := dc_of qt_q171_cX4_check 5 rfl
theorem dX4_check_12 : decode cX4_check 12 = .ok (.iconst 1, 1) := dc_of qt_q171_cX4_check 6 rfl
theorem dX4_check_13 : decode cX4_check 13 = .ok (.putfield 49, 3) := dc_of qt_q171_cX4_check 7 rfl
theorem dX4_check_16 : decode cX4_check 16 = .ok (.aload_n 0, 1) := dc_of qt_q171_cX4_check 8 rfl
theorem dX4_check_17 : decode cX4_check 17 = .ok (.getfield 49, 3) := dc_of qt_q171_cX4_check 9 rfl
theorem dX4_check_20 : decode cX4_check 20 = .ok (.iconst 1, 1) := dc_of qt_q171_cX4_check 10 rfl
theorem dX4_check_21 : decode cX4_check 21 = .ok (.if_icmp .ne 7, 3) := dc_of qt_q171_cX4_check 11 rfl
theorem dX4_check_24 : decode cX4_check 24 = .ok (.iconst 0, 1) := dc_of qt_q171_cX4_check 12 rfl
theorem dX4_check_25 : decode cX4_check 25 = .ok (.goto 8, 3) := dc_of qt_q171_cX4_check 13 rfl
theorem dX4_check_28 : decode cX4_check 28 = .ok (.aload_n 0, 1) := dc_of qt_q171_cX4_check 14 rfl
theorem dX4_check_29 : decode cX4_check 29 = .ok (.iload_n 1, 1) := dc_of qt_q171_cX4_check 15 rfl
theorem dX4_check_30 : decode cX4_check 30 = .ok (.invokevirtual 93, 3) := dc_of qt_q171_cX4_check 16 rfl
theorem dX4_check_33 : decode cX4_check 33 = .ok (.ireturn, 1) := dc_of qt_q171_cX4_check 17 rfl
def ql_q172_cX4_isBase : List (Nat × Jvm.ClassFile.Instr × Nat) := [(0, .iload_n 0, 1), (1, .iconst 4, 1), (2, .if_icmp .lt 19, 3), (5, .iload_n 0, 1), (6, .ldc 97, 2), (8, .if_icmp .gt 13, 3), (11, .iload_n 0, 1), (12, .iconst 4, 1), (13, .irem, 1), (14, .ifCond .ne 7, 3), (17, .iconst 1, 1), (18, .goto 4, 3), (21, .iconst 0, 1), (22, .ireturn, 1)]
theorem qt_q172_cX4_isBase : dcAll cX4_isBase ql_q172_cX4_isBase = true := by decide +kernel
theorem dX4_isBase_0 : decode cX4_isBase 0 = .ok (.iload_n 0, 1) := dc_of qt_q172_cX4_isBase 0 rfl
theorem dX4_isBase_1 : decode cX4_isBase 1 = .ok (.iconst 4, 1) := dc_of qt_q172_cX4_isBase 1 rfl
theorem dX4_isBase_2 : decode cX4_isBase 2 = .ok (.if_icmp .lt 19, 3) := dc_of qt_q172_cX4_isBase 2 rfl
theorem dX4_isBase_5 : decode cX4_isBase 5 = .ok (.iload_n 0, 1) := dc_of qt_q172_cX4_isBase 3 rfl
theorem dX4_isBase_6 : decode cX4_isBase 6 = .ok (.ldc 97, 2) := dc_of qt_q172_cX4_isBase 4 rfl
theorem dX4_isBase_8 : decode cX4_isBase 8 = .ok (.if_icmp .gt 13, 3) := dc_of qt_q172_cX4_isBase 5 rfl
theorem dX4_isBase_11 : decode cX4_isBase 11 = .ok (.iload_n 0, 1) := dc_of qt_q172_cX4_isBase 6 rfl
theorem dX4_isBase_12 : decode cX4_isBase 12 = .ok (.iconst 4, 1) := dc_of qt_q172_cX4_isBase 7 rfl
theorem dX4_isBase_13 : decode cX4_isBase 13 = .ok (.irem, 1) := dc_of qt_q172_cX4_isBase 8 rfl
theorem dX4_isBase_14 : decode cX4_isBase 14 = .ok (.ifCond .ne 7, 3) := dc_of qt_q172_cX4_isBase 9 rfl
theorem dX4_isBase_17 : decode cX4_isBase 17 = .ok (.iconst 1, 1) := dc_of qt_q172_cX4_isBase 10 rfl
theorem dX4_isBase_18 : decode cX4_isBase 18 = .ok (.goto 4, 3) := dc_of qt_q172_cX4_isBase 11 rfl
theorem dX4_isBase_21 : decode cX4_isBase 21 = .ok (.iconst 0, 1) := dc_of qt_q172_cX4_isBase 12 rfl
theorem dX4_isBase_22 : decode cX4_isBase 22 = .ok (.ireturn, 1) := dc_of qt_q172_cX4_isBase 13 rfl
set_option maxRecDepth 20000 in
theorem ggX4_move_X4_isHeap : GoodIn wsX4_move wsX4_isHeap := goodIn_r _ [9] rfl (by decide +kernel)
set_option maxRecDepth 20000 in
theorem ggX4_move_X4_isBase : GoodIn wsX4_move wsX4_isBase := goodIn_r _ [12, 13] rfl (by decide +kernel)
set_option maxRecDepth 20000 in
theorem ggX4_move_X4_firstFault : GoodIn wsX4_move wsX4_firstFault := goodIn_r _ [17, 3, 4, 5, 18, 19, 8, 20, 21, 22, 23, 24, 25, 26, 27, 28, 29, 30, 31, 32, 33, 34, 35, 36, 37, 38, 39, 40, 41, 42, 43, 44, 45, 46, 47, 48, 49, 50, 2, 51, 52, 53, 54, 55, 56, 57, 58, 59, 60, 61, 62, 63, 64, 65, 66, 67, 68, 69, 70, 71, 72, 73] rfl (by decide +kernel)
set_option maxRecDepth 20000 in
theorem ggX4_move_X4_slotsAt : GoodIn wsX4_move wsX4_slotsAt := goodIn_r _ [31, 4, 51, 52, 53, 54, 55, 56, 57, 58, 59, 60, 61, 62, 63, 64, 65, 66, 67, 68, 69, 70, 71, 72, 73] rfl (by decide +kernel)
set_option maxRecDepth 20000 in
theorem ggX4_move_X4_kindAt : GoodIn wsX4_move wsX4_kindAt := goodIn_r _ [35, 4, 51, 52, 53, 54, 55, 56, 57, 58, 59, 60, 61, 62, 63, 64, 65, 66, 67, 68, 69, 70, 71, 72, 73] rfl (by decide +kernel)
set_option maxRecDepth 20000 in
theorem ggX4_move_X4_isNumber : GoodIn wsX4_move wsX4_isNumber := goodIn_r _ [42] rfl (by decide +kernel)
def ql_q173_cX4_move : List (Nat × Jvm.ClassFile.Instr × Nat) := [(0, .aload_n 0, 1), (1, .iload_n 1, 1), (2, .invokestatic 65, 3), (5, .ifCond .ne 7, 3), (8, .iconst 1, 1), (9, .goto 27, 3), (12, .iload_n 2, 1), (13, .invokestatic 98, 3), (16, .ifCond .ne 7, 3), (19, .iconst 2, 1), (20, .goto 16, 3), (23, .aload_n 0, 1), (24, .iload_n 1, 1), (25, .invokevirtual 93, 3), (28, .ifCond .le 7, 3), (31, .iconst 3, 1), (32, .goto 4, 3), (35, .iconst 0, 1), (36, .putfield 49, 3), (39, .aload_n 0, 1), (40, .getfield 49, 3), (43, .ifCond .le 5, 3), (46, .iconst 0, 1), (47, .ireturn, 1)]
theorem qt_q173_cX4_move : dcAll cX4_move ql_q173_cX4_move = true := by decide +kernel
theorem dX4_move_0 : decode cX4_move 0 = .ok (.aload_n 0, 1) := dc_of qt_q173_cX4_move 0 rfl
theorem dX4_move_1 : decode cX4_move 1 = .ok (.iload_n 1, 1) := dc_of qt_q173_cX4_move 1 rfl
theorem dX4_move_2 : decode cX4_move 2 = .ok (.invokestatic 65, 3) := dc_of qt_q173_cX4_move 2 rfl
theorem dX4_move_5 : decode cX4_move 5 = .ok (.ifCond .ne 7, 3) := dc_of qt_q173_cX4_move 3 rfl
theorem dX4_move_8 : decode cX4_move 8 = .ok (.iconst 1, 1) := dc_of qt_q173_cX4_move 4 rfl
theorem dX4_move_9 : decode cX4_move 9 = .ok (.goto 27, 3) := dc_of qt_q173_cX4_move 5 rfl
theorem dX4_move_12 : decode cX4_move 12 = .ok (.iload_n 2, 1) := dc_of qt_q173_cX4_move 6 rfl
theorem dX4_move_13 : decode cX4_move 13 = .ok (.invokestatic 98, 3) := dc_of qt_q173_cX4_move 7 rfl
theorem dX4_move_16 : decode cX4_move 16 = .ok (.ifCond .ne 7, 3) := dc_of qt_q173_cX4_move 8 rfl
theorem dX4_move_19 : decode cX4_move 19 = .ok (.iconst 2, 1) := dc_of qt_q173_cX4_move 9 rfl
theorem dX4_move_20 : decode cX4_move 20 = .ok (.goto 16, 3) := dc_of qt_q173_cX4_move 10 rfl
theorem dX4_move_23 : decode cX4_move 23 = .ok (.aload_n 0, 1) := dc_of qt_q173_cX4_move 11 rfl
theorem dX4_move_24 : decode cX4_move 24 = .ok (.iload_n 1, 1) := dc_of qt_q173_cX4_move 12 rfl
theorem dX4_move_25 : decode cX4_move 25 = .ok (.invokevirtual 93, 3) := dc_of qt_q173_cX4_move 13 rfl
theorem dX4_move_28 : decode cX4_move 28 = .ok (.ifCond .le 7, 3) := dc_of qt_q173_cX4_move 14 rfl
theorem dX4_move_31 : decode cX4_move 31 = .ok (.iconst 3, 1) := dc_of qt_q173_cX4_move 15 rfl
theorem dX4_move_32 : decode cX4_move 32 = .ok (.goto 4, 3) := dc_of qt_q173_cX4_move 16 rfl
theorem dX4_move_35 : decode cX4_move 35 = .ok (.iconst 0, 1) := dc_of qt_q173_cX4_move 17 rfl
theorem dX4_move_36 : decode cX4_move 36 = .ok (.putfield 49, 3) := dc_of qt_q173_cX4_move 18 rfl
theorem dX4_move_39 : decode cX4_move 39 = .ok (.aload_n 0, 1) := dc_of qt_q173_cX4_move 19 rfl
theorem dX4_move_40 : decode cX4_move 40 = .ok (.getfield 49, 3) := dc_of qt_q173_cX4_move 20 rfl
theorem dX4_move_43 : decode cX4_move 43 = .ok (.ifCond .le 5, 3) := dc_of qt_q173_cX4_move 21 rfl
theorem dX4_move_46 : decode cX4_move 46 = .ok (.iconst 0, 1) := dc_of qt_q173_cX4_move 22 rfl
theorem dX4_move_47 : decode cX4_move 47 = .ok (.ireturn, 1) := dc_of qt_q173_cX4_move 23 rfl
def ql_q174_cX4_move : List (Nat × Jvm.ClassFile.Instr × Nat) := [(48, .iload_n 2, 1), (49, .aload_n 0, 1), (50, .getfield 7, 3), (53, .iload_n 1, 1), (54, .iaload, 1), (55, .isub, 1), (56, .istore_n 3, 1), (57, .iconst 0, 1), (58, .istore 4, 2), (60, .iconst 0, 1), (61, .istore 5, 2), (63, .iload 5, 2), (65, .aload_n 0, 1), (66, .getfield 13, 3), (69, .iload_n 1, 1), (70, .iaload, 1), (71, .if_icmp .ge 109, 3), (74, .iconst 0, 1), (75, .istore 6, 2), (77, .iload 6, 2), (79, .aload_n 0, 1), (80, .iload_n 1, 1), (81, .iload 5, 2), (83, .invokevirtual 71, 3)]
theorem qt_q174_cX4_move : dcAll cX4_move ql_q174_cX4_move = true := by decide +kernel
theorem dX4_move_48 : decode cX4_move 48 = .ok (.iload_n 2, 1) := dc_of qt_q174_cX4_move 0 rfl
theorem dX4_move_49 : decode cX4_move 49 = .ok (.aload_n 0, 1) := dc_of qt_q174_cX4_move 1 rfl
theorem dX4_move_50 : decode cX4_move 50 = .ok (.getfield 7, 3) := dc_of qt_q174_cX4_move 2 rfl
theorem dX4_move_53 : decode cX4_move 53 = .ok (.iload_n 1, 1) := dc_of qt_q174_cX4_move 3 rfl
theorem dX4_move_54 : decode cX4_move 54 = .ok (.iaload, 1) := dc_of qt_q174_cX4_move 4 rfl
theorem dX4_move_55 : decode cX4_move 55 = .ok (.isub, 1) := dc_of qt_q174_cX4_move 5 rfl
theorem dX4_move_56 : decode cX4_move 56 = .ok (.istore_n 3, 1) := dc_of qt_q174_cX4_move 6 rfl
theorem dX4_move_57 : decode cX4_move 57 = .ok (.iconst 0, 1) := dc_of qt_q174_cX4_move 7 rfl
theorem dX4_move_58 : decode cX4_move 58 = .ok (.istore 4, 2) := dc_of qt_q174_cX4_move 8 rfl
theorem dX4_move_60 : decode cX4_move 60 = .ok (.iconst 0, 1) := dc_of qt_q174_cX4_move 9 rfl
theorem dX4_move_61 : decode cX4_move 61 = .ok (.istore 5, 2) := dc_of qt_q174_cX4_move 10 rfl
theorem dX4_move_63 : decode cX4_move 63 = .ok (.iload 5, 2) := dc_of qt_q174_cX4_move 11 rfl
theorem dX4_move_65 : decode cX4_move 65 = .ok (.aload_n 0, 1) := dc_of qt_q174_cX4_move 12 rfl
theorem dX4_move_66 : decode cX4_move 66 = .ok (.getfield 13, 3) := dc_of qt_q174_cX4_move 13 rfl
theorem dX4_move_69 : decode cX4_move 69 = .ok (.iload_n 1, 1) := dc_of qt_q174_cX4_move 14 rfl
theorem dX4_move_70 : decode cX4_move 70 = .ok (.iaload, 1) := dc_of qt_q174_cX4_move 15 rfl
theorem dX4_move_71 : decode cX4_move 71 = .ok (.if_icmp .ge 109, 3) := dc_of qt_q174_cX4_move 16 rfl
theorem dX4_move_74 : decode cX4_move 74 = .ok (.iconst 0, 1) := dc_of qt_q174_cX4_move 17 rfl
theorem dX4_move_75 : decode cX4_move 75 = .ok (.istore 6, 2) := dc_of qt_q174_cX4_move 18 rfl
theorem dX4_move_77 : decode cX4_move 77 = .ok (.iload 6, 2) := dc_of qt_q174_cX4_move 19 rfl
theorem dX4_move_79 : decode cX4_move 79 = .ok (.aload_n 0, 1) := dc_of qt_q174_cX4_move 20 rfl
theorem dX4_move_80 : decode cX4_move 80 = .ok (.iload_n 1, 1) := dc_of qt_q174_cX4_move 21 rfl
theorem dX4_move_81 : decode cX4_move 81 = .ok (.iload 5, 2) := dc_of qt_q174_cX4_move 22 rfl
theorem dX4_move_83 : decode cX4_move 83 = .ok (.invokevirtual 71, 3) := dc_of qt_q174_cX4_move 23 rfl
def ql_q175_cX4_move : List (Nat × Jvm.ClassFile.Instr × Nat) := [(86, .if_icmp .ge 77, 3), (89, .aload_n 0, 1), (90, .iload_n 1, 1), (91, .iload 5, 2), (93, .invokevirtual 87, 3), (96, .iconst 2, 1), (97, .if_icmp .eq 66, 3), (100, .sipush 256, 3), (103, .iload_n 1, 1), (104, .imul, 1), (105, .iload 5, 2), (107, .iadd, 1), (108, .iconst 1, 1), (109, .iadd, 1), (110, .iload 6, 2), (112, .iadd, 1), (113, .istore 7, 2), (115, .aload_n 0, 1), (116, .getfield 16, 3), (119, .iload 7, 2), (121, .iaload, 1), (122, .invokestatic 81, 3), (125, .ifCond .ne 32, 3), (128, .aload_n 0, 1)]
theorem qt_q175_cX4_move : dcAll cX4_move ql_q175_cX4_move = true := by decide +kernel
theorem dX4_move_86 : decode cX4_move 86 = .ok (.if_icmp .ge 77, 3) := dc_of qt_q175_cX4_move 0 rfl
theorem dX4_move_89 : decode cX4_move 89 = .ok (.aload_n 0, 1) := dc_of qt_q175_cX4_move 1 rfl
theorem dX4_move_90 : decode cX4_move 90 = .ok (.iload_n 1, 1) := dc_of qt_q175_cX4_move 2 rfl
theorem dX4_move_91 : decode cX4_move 91 = .ok (.iload 5, 2) := dc_of qt_q175_cX4_move 3 rfl
theorem dX4_move_93 : decode cX4_move 93 = .ok (.invokevirtual 87, 3) := dc_of qt_q175_cX4_move 4 rfl
theorem dX4_move_96 : decode cX4_move 96 = .ok (.iconst 2, 1) := dc_of qt_q175_cX4_move 5 rfl
theorem dX4_move_97 : decode cX4_move 97 = .ok (.if_icmp .eq 66, 3) := dc_of qt_q175_cX4_move 6 rfl
theorem dX4_move_100 : decode cX4_move 100 = .ok (.sipush 256, 3) := dc_of qt_q175_cX4_move 7 rfl
theorem dX4_move_103 : decode cX4_move 103 = .ok (.iload_n 1, 1) := dc_of qt_q175_cX4_move 8 rfl
theorem dX4_move_104 : decode cX4_move 104 = .ok (.imul, 1) := dc_of qt_q175_cX4_move 9 rfl
theorem dX4_move_105 : decode cX4_move 105 = .ok (.iload 5, 2) := dc_of qt_q175_cX4_move 10 rfl
theorem dX4_move_107 : decode cX4_move 107 = .ok (.iadd, 1) := dc_of qt_q175_cX4_move 11 rfl
theorem dX4_move_108 : decode cX4_move 108 = .ok (.iconst 1, 1) := dc_of qt_q175_cX4_move 12 rfl
theorem dX4_move_109 : decode cX4_move 109 = .ok (.iadd, 1) := dc_of qt_q175_cX4_move 13 rfl
theorem dX4_move_110 : decode cX4_move 110 = .ok (.iload 6, 2) := dc_of qt_q175_cX4_move 14 rfl
theorem dX4_move_112 : decode cX4_move 112 = .ok (.iadd, 1) := dc_of qt_q175_cX4_move 15 rfl
theorem dX4_move_113 : decode cX4_move 113 = .ok (.istore 7, 2) := dc_of qt_q175_cX4_move 16 rfl
theorem dX4_move_115 : decode cX4_move 115 = .ok (.aload_n 0, 1) := dc_of qt_q175_cX4_move 17 rfl
theorem dX4_move_116 : decode cX4_move 116 = .ok (.getfield 16, 3) := dc_of qt_q175_cX4_move 18 rfl
theorem dX4_move_119 : decode cX4_move 119 = .ok (.iload 7, 2) := dc_of qt_q175_cX4_move 19 rfl
theorem dX4_move_121 : decode cX4_move 121 = .ok (.iaload, 1) := dc_of qt_q175_cX4_move 20 rfl
theorem dX4_move_122 : decode cX4_move 122 = .ok (.invokestatic 81, 3) := dc_of qt_q175_cX4_move 21 rfl
theorem dX4_move_125 : decode cX4_move 125 = .ok (.ifCond .ne 32, 3) := dc_of qt_q175_cX4_move 22 rfl
theorem dX4_move_128 : decode cX4_move 128 = .ok (.aload_n 0, 1) := dc_of qt_q175_cX4_move 23 rfl
def ql_q176_cX4_move : List (Nat × Jvm.ClassFile.Instr × Nat) := [(129, .getfield 16, 3), (132, .iload 7, 2), (134, .iaload, 1), (135, .ifCond .eq 22, 3), (138, .aload_n 0, 1), (139, .getfield 16, 3), (142, .iload 7, 2), (144, .aload_n 0, 1), (145, .getfield 16, 3), (148, .iload 7, 2), (150, .iaload, 1), (151, .iload_n 3, 1), (152, .iadd, 1), (153, .iastore, 1), (154, .iinc 4 1, 3), (157, .iinc 6 1, 3), (160, .goto (-83), 3), (163, .iload 5, 2), (165, .iconst 1, 1), (166, .iadd, 1), (167, .aload_n 0, 1), (168, .iload_n 1, 1), (169, .iload 5, 2), (171, .invokevirtual 71, 3)]
theorem qt_q176_cX4_move : dcAll cX4_move ql_q176_cX4_move = true := by decide +kernel
theorem dX4_move_129 : decode cX4_move 129 = .ok (.getfield 16, 3) := dc_of qt_q176_cX4_move 0 rfl
theorem dX4_move_132 : decode cX4_move 132 = .ok (.iload 7, 2) := dc_of qt_q176_cX4_move 1 rfl
theorem dX4_move_134 : decode cX4_move 134 = .ok (.iaload, 1) := dc_of qt_q176_cX4_move 2 rfl
theorem dX4_move_135 : decode cX4_move 135 = .ok (.ifCond .eq 22, 3) := dc_of qt_q176_cX4_move 3 rfl
theorem dX4_move_138 : decode cX4_move 138 = .ok (.aload_n 0, 1) := dc_of qt_q176_cX4_move 4 rfl
theorem dX4_move_139 : decode cX4_move 139 = .ok (.getfield 16, 3) := dc_of qt_q176_cX4_move 5 rfl
theorem dX4_move_142 : decode cX4_move 142 = .ok (.iload 7, 2) := dc_of qt_q176_cX4_move 6 rfl
theorem dX4_move_144 : decode cX4_move 144 = .ok (.aload_n 0, 1) := dc_of qt_q176_cX4_move 7 rfl
theorem dX4_move_145 : decode cX4_move 145 = .ok (.getfield 16, 3) := dc_of qt_q176_cX4_move 8 rfl
theorem dX4_move_148 : decode cX4_move 148 = .ok (.iload 7, 2) := dc_of qt_q176_cX4_move 9 rfl
theorem dX4_move_150 : decode cX4_move 150 = .ok (.iaload, 1) := dc_of qt_q176_cX4_move 10 rfl
theorem dX4_move_151 : decode cX4_move 151 = .ok (.iload_n 3, 1) := dc_of qt_q176_cX4_move 11 rfl
theorem dX4_move_152 : decode cX4_move 152 = .ok (.iadd, 1) := dc_of qt_q176_cX4_move 12 rfl
theorem dX4_move_153 : decode cX4_move 153 = .ok (.iastore, 1) := dc_of qt_q176_cX4_move 13 rfl
theorem dX4_move_154 : decode cX4_move 154 = .ok (.iinc 4 1, 3) := dc_of qt_q176_cX4_move 14 rfl
theorem dX4_move_157 : decode cX4_move 157 = .ok (.iinc 6 1, 3) := dc_of qt_q176_cX4_move 15 rfl
theorem dX4_move_160 : decode cX4_move 160 = .ok (.goto (-83), 3) := dc_of qt_q176_cX4_move 16 rfl
