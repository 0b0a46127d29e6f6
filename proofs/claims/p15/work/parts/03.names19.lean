theorem dX4_readAll_5 : decode cX4_readAll 5 = .ok (.aload_n 0, 1) := dc_of qt_q228_cX4_readAll 3 rfl
theorem dX4_readAll_6 : decode cX4_readAll 6 = .ok (.iconst (-1), 1) := dc_of qt_q228_cX4_readAll 4 rfl
theorem dX4_readAll_7 : decode cX4_readAll 7 = .ok (.putfield 152, 3) := dc_of qt_q228_cX4_readAll 5 rfl
theorem dX4_readAll_10 : decode cX4_readAll 10 = .ok (.aload_n 0, 1) := dc_of qt_q228_cX4_readAll 6 rfl
theorem dX4_readAll_11 : decode cX4_readAll 11 = .ok (.iconst 0, 1) := dc_of qt_q228_cX4_readAll 7 rfl
theorem dX4_readAll_12 : decode cX4_readAll 12 = .ok (.putfield 176, 3) := dc_of qt_q228_cX4_readAll 8 rfl
theorem dX4_readAll_15 : decode cX4_readAll 15 = .ok (.aload_n 0, 1) := dc_of qt_q228_cX4_readAll 9 rfl
theorem dX4_readAll_16 : decode cX4_readAll 16 = .ok (.iconst 0, 1) := dc_of qt_q228_cX4_readAll 10 rfl
theorem dX4_readAll_17 : decode cX4_readAll 17 = .ok (.putfield 179, 3) := dc_of qt_q228_cX4_readAll 11 rfl
theorem dX4_readAll_20 : decode cX4_readAll 20 = .ok (.iconst 0, 1) := dc_of qt_q228_cX4_readAll 12 rfl
theorem dX4_readAll_21 : decode cX4_readAll 21 = .ok (.istore_n 1, 1) := dc_of qt_q228_cX4_readAll 13 rfl
theorem dX4_readAll_22 : decode cX4_readAll 22 = .ok (.iload_n 1, 1) := dc_of qt_q228_cX4_readAll 14 rfl
theorem dX4_readAll_23 : decode cX4_readAll 23 = .ok (.iconst 3, 1) := dc_of qt_q228_cX4_readAll 15 rfl
theorem dX4_readAll_24 : decode cX4_readAll 24 = .ok (.if_icmp .ge 50, 3) := dc_of qt_q228_cX4_readAll 16 rfl
theorem dX4_readAll_27 : decode cX4_readAll 27 = .ok (.aload_n 0, 1) := dc_of qt_q228_cX4_readAll 17 rfl
theorem dX4_readAll_28 : decode cX4_readAll 28 = .ok (.invokevirtual 165, 3) := dc_of qt_q228_cX4_readAll 18 rfl
theorem dX4_readAll_31 : decode cX4_readAll 31 = .ok (.istore_n 2, 1) := dc_of qt_q228_cX4_readAll 19 rfl
theorem dX4_readAll_32 : decode cX4_readAll 32 = .ok (.aload_n 0, 1) := dc_of qt_q228_cX4_readAll 20 rfl
theorem dX4_readAll_33 : decode cX4_readAll 33 = .ok (.getfield 152, 3) := dc_of qt_q228_cX4_readAll 21 rfl
theorem dX4_readAll_36 : decode cX4_readAll 36 = .ok (.ifCond .ge 32, 3) := dc_of qt_q228_cX4_readAll 22 rfl
theorem dX4_readAll_39 : decode cX4_readAll 39 = .ok (.iload_n 2, 1) := dc_of qt_q228_cX4_readAll 23 rfl
def ql_q229_cX4_readAll : List (Nat × Jvm.ClassFile.Instr × Nat) := [(40, .iload_n 1, 1), (41, .ifCond .ne 8, 3), (44, .bipush 72, 2), (46, .goto 14, 3), (49, .iload_n 1, 1), (50, .iconst 1, 1), (51, .if_icmp .ne 8, 3), (54, .bipush 73, 2), (56, .goto 4, 3), (59, .iconst 1, 1), (60, .if_icmp .eq 8, 3), (63, .aload_n 0, 1), (64, .iload_n 1, 1), (65, .invokevirtual 158, 3), (68, .iinc 1 1, 3), (71, .goto (-49), 3), (74, .aload_n 0, 1), (75, .getfield 152, 3), (78, .ifCond .ge 10, 3), (81, .aload_n 0, 1), (82, .invokevirtual 171, 3), (85, .goto 4, 3), (88, .iconst 0, 1), (89, .istore_n 1, 1)]
theorem qt_q229_cX4_readAll : dcAll cX4_readAll ql_q229_cX4_readAll = true := by decide +kernel
theorem dX4_readAll_40 : decode cX4_readAll 40 = .ok (.iload_n 1, 1) := dc_of qt_q229_cX4_readAll 0 rfl
theorem dX4_readAll_41 : decode cX4_readAll 41 = .ok (.ifCond .ne 8, 3) := dc_of qt_q229_cX4_readAll 1 rfl
theorem dX4_readAll_44 : decode cX4_readAll 44 = .ok (.bipush 72, 2) := dc_of qt_q229_cX4_readAll 2 rfl
theorem dX4_readAll_46 : decode cX4_readAll 46 = .ok (.goto 14, 3) := dc_of qt_q229_cX4_readAll 3 rfl
theorem dX4_readAll_49 : decode cX4_readAll 49 = .ok (.iload_n 1, 1) := dc_of qt_q229_cX4_readAll 4 rfl
theorem dX4_readAll_50 : decode cX4_readAll 50 = .ok (.iconst 1, 1) := dc_of qt_q229_cX4_readAll 5 rfl
theorem dX4_readAll_51 : decode cX4_readAll 51 = .ok (.if_icmp .ne 8, 3) := dc_of qt_q229_cX4_readAll 6 rfl
theorem dX4_readAll_54 : decode cX4_readAll 54 = .ok (.bipush 73, 2) := dc_of qt_q229_cX4_readAll 7 rfl
theorem dX4_readAll_56 : decode cX4_readAll 56 = .ok (.goto 4, 3) := dc_of qt_q229_cX4_readAll 8 rfl
theorem dX4_readAll_59 : decode cX4_readAll 59 = .ok (.iconst 1, 1) := dc_of qt_q229_cX4_readAll 9 rfl
theorem dX4_readAll_60 : decode cX4_readAll 60 = .ok (.if_icmp .eq 8, 3) := dc_of qt_q229_cX4_readAll 10 rfl
theorem dX4_readAll_63 : decode cX4_readAll 63 = .ok (.aload_n 0, 1) := dc_of qt_q229_cX4_readAll 11 rfl
theorem dX4_readAll_64 : decode cX4_readAll 64 = .ok (.iload_n 1, 1) := dc_of qt_q229_cX4_readAll 12 rfl
theorem dX4_readAll_65 : decode cX4_readAll 65 = .ok (.invokevirtual 158, 3) := dc_of qt_q229_cX4_readAll 13 rfl
theorem dX4_readAll_68 : decode cX4_readAll 68 = .ok (.iinc 1 1, 3) := dc_of qt_q229_cX4_readAll 14 rfl
theorem dX4_readAll_71 : decode cX4_readAll 71 = .ok (.goto (-49), 3) := dc_of qt_q229_cX4_readAll 15 rfl
theorem dX4_readAll_74 : decode cX4_readAll 74 = .ok (.aload_n 0, 1) := dc_of qt_q229_cX4_readAll 16 rfl
theorem dX4_readAll_75 : decode cX4_readAll 75 = .ok (.getfield 152, 3) := dc_of qt_q229_cX4_readAll 17 rfl
theorem dX4_readAll_78 : decode cX4_readAll 78 = .ok (.ifCond .ge 10, 3) := dc_of qt_q229_cX4_readAll 18 rfl
theorem dX4_readAll_81 : decode cX4_readAll 81 = .ok (.aload_n 0, 1) := dc_of qt_q229_cX4_readAll 19 rfl
theorem dX4_readAll_82 : decode cX4_readAll 82 = .ok (.invokevirtual 171, 3) := dc_of qt_q229_cX4_readAll 20 rfl
theorem dX4_readAll_85 : decode cX4_readAll 85 = .ok (.goto 4, 3) := dc_of qt_q229_cX4_readAll 21 rfl
theorem dX4_readAll_88 : decode cX4_readAll 88 = .ok (.iconst 0, 1) := dc_of qt_q229_cX4_readAll 22 rfl
theorem dX4_readAll_89 : decode cX4_readAll 89 = .ok (.istore_n 1, 1) := dc_of qt_q229_cX4_readAll 23 rfl
def ql_q230_cX4_readAll : List (Nat × Jvm.ClassFile.Instr × Nat) := [(90, .aload_n 0, 1), (91, .getfield 152, 3), (94, .ifCond .ge 19, 3), (97, .aload_n 0, 1), (98, .getfield 161, 3), (101, .ldc2_w 184, 3), (104, .lcmp, 1), (105, .ifCond .le 8, 3), (108, .aload_n 0, 1), (109, .iload_n 1, 1), (110, .invokevirtual 158, 3), (113, .aload_n 0, 1), (114, .aload_n 0, 1), (115, .getfield 152, 3), (118, .ifCond .ge 11, 3), (121, .aload_n 0, 1), (122, .getfield 161, 3), (125, .l2i, 1), (126, .goto 4, 3), (129, .iconst 0, 1), (130, .putfield 179, 3), (133, .iconst 0, 1), (134, .istore_n 2, 1), (135, .iload_n 2, 1)]
theorem qt_q230_cX4_readAll : dcAll cX4_readAll ql_q230_cX4_readAll = true := by decide +kernel
theorem dX4_readAll_90 : decode cX4_readAll 90 = .ok (.aload_n 0, 1) := dc_of qt_q230_cX4_readAll 0 rfl
theorem dX4_readAll_91 : decode cX4_readAll 91 = .ok (.getfield 152, 3) := dc_of qt_q230_cX4_readAll 1 rfl
theorem dX4_readAll_94 : decode cX4_readAll 94 = .ok (.ifCond .ge 19, 3) := dc_of qt_q230_cX4_readAll 2 rfl
theorem dX4_readAll_97 : decode cX4_readAll 97 = .ok (.aload_n 0, 1) := dc_of qt_q230_cX4_readAll 3 rfl
theorem dX4_readAll_98 : decode cX4_readAll 98 = .ok (.getfield 161, 3) := dc_of qt_q230_cX4_readAll 4 rfl
theorem dX4_readAll_101 : decode cX4_readAll 101 = .ok (.ldc2_w 184, 3) := dc_of qt_q230_cX4_readAll 5 rfl
theorem dX4_readAll_104 : decode cX4_readAll 104 = .ok (.lcmp, 1) := dc_of qt_q230_cX4_readAll 6 rfl
theorem dX4_readAll_105 : decode cX4_readAll 105 = .ok (.ifCond .le 8, 3) := dc_of qt_q230_cX4_readAll 7 rfl
theorem dX4_readAll_108 : decode cX4_readAll 108 = .ok (.aload_n 0, 1) := dc_of qt_q230_cX4_readAll 8 rfl
theorem dX4_readAll_109 : decode cX4_readAll 109 = .ok (.iload_n 1, 1) := dc_of qt_q230_cX4_readAll 9 rfl
theorem dX4_readAll_110 : decode cX4_readAll 110 = .ok (.invokevirtual 158, 3) := dc_of qt_q230_cX4_readAll 10 rfl
theorem dX4_readAll_113 : decode cX4_readAll 113 = .ok (.aload_n 0, 1) := dc_of qt_q230_cX4_readAll 11 rfl
theorem dX4_readAll_114 : decode cX4_readAll 114 = .ok (.aload_n 0, 1) := dc_of qt_q230_cX4_readAll 12 rfl
theorem dX4_readAll_115 : decode cX4_readAll 115 = .ok (.getfield 152, 3) := dc_of qt_q230_cX4_readAll 13 rfl
theorem dX4_readAll_118 : decode cX4_readAll 118 = .ok (.ifCond .ge 11, 3) := dc_of qt_q230_cX4_readAll 14 rfl
theorem dX4_readAll_121 : decode cX4_readAll 121 = .ok (.aload_n 0, 1) := dc_of qt_q230_cX4_readAll 15 rfl
theorem dX4_readAll_122 : decode cX4_readAll 122 = .ok (.getfield 161, 3) := dc_of qt_q230_cX4_readAll 16 rfl
theorem dX4_readAll_125 : decode cX4_readAll 125 = .ok (.l2i, 1) := dc_of qt_q230_cX4_readAll 17 rfl
theorem dX4_readAll_126 : decode cX4_readAll 126 = .ok (.goto 4, 3) := dc_of qt_q230_cX4_readAll 18 rfl
theorem dX4_readAll_129 : decode cX4_readAll 129 = .ok (.iconst 0, 1) := dc_of qt_q230_cX4_readAll 19 rfl
theorem dX4_readAll_130 : decode cX4_readAll 130 = .ok (.putfield 179, 3) := dc_of qt_q230_cX4_readAll 20 rfl
theorem dX4_readAll_133 : decode cX4_readAll 133 = .ok (.iconst 0, 1) := dc_of qt_q230_cX4_readAll 21 rfl
theorem dX4_readAll_134 : decode cX4_readAll 134 = .ok (.istore_n 2, 1) := dc_of qt_q230_cX4_readAll 22 rfl
theorem dX4_readAll_135 : decode cX4_readAll 135 = .ok (.iload_n 2, 1) := dc_of qt_q230_cX4_readAll 23 rfl
def ql_q231_cX4_readAll : List (Nat × Jvm.ClassFile.Instr × Nat) := [(136, .iconst 4, 1), (137, .if_icmp .ge 27, 3), (140, .aload_n 0, 1), (141, .getfield 152, 3), (144, .ifCond .ge 20, 3), (147, .aload_n 0, 1), (148, .getfield 40, 3), (151, .iload_n 2, 1), (152, .aload_n 0, 1), (153, .iconst (-1), 1), (154, .invokevirtual 186, 3), (157, .iastore, 1), (158, .iinc 2 1, 3), (161, .goto (-26), 3), (164, .iconst 0, 1), (165, .istore_n 2, 1), (166, .iconst 0, 1), (167, .istore_n 3, 1), (168, .iload_n 3, 1), (169, .aload_n 0, 1), (170, .getfield 179, 3), (173, .if_icmp .ge 23, 3), (176, .aload_n 0, 1), (177, .getfield 152, 3)]
theorem qt_q231_cX4_readAll : dcAll cX4_readAll ql_q231_cX4_readAll = true := by decide +kernel
theorem dX4_readAll_136 : decode cX4_readAll 136 = .ok (.iconst 4, 1) := dc_of qt_q231_cX4_readAll 0 rfl
theorem dX4_readAll_137 : decode cX4_readAll 137 = .ok (.if_icmp .ge 27, 3) := dc_of qt_q231_cX4_readAll 1 rfl
theorem dX4_readAll_140 : decode cX4_readAll 140 = .ok (.aload_n 0, 1) := dc_of qt_q231_cX4_readAll 2 rfl
theorem dX4_readAll_141 : decode cX4_readAll 141 = .ok (.getfield 152, 3) := dc_of qt_q231_cX4_readAll 3 rfl
theorem dX4_readAll_144 : decode cX4_readAll 144 = .ok (.ifCond .ge 20, 3) := dc_of qt_q231_cX4_readAll 4 rfl
theorem dX4_readAll_147 : decode cX4_readAll 147 = .ok (.aload_n 0, 1) := dc_of qt_q231_cX4_readAll 5 rfl
theorem dX4_readAll_148 : decode cX4_readAll 148 = .ok (.getfield 40, 3) := dc_of qt_q231_cX4_readAll 6 rfl
theorem dX4_readAll_151 : decode cX4_readAll 151 = .ok (.iload_n 2, 1) := dc_of qt_q231_cX4_readAll 7 rfl
theorem dX4_readAll_152 : decode cX4_readAll 152 = .ok (.aload_n 0, 1) := dc_of qt_q231_cX4_readAll 8 rfl
theorem dX4_readAll_153 : decode cX4_readAll 153 = .ok (.iconst (-1), 1) := dc_of qt_q231_cX4_readAll 9 rfl
theorem dX4_readAll_154 : decode cX4_readAll 154 = .ok (.invokevirtual 186, 3) := dc_of qt_q231_cX4_readAll 10 rfl
theorem dX4_readAll_157 : decode cX4_readAll 157 = .ok (.iastore, 1) := dc_of qt_q231_cX4_readAll 11 rfl
theorem dX4_readAll_158 : decode cX4_readAll 158 = .ok (.iinc 2 1, 3) := dc_of qt_q231_cX4_readAll 12 rfl
theorem dX4_readAll_161 : decode cX4_readAll 161 = .ok (.goto (-26), 3) := dc_of qt_q231_cX4_readAll 13 rfl
theorem dX4_readAll_164 : decode cX4_readAll 164 = .ok (.iconst 0, 1) := dc_of qt_q231_cX4_readAll 14 rfl
theorem dX4_readAll_165 : decode cX4_readAll 165 = .ok (.istore_n 2, 1) := dc_of qt_q231_cX4_readAll 15 rfl
theorem dX4_readAll_166 : decode cX4_readAll 166 = .ok (.iconst 0, 1) := dc_of qt_q231_cX4_readAll 16 rfl
theorem dX4_readAll_167 : decode cX4_readAll 167 = .ok (.istore_n 3, 1) := dc_of qt_q231_cX4_readAll 17 rfl
theorem dX4_readAll_168 : decode cX4_readAll 168 = .ok (.iload_n 3, 1) := dc_of qt_q231_cX4_readAll 18 rfl
theorem dX4_readAll_169 : decode cX4_readAll 169 = .ok (.aload_n 0, 1) := dc_of qt_q231_cX4_readAll 19 rfl
theorem dX4_readAll_170 : decode cX4_readAll 170 = .ok (.getfield 179, 3) := dc_of qt_q231_cX4_readAll 20 rfl
theorem dX4_readAll_173 : decode cX4_readAll 173 = .ok (.if_icmp .ge 23, 3) := dc_of qt_q231_cX4_readAll 21 rfl
theorem dX4_readAll_176 : decode cX4_readAll 176 = .ok (.aload_n 0, 1) := dc_of qt_q231_cX4_readAll 22 rfl
theorem dX4_readAll_177 : decode cX4_readAll 177 = .ok (.getfield 152, 3) := dc_of qt_q231_cX4_readAll 23 rfl
def ql_q232_cX4_readAll : List (Nat × Jvm.ClassFile.Instr × Nat) := [(180, .ifCond .ge 16, 3), (183, .aload_n 0, 1), (184, .iload_n 3, 1), (185, .iload_n 2, 1), (186, .invokevirtual 189, 3), (189, .istore_n 2, 1), (190, .iinc 3 1, 3), (193, .goto (-25), 3), (196, .aload_n 0, 1), (197, .getfield 155, 3), (200, .istore_n 3, 1), (201, .aload_n 0, 1), (202, .invokevirtual 165, 3), (205, .istore 4, 2), (207, .aload_n 0, 1), (208, .invokevirtual 165, 3), (211, .istore 5, 2), (213, .aload_n 0, 1), (214, .getfield 152, 3), (217, .ifCond .ge 28, 3), (220, .iload 4, 2), (222, .sipush 256, 3), (225, .iload 5, 2), (227, .imul, 1)]
theorem qt_q232_cX4_readAll : dcAll cX4_readAll ql_q232_cX4_readAll = true := by decide +kernel
theorem dX4_readAll_180 : decode cX4_readAll 180 = .ok (.ifCond .ge 16, 3) := dc_of qt_q232_cX4_readAll 0 rfl
theorem dX4_readAll_183 : decode cX4_readAll 183 = .ok (.aload_n 0, 1) := dc_of qt_q232_cX4_readAll 1 rfl
theorem dX4_readAll_184 : decode cX4_readAll 184 = .ok (.iload_n 3, 1) := dc_of qt_q232_cX4_readAll 2 rfl
theorem dX4_readAll_185 : decode cX4_readAll 185 = .ok (.iload_n 2, 1) := dc_of qt_q232_cX4_readAll 3 rfl
theorem dX4_readAll_186 : decode cX4_readAll 186 = .ok (.invokevirtual 189, 3) := dc_of qt_q232_cX4_readAll 4 rfl
theorem dX4_readAll_189 : decode cX4_readAll 189 = .ok (.istore_n 2, 1) := dc_of qt_q232_cX4_readAll 5 rfl
theorem dX4_readAll_190 : decode cX4_readAll 190 = .ok (.iinc 3 1, 3) := dc_of qt_q232_cX4_readAll 6 rfl
theorem dX4_readAll_193 : decode cX4_readAll 193 = .ok (.goto (-25), 3) := dc_of qt_q232_cX4_readAll 7 rfl
theorem dX4_readAll_196 : decode cX4_readAll 196 = .ok (.aload_n 0, 1) := dc_of qt_q232_cX4_readAll 8 rfl
theorem dX4_readAll_197 : decode cX4_readAll 197 = .ok (.getfield 155, 3) := dc_of qt_q232_cX4_readAll 9 rfl
theorem dX4_readAll_200 : decode cX4_readAll 200 = .ok (.istore_n 3, 1) := dc_of qt_q232_cX4_readAll 10 rfl
theorem dX4_readAll_201 : decode cX4_readAll 201 = .ok (.aload_n 0, 1) := dc_of qt_q232_cX4_readAll 11 rfl
theorem dX4_readAll_202 : decode cX4_readAll 202 = .ok (.invokevirtual 165, 3) := dc_of qt_q232_cX4_readAll 12 rfl
theorem dX4_readAll_205 : decode cX4_readAll 205 = .ok (.istore 4, 2) := dc_of qt_q232_cX4_readAll 13 rfl
theorem dX4_readAll_207 : decode cX4_readAll 207 = .ok (.aload_n 0, 1) := dc_of qt_q232_cX4_readAll 14 rfl
theorem dX4_readAll_208 : decode cX4_readAll 208 = .ok (.invokevirtual 165, 3) := dc_of qt_q232_cX4_readAll 15 rfl
theorem dX4_readAll_211 : decode cX4_readAll 211 = .ok (.istore 5, 2) := dc_of qt_q232_cX4_readAll 16 rfl
theorem dX4_readAll_213 : decode cX4_readAll 213 = .ok (.aload_n 0, 1) := dc_of qt_q232_cX4_readAll 17 rfl
theorem dX4_readAll_214 : decode cX4_readAll 214 = .ok (.getfield 152, 3) := dc_of qt_q232_cX4_readAll 18 rfl
theorem dX4_readAll_217 : decode cX4_readAll 217 = .ok (.ifCond .ge 28, 3) := dc_of qt_q232_cX4_readAll 19 rfl
theorem dX4_readAll_220 : decode cX4_readAll 220 = .ok (.iload 4, 2) := dc_of qt_q232_cX4_readAll 20 rfl
theorem dX4_readAll_222 : decode cX4_readAll 222 = .ok (.sipush 256, 3) := dc_of qt_q232_cX4_readAll 21 rfl
theorem dX4_readAll_225 : decode cX4_readAll 225 = .ok (.iload 5, 2) := dc_of qt_q232_cX4_readAll 22 rfl
theorem dX4_readAll_227 : decode cX4_readAll 227 = .ok (.imul, 1) := dc_of qt_q232_cX4_readAll 23 rfl
def ql_q233_cX4_readAll : List (Nat × Jvm.ClassFile.Instr × Nat) := [(228, .iadd, 1), (229, .aload_n 0, 1), (230, .getfield 34, 3), (233, .iload_n 3, 1), (234, .invokestatic 140, 3), (237, .if_icmp .eq 8, 3), (240, .aload_n 0, 1), (241, .iload_n 3, 1), (242, .invokevirtual 158, 3), (245, .aload_n 0, 1), (246, .getfield 152, 3), (249, .ifCond .ge 22, 3), (252, .aload_n 0, 1), (253, .getfield 155, 3), (256, .aload_n 0, 1), (257, .getfield 149, 3), (260, .if_icmp .ge 11, 3), (263, .aload_n 0, 1), (264, .aload_n 0, 1), (265, .getfield 155, 3), (268, .invokevirtual 158, 3), (271, .aload_n 0, 1), (272, .iload_n 2, 1), (273, .putfield 155, 3)]
theorem qt_q233_cX4_readAll : dcAll cX4_readAll ql_q233_cX4_readAll = true := by decide +kernel
theorem dX4_readAll_228 : decode cX4_readAll 228 = .ok (.iadd, 1) := dc_of qt_q233_cX4_readAll 0 rfl
theorem dX4_readAll_229 : decode cX4_readAll 229 = .ok (.aload_n 0, 1) := dc_of qt_q233_cX4_readAll 1 rfl
theorem dX4_readAll_230 : decode cX4_readAll 230 = .ok (.getfield 34, 3) := dc_of qt_q233_cX4_readAll 2 rfl
theorem dX4_readAll_233 : decode cX4_readAll 233 = .ok (.iload_n 3, 1) := dc_of qt_q233_cX4_readAll 3 rfl
theorem dX4_readAll_234 : decode cX4_readAll 234 = .ok (.invokestatic 140, 3) := dc_of qt_q233_cX4_readAll 4 rfl
theorem dX4_readAll_237 : decode cX4_readAll 237 = .ok (.if_icmp .eq 8, 3) := dc_of qt_q233_cX4_readAll 5 rfl
theorem dX4_readAll_240 : decode cX4_readAll 240 = .ok (.aload_n 0, 1) := dc_of qt_q233_cX4_readAll 6 rfl
theorem dX4_readAll_241 : decode cX4_readAll 241 = .ok (.iload_n 3, 1) := dc_of qt_q233_cX4_readAll 7 rfl
theorem dX4_readAll_242 : decode cX4_readAll 242 = .ok (.invokevirtual 158, 3) := dc_of qt_q233_cX4_readAll 8 rfl
theorem dX4_readAll_245 : decode cX4_readAll 245 = .ok (.aload_n 0, 1) := dc_of qt_q233_cX4_readAll 9 rfl
theorem dX4_readAll_246 : decode cX4_readAll 246 = .ok (.getfield 152, 3) := dc_of qt_q233_cX4_readAll 10 rfl
theorem dX4_readAll_249 : decode cX4_readAll 249 = .ok (.ifCond .ge 22, 3) := dc_of qt_q233_cX4_readAll 11 rfl
theorem dX4_readAll_252 : decode cX4_readAll 252 = .ok (.aload_n 0, 1) := dc_of qt_q233_cX4_readAll 12 rfl
theorem dX4_readAll_253 : decode cX4_readAll 253 = .ok (.getfield 155, 3) := dc_of qt_q233_cX4_readAll 13 rfl
theorem dX4_readAll_256 : decode cX4_readAll 256 = .ok (.aload_n 0, 1) := dc_of qt_q233_cX4_readAll 14 rfl
theorem dX4_readAll_257 : decode cX4_readAll 257 = .ok (.getfield 149, 3) := dc_of qt_q233_cX4_readAll 15 rfl
theorem dX4_readAll_260 : decode cX4_readAll 260 = .ok (.if_icmp .ge 11, 3) := dc_of qt_q233_cX4_readAll 16 rfl
theorem dX4_readAll_263 : decode cX4_readAll 263 = .ok (.aload_n 0, 1) := dc_of qt_q233_cX4_readAll 17 rfl
theorem dX4_readAll_264 : decode cX4_readAll 264 = .ok (.aload_n 0, 1) := dc_of qt_q233_cX4_readAll 18 rfl
theorem dX4_readAll_265 : decode cX4_readAll 265 = .ok (.getfield 155, 3) := dc_of qt_q233_cX4_readAll 19 rfl
theorem dX4_readAll_268 : decode cX4_readAll 268 = .ok (.invokevirtual 158, 3) := dc_of qt_q233_cX4_readAll 20 rfl
theorem dX4_readAll_271 : decode cX4_readAll 271 = .ok (.aload_n 0, 1) := dc_of qt_q233_cX4_readAll 21 rfl
theorem dX4_readAll_272 : decode cX4_readAll 272 = .ok (.iload_n 2, 1) := dc_of qt_q233_cX4_readAll 22 rfl
theorem dX4_readAll_273 : decode cX4_readAll 273 = .ok (.putfield 155, 3) := dc_of qt_q233_cX4_readAll 23 rfl
def ql_q234_cX4_readAll : List (Nat × Jvm.ClassFile.Instr × Nat) := [(276, .return_, 1)]
theorem qt_q234_cX4_readAll : dcAll cX4_readAll ql_q234_cX4_readAll = true := by decide +kernel
theorem dX4_readAll_276 : decode cX4_readAll 276 = .ok (.return_, 1) := dc_of qt_q234_cX4_readAll 0 rfl
set_option maxRecDepth 20000 in
theorem ggX4_readObject_X4_nextByte : GoodIn wsX4_readObject wsX4_nextByte := goodIn_r _ [10, 2, 1, 11, 12, 13, 14, 15, 9, 16, 37, 38, 39, 40, 41, 42, 43, 44, 45, 46, 47, 48, 49, 50, 51, 52, 53, 54, 55, 56, 57, 58, 59] rfl (by decide +kernel)
set_option maxRecDepth 20000 in
theorem ggX4_readObject_X4_stop : GoodIn wsX4_readObject wsX4_stop := goodIn_r _ [16, 2, 37, 38, 39, 40, 41, 42, 43, 44, 45, 46, 47, 48, 49, 50, 51, 52, 53, 54, 55, 56, 57, 58, 59] rfl (by decide +kernel)
set_option maxRecDepth 20000 in
theorem ggX4_readObject_X4_isSize : GoodIn wsX4_readObject wsX4_isSize := goodIn_r _ [19] rfl (by decide +kernel)
set_option maxRecDepth 20000 in
theorem ggX4_readObject_X4_nextValue : GoodIn wsX4_readObject wsX4_nextValue := goodIn_r _ [23, 2, 24, 25, 26, 27, 28, 3, 29, 30, 31, 32, 33, 9, 34, 1, 35, 36, 6, 7, 8, 10, 11, 12, 13, 14, 15, 16, 37, 38, 39, 40, 41, 42, 43, 44, 45, 46, 47, 48, 49, 50, 51, 52, 53, 54, 55, 56, 57, 58, 59] rfl (by decide +kernel)
def ql_q235_cX4_readObject : List (Nat × Jvm.ClassFile.Instr × Nat) := [(0, .aload_n 0, 1), (1, .getfield 155, 3), (4, .istore_n 3, 1), (5, .aload_n 0, 1), (6, .invokevirtual 165, 3), (9, .istore 4, 2), (11, .aload_n 0, 1), (12, .getfield 152, 3), (15, .ifCond .ge 28, 3), (18, .iload 4, 2), (20, .iconst 1, 1), (21, .if_icmp .lt 17, 3), (24, .iload 4, 2), (26, .iconst 3, 1), (27, .if_icmp .gt 11, 3), (30, .iload_n 1, 1), (31, .aload_n 0, 1), (32, .getfield 176, 3), (35, .if_icmp .lt 8, 3), (38, .aload_n 0, 1), (39, .iload_n 3, 1), (40, .invokevirtual 158, 3), (43, .aload_n 0, 1), (44, .getfield 155, 3)]
theorem qt_q235_cX4_readObject : dcAll cX4_readObject ql_q235_cX4_readObject = true := by decide +kernel
theorem dX4_readObject_0 : decode cX4_readObject 0 = .ok (.aload_n 0, 1) := dc_of qt_q235_cX4_readObject 0 rfl
theorem dX4_readObject_1 : decode cX4_readObject 1 = .ok (.getfield 155, 3) := dc_of qt_q235_cX4_readObject 1 rfl
theorem dX4_readObject_4 : decode cX4_readObject 4 = .ok (.istore_n 3, 1) := dc_of qt_q235_cX4_readObject 2 rfl
theorem dX4_readObject_5 : decode cX4_readObject 5 = .ok (.aload_n 0, 1) := dc_of qt_q235_cX4_readObject 3 rfl
theorem dX4_readObject_6 : decode cX4_readObject 6 = .ok (.invokevirtual 165, 3) := dc_of qt_q235_cX4_readObject 4 rfl
theorem dX4_readObject_9 : decode cX4_readObject 9 = .ok (.istore 4, 2) := dc_of qt_q235_cX4_readObject 5 rfl
theorem dX4_readObject_11 : decode cX4_readObject 11 = .ok (.aload_n 0, 1) := dc_of qt_q235_cX4_readObject 6 rfl
theorem dX4_readObject_12 : decode cX4_readObject 12 = .ok (.getfield 152, 3) := dc_of qt_q235_cX4_readObject 7 rfl
theorem dX4_readObject_15 : decode cX4_readObject 15 = .ok (.ifCond .ge 28, 3) := dc_of qt_q235_cX4_readObject 8 rfl
theorem dX4_readObject_18 : decode cX4_readObject 18 = .ok (.iload 4, 2) := dc_of qt_q235_cX4_readObject 9 rfl
theorem dX4_readObject_20 : decode cX4_readObject 20 = .ok (.iconst 1, 1) := dc_of qt_q235_cX4_readObject 10 rfl
theorem dX4_readObject_21 : decode cX4_readObject 21 = .ok (.if_icmp .lt 17, 3) := dc_of qt_q235_cX4_readObject 11 rfl
theorem dX4_readObject_24 : decode cX4_readObject 24 = .ok (.iload 4, 2) := dc_of qt_q235_cX4_readObject 12 rfl
theorem dX4_readObject_26 : decode cX4_readObject 26 = .ok (.iconst 3, 1) := dc_of qt_q235_cX4_readObject 13 rfl
theorem dX4_readObject_27 : decode cX4_readObject 27 = .ok (.if_icmp .gt 11, 3) := dc_of qt_q235_cX4_readObject 14 rfl
theorem dX4_readObject_30 : decode cX4_readObject 30 = .ok (.iload_n 1, 1) := dc_of qt_q235_cX4_readObject 15 rfl
theorem dX4_readObject_31 : decode cX4_readObject 31 = .ok (.aload_n 0, 1) := dc_of qt_q235_cX4_readObject 16 rfl
theorem dX4_readObject_32 : decode cX4_readObject 32 = .ok (.getfield 176, 3) := dc_of qt_q235_cX4_readObject 17 rfl
theorem dX4_readObject_35 : decode cX4_readObject 35 = .ok (.if_icmp .lt 8, 3) := dc_of qt_q235_cX4_readObject 18 rfl
theorem dX4_readObject_38 : decode cX4_readObject 38 = .ok (.aload_n 0, 1) := dc_of qt_q235_cX4_readObject 19 rfl
theorem dX4_readObject_39 : decode cX4_readObject 39 = .ok (.iload_n 3, 1) := dc_of qt_q235_cX4_readObject 20 rfl
theorem dX4_readObject_40 : decode cX4_readObject 40 = .ok (.invokevirtual 158, 3) := dc_of qt_q235_cX4_readObject 21 rfl
theorem dX4_readObject_43 : decode cX4_readObject 43 = .ok (.aload_n 0, 1) := dc_of qt_q235_cX4_readObject 22 rfl
theorem dX4_readObject_44 : decode cX4_readObject 44 = .ok (.getfield 155, 3) := dc_of qt_q235_cX4_readObject 23 rfl
def ql_q236_cX4_readObject : List (Nat × Jvm.ClassFile.Instr × Nat) := [(47, .istore 5, 2), (49, .aload_n 0, 1), (50, .invokevirtual 165, 3), (53, .istore 6, 2), (55, .aload_n 0, 1), (56, .getfield 152, 3), (59, .ifCond .ge 19, 3), (62, .iload 4, 2), (64, .iload 6, 2), (66, .invokestatic 53, 3), (69, .ifCond .ne 9, 3), (72, .aload_n 0, 1), (73, .iload 5, 2), (75, .invokevirtual 158, 3), (78, .aload_n 0, 1), (79, .getfield 152, 3), (82, .ifCond .ge 20, 3), (85, .iload_n 2, 1), (86, .iconst 1, 1), (87, .iadd, 1), (88, .iload 6, 2), (90, .iadd, 1), (91, .sipush 256, 3), (94, .if_icmp .le 8, 3)]
theorem qt_q236_cX4_readObject : dcAll cX4_readObject ql_q236_cX4_readObject = true := by decide +kernel
theorem dX4_readObject_47 : decode cX4_readObject 47 = .ok (.istore 5, 2) := dc_of qt_q236_cX4_readObject 0 rfl
theorem dX4_readObject_49 : decode cX4_readObject 49 = .ok (.aload_n 0, 1) := dc_of qt_q236_cX4_readObject 1 rfl
theorem dX4_readObject_50 : decode cX4_readObject 50 = .ok (.invokevirtual 165, 3) := dc_of qt_q236_cX4_readObject 2 rfl
theorem dX4_readObject_53 : decode cX4_readObject 53 = .ok (.istore 6, 2) := dc_of qt_q236_cX4_readObject 3 rfl
theorem dX4_readObject_55 : decode cX4_readObject 55 = .ok (.aload_n 0, 1) := dc_of qt_q236_cX4_readObject 4 rfl
theorem dX4_readObject_56 : decode cX4_readObject 56 = .ok (.getfield 152, 3) := dc_of qt_q236_cX4_readObject 5 rfl
theorem dX4_readObject_59 : decode cX4_readObject 59 = .ok (.ifCond .ge 19, 3) := dc_of qt_q236_cX4_readObject 6 rfl
theorem dX4_readObject_62 : decode cX4_readObject 62 = .ok (.iload 4, 2) := dc_of qt_q236_cX4_readObject 7 rfl
theorem dX4_readObject_64 : decode cX4_readObject 64 = .ok (.iload 6, 2) := dc_of qt_q236_cX4_readObject 8 rfl
theorem dX4_readObject_66 : decode cX4_readObject 66 = .ok (.invokestatic 53, 3) := dc_of qt_q236_cX4_readObject 9 rfl
theorem dX4_readObject_69 : decode cX4_readObject 69 = .ok (.ifCond .ne 9, 3) := dc_of qt_q236_cX4_readObject 10 rfl
theorem dX4_readObject_72 : decode cX4_readObject 72 = .ok (.aload_n 0, 1) := dc_of qt_q236_cX4_readObject 11 rfl
theorem dX4_readObject_73 : decode cX4_readObject 73 = .ok (.iload 5, 2) := dc_of qt_q236_cX4_readObject 12 rfl
theorem dX4_readObject_75 : decode cX4_readObject 75 = .ok (.invokevirtual 158, 3) := dc_of qt_q236_cX4_readObject 13 rfl
theorem dX4_readObject_78 : decode cX4_readObject 78 = .ok (.aload_n 0, 1) := dc_of qt_q236_cX4_readObject 14 rfl
theorem dX4_readObject_79 : decode cX4_readObject 79 = .ok (.getfield 152, 3) := dc_of qt_q236_cX4_readObject 15 rfl
theorem dX4_readObject_82 : decode cX4_readObject 82 = .ok (.ifCond .ge 20, 3) := dc_of qt_q236_cX4_readObject 16 rfl
theorem dX4_readObject_85 : decode cX4_readObject 85 = .ok (.iload_n 2, 1) := dc_of qt_q236_cX4_readObject 17 rfl
theorem dX4_readObject_86 : decode cX4_readObject 86 = .ok (.iconst 1, 1) := dc_of qt_q236_cX4_readObject 18 rfl
theorem dX4_readObject_87 : decode cX4_readObject 87 = .ok (.iadd, 1) := dc_of qt_q236_cX4_readObject 19 rfl
theorem dX4_readObject_88 : decode cX4_readObject 88 = .ok (.iload 6, 2) := dc_of qt_q236_cX4_readObject 20 rfl
theorem dX4_readObject_90 : decode cX4_readObject 90 = .ok (.iadd, 1) := dc_of qt_q236_cX4_readObject 21 rfl
theorem dX4_readObject_91 : decode cX4_readObject 91 = .ok (.sipush 256, 3) := dc_of qt_q236_cX4_readObject 22 rfl
theorem dX4_readObject_94 : decode cX4_readObject 94 = .ok (.if_icmp .le 8, 3) := dc_of qt_q236_cX4_readObject 23 rfl
def ql_q237_cX4_readObject : List (Nat × Jvm.ClassFile.Instr × Nat) := [(97, .aload_n 0, 1), (98, .iload_n 3, 1), (99, .invokevirtual 158, 3), (102, .aload_n 0, 1), (103, .getfield 152, 3), (106, .ifCond .lt 5, 3), (109, .iload_n 2, 1), (110, .ireturn, 1), (111, .aload_n 0, 1), (112, .getfield 43, 3), (115, .iload_n 1, 1), (116, .iload_n 2, 1), (117, .iastore, 1), (118, .aload_n 0, 1), (119, .getfield 37, 3), (122, .iload_n 2, 1), (123, .bipush 64, 2), (125, .iload 4, 2), (127, .imul, 1), (128, .iload 6, 2), (130, .iadd, 1), (131, .iastore, 1), (132, .iconst 0, 1), (133, .istore 7, 2)]
theorem qt_q237_cX4_readObject : dcAll cX4_readObject ql_q237_cX4_readObject = true := by decide +kernel
theorem dX4_readObject_97 : decode cX4_readObject 97 = .ok (.aload_n 0, 1) := dc_of qt_q237_cX4_readObject 0 rfl
theorem dX4_readObject_98 : decode cX4_readObject 98 = .ok (.iload_n 3, 1) := dc_of qt_q237_cX4_readObject 1 rfl
theorem dX4_readObject_99 : decode cX4_readObject 99 = .ok (.invokevirtual 158, 3) := dc_of qt_q237_cX4_readObject 2 rfl
theorem dX4_readObject_102 : decode cX4_readObject 102 = .ok (.aload_n 0, 1) := dc_of qt_q237_cX4_readObject 3 rfl
theorem dX4_readObject_103 : decode cX4_readObject 103 = .ok (.getfield 152, 3) := dc_of qt_q237_cX4_readObject 4 rfl
theorem dX4_readObject_106 : decode cX4_readObject 106 = .ok (.ifCond .lt 5, 3) := dc_of qt_q237_cX4_readObject 5 rfl
theorem dX4_readObject_109 : decode cX4_readObject 109 = .ok (.iload_n 2, 1) := dc_of qt_q237_cX4_readObject 6 rfl
theorem dX4_readObject_110 : decode cX4_readObject 110 = .ok (.ireturn, 1) := dc_of qt_q237_cX4_readObject 7 rfl
theorem dX4_readObject_111 : decode cX4_readObject 111 = .ok (.aload_n 0, 1) := dc_of qt_q237_cX4_readObject 8 rfl
theorem dX4_readObject_112 : decode cX4_readObject 112 = .ok (.getfield 43, 3) := dc_of qt_q237_cX4_readObject 9 rfl
theorem dX4_readObject_115 : decode cX4_readObject 115 = .ok (.iload_n 1, 1) := dc_of qt_q237_cX4_readObject 10 rfl
theorem dX4_readObject_116 : decode cX4_readObject 116 = .ok (.iload_n 2, 1) := dc_of qt_q237_cX4_readObject 11 rfl
theorem dX4_readObject_117 : decode cX4_readObject 117 = .ok (.iastore, 1) := dc_of qt_q237_cX4_readObject 12 rfl
theorem dX4_readObject_118 : decode cX4_readObject 118 = .ok (.aload_n 0, 1) := dc_of qt_q237_cX4_readObject 13 rfl
theorem dX4_readObject_119 : decode cX4_readObject 119 = .ok (.getfield 37, 3) := dc_of qt_q237_cX4_readObject 14 rfl
theorem dX4_readObject_122 : decode cX4_readObject 122 = .ok (.iload_n 2, 1) := dc_of qt_q237_cX4_readObject 15 rfl
theorem dX4_readObject_123 : decode cX4_readObject 123 = .ok (.bipush 64, 2) := dc_of qt_q237_cX4_readObject 16 rfl
theorem dX4_readObject_125 : decode cX4_readObject 125 = .ok (.iload 4, 2) := dc_of qt_q237_cX4_readObject 17 rfl
theorem dX4_readObject_127 : decode cX4_readObject 127 = .ok (.imul, 1) := dc_of qt_q237_cX4_readObject 18 rfl
theorem dX4_readObject_128 : decode cX4_readObject 128 = .ok (.iload 6, 2) := dc_of qt_q237_cX4_readObject 19 rfl
theorem dX4_readObject_130 : decode cX4_readObject 130 = .ok (.iadd, 1) := dc_of qt_q237_cX4_readObject 20 rfl
theorem dX4_readObject_131 : decode cX4_readObject 131 = .ok (.iastore, 1) := dc_of qt_q237_cX4_readObject 21 rfl
theorem dX4_readObject_132 : decode cX4_readObject 132 = .ok (.iconst 0, 1) := dc_of qt_q237_cX4_readObject 22 rfl
theorem dX4_readObject_133 : decode cX4_readObject 133 = .ok (.istore 7, 2) := dc_of qt_q237_cX4_readObject 23 rfl
def ql_q238_cX4_readObject : List (Nat × Jvm.ClassFile.Instr × Nat) := [(135, .iload 7, 2), (137, .iload 6, 2), (139, .if_icmp .ge 103, 3), (142, .aload_n 0, 1), (143, .getfield 152, 3), (146, .ifCond .ge 96, 3), (149, .iload 4, 2), (151, .iconst 2, 1), (152, .if_icmp .ne 57, 3), (155, .aload_n 0, 1), (156, .invokevirtual 165, 3), (159, .istore 8, 2), (161, .iload 8, 2), (163, .aload_n 0, 1), (164, .invokevirtual 165, 3), (167, .bipush 8, 2), (169, .ishl, 1), (170, .ior, 1), (171, .istore 8, 2), (173, .iload 8, 2), (175, .aload_n 0, 1), (176, .invokevirtual 165, 3), (179, .bipush 16, 2), (181, .ishl, 1)]
theorem qt_q238_cX4_readObject : dcAll cX4_readObject ql_q238_cX4_readObject = true := by decide +kernel
theorem dX4_readObject_135 : decode cX4_readObject 135 = .ok (.iload 7, 2) := dc_of qt_q238_cX4_readObject 0 rfl
theorem dX4_readObject_137 : decode cX4_readObject 137 = .ok (.iload 6, 2) := dc_of qt_q238_cX4_readObject 1 rfl
theorem dX4_readObject_139 : decode cX4_readObject 139 = .ok (.if_icmp .ge 103, 3) := dc_of qt_q238_cX4_readObject 2 rfl
theorem dX4_readObject_142 : decode cX4_readObject 142 = .ok (.aload_n 0, 1) := dc_of qt_q238_cX4_readObject 3 rfl
theorem dX4_readObject_143 : decode cX4_readObject 143 = .ok (.getfield 152, 3) := dc_of qt_q238_cX4_readObject 4 rfl
theorem dX4_readObject_146 : decode cX4_readObject 146 = .ok (.ifCond .ge 96, 3) := dc_of qt_q238_cX4_readObject 5 rfl
theorem dX4_readObject_149 : decode cX4_readObject 149 = .ok (.iload 4, 2) := dc_of qt_q238_cX4_readObject 6 rfl
theorem dX4_readObject_151 : decode cX4_readObject 151 = .ok (.iconst 2, 1) := dc_of qt_q238_cX4_readObject 7 rfl
theorem dX4_readObject_152 : decode cX4_readObject 152 = .ok (.if_icmp .ne 57, 3) := dc_of qt_q238_cX4_readObject 8 rfl
theorem dX4_readObject_155 : decode cX4_readObject 155 = .ok (.aload_n 0, 1) := dc_of qt_q238_cX4_readObject 9 rfl
theorem dX4_readObject_156 : decode cX4_readObject 156 = .ok (.invokevirtual 165, 3) := dc_of qt_q238_cX4_readObject 10 rfl
theorem dX4_readObject_159 : decode cX4_readObject 159 = .ok (.istore 8, 2) := dc_of qt_q238_cX4_readObject 11 rfl
theorem dX4_readObject_161 : decode cX4_readObject 161 = .ok (.iload 8, 2) := dc_of qt_q238_cX4_readObject 12 rfl
theorem dX4_readObject_163 : decode cX4_readObject 163 = .ok (.aload_n 0, 1) := dc_of qt_q238_cX4_readObject 13 rfl
theorem dX4_readObject_164 : decode cX4_readObject 164 = .ok (.invokevirtual 165, 3) := dc_of qt_q238_cX4_readObject 14 rfl
theorem dX4_readObject_167 : decode cX4_readObject 167 = .ok (.bipush 8, 2) := dc_of qt_q238_cX4_readObject 15 rfl
theorem dX4_readObject_169 : decode cX4_readObject 169 = .ok (.ishl, 1) := dc_of qt_q238_cX4_readObject 16 rfl
theorem dX4_readObject_170 : decode cX4_readObject 170 = .ok (.ior, 1) := dc_of qt_q238_cX4_readObject 17 rfl
theorem dX4_readObject_171 : decode cX4_readObject 171 = .ok (.istore 8, 2) := dc_of qt_q238_cX4_readObject 18 rfl
theorem dX4_readObject_173 : decode cX4_readObject 173 = .ok (.iload 8, 2) := dc_of qt_q238_cX4_readObject 19 rfl
theorem dX4_readObject_175 : decode cX4_readObject 175 = .ok (.aload_n 0, 1) := dc_of qt_q238_cX4_readObject 20 rfl
theorem dX4_readObject_176 : decode cX4_readObject 176 = .ok (.invokevirtual 165, 3) := dc_of qt_q238_cX4_readObject 21 rfl
theorem dX4_readObject_179 : decode cX4_readObject 179 = .ok (.bipush 16, 2) := dc_of qt_q238_cX4_readObject 22 rfl
theorem dX4_readObject_181 : decode cX4_readObject 181 = .ok (.ishl, 1) := dc_of qt_q238_cX4_readObject 23 rfl
def ql_q239_cX4_readObject : List (Nat × Jvm.ClassFile.Instr × Nat) := [(182, .ior, 1), (183, .istore 8, 2), (185, .aload_n 0, 1), (186, .getfield 37, 3), (189, .iload_n 2, 1), (190, .iconst 1, 1), (191, .iadd, 1), (192, .iload 7, 2), (194, .iadd, 1), (195, .iload 8, 2), (197, .aload_n 0, 1), (198, .invokevirtual 165, 3), (201, .bipush 24, 2), (203, .ishl, 1), (204, .ior, 1), (205, .iastore, 1), (206, .goto 30, 3), (209, .aload_n 0, 1), (210, .getfield 37, 3), (213, .iload_n 2, 1), (214, .iconst 1, 1), (215, .iadd, 1), (216, .iload 7, 2), (218, .iadd, 1)]
theorem qt_q239_cX4_readObject : dcAll cX4_readObject ql_q239_cX4_readObject = true := by decide +kernel
theorem dX4_readObject_182 : decode cX4_readObject 182 = .ok (.ior, 1) := dc_of qt_q239_cX4_readObject 0 rfl
theorem dX4_readObject_183 : decode cX4_readObject 183 = .ok (.istore 8, 2) := dc_of qt_q239_cX4_readObject 1 rfl
theorem dX4_readObject_185 : decode cX4_readObject 185 = .ok (.aload_n 0, 1) := dc_of qt_q239_cX4_readObject 2 rfl
theorem dX4_readObject_186 : decode cX4_readObject 186 = .ok (.getfield 37, 3) := dc_of qt_q239_cX4_readObject 3 rfl
theorem dX4_readObject_189 : decode cX4_readObject 189 = .ok (.iload_n 2, 1) := dc_of qt_q239_cX4_readObject 4 rfl
theorem dX4_readObject_190 : decode cX4_readObject 190 = .ok (.iconst 1, 1) := dc_of qt_q239_cX4_readObject 5 rfl
theorem dX4_readObject_191 : decode cX4_readObject 191 = .ok (.iadd, 1) := dc_of qt_q239_cX4_readObject 6 rfl
theorem dX4_readObject_192 : decode cX4_readObject 192 = .ok (.iload 7, 2) := dc_of qt_q239_cX4_readObject 7 rfl
theorem dX4_readObject_194 : decode cX4_readObject 194 = .ok (.iadd, 1) := dc_of qt_q239_cX4_readObject 8 rfl
theorem dX4_readObject_195 : decode cX4_readObject 195 = .ok (.iload 8, 2) := dc_of qt_q239_cX4_readObject 9 rfl
theorem dX4_readObject_197 : decode cX4_readObject 197 = .ok (.aload_n 0, 1) := dc_of qt_q239_cX4_readObject 10 rfl
theorem dX4_readObject_198 : decode cX4_readObject 198 = .ok (.invokevirtual 165, 3) := dc_of qt_q239_cX4_readObject 11 rfl
theorem dX4_readObject_201 : decode cX4_readObject 201 = .ok (.bipush 24, 2) := dc_of qt_q239_cX4_readObject 12 rfl
theorem dX4_readObject_203 : decode cX4_readObject 203 = .ok (.ishl, 1) := dc_of qt_q239_cX4_readObject 13 rfl
theorem dX4_readObject_204 : decode cX4_readObject 204 = .ok (.ior, 1) := dc_of qt_q239_cX4_readObject 14 rfl
theorem dX4_readObject_205 : decode cX4_readObject 205 = .ok (.iastore, 1) := dc_of qt_q239_cX4_readObject 15 rfl
theorem dX4_readObject_206 : decode cX4_readObject 206 = .ok (.goto 30, 3) := dc_of qt_q239_cX4_readObject 16 rfl
theorem dX4_readObject_209 : decode cX4_readObject 209 = .ok (.aload_n 0, 1) := dc_of qt_q239_cX4_readObject 17 rfl
theorem dX4_readObject_210 : decode cX4_readObject 210 = .ok (.getfield 37, 3) := dc_of qt_q239_cX4_readObject 18 rfl
theorem dX4_readObject_213 : decode cX4_readObject 213 = .ok (.iload_n 2, 1) := dc_of qt_q239_cX4_readObject 19 rfl
theorem dX4_readObject_214 : decode cX4_readObject 214 = .ok (.iconst 1, 1) := dc_of qt_q239_cX4_readObject 20 rfl
theorem dX4_readObject_215 : decode cX4_readObject 215 = .ok (.iadd, 1) := dc_of qt_q239_cX4_readObject 21 rfl
theorem dX4_readObject_216 : decode cX4_readObject 216 = .ok (.iload 7, 2) := dc_of qt_q239_cX4_readObject 22 rfl
theorem dX4_readObject_218 : decode cX4_readObject 218 = .ok (.iadd, 1) := dc_of qt_q239_cX4_readObject 23 rfl
def ql_q240_cX4_readObject : List (Nat × Jvm.ClassFile.Instr × Nat) := [(219, .aload_n 0, 1), (220, .iload 4, 2), (222, .iconst 3, 1), (223, .if_icmp .ne 8, 3), (226, .iload 7, 2), (228, .goto 4, 3), (231, .iconst (-1), 1), (232, .invokevirtual 186, 3), (235, .iastore, 1), (236, .iinc 7 1, 3), (239, .goto (-104), 3), (242, .iload_n 2, 1), (243, .iconst 1, 1), (244, .iadd, 1), (245, .iload 6, 2), (247, .iadd, 1), (248, .ireturn, 1)]
theorem qt_q240_cX4_readObject : dcAll cX4_readObject ql_q240_cX4_readObject = true := by decide +kernel
theorem dX4_readObject_219 : decode cX4_readObject 219 = .ok (.aload_n 0, 1) := dc_of qt_q240_cX4_readObject 0 rfl
theorem dX4_readObject_220 : decode cX4_readObject 220 = .ok (.iload 4, 2) := dc_of qt_q240_cX4_readObject 1 rfl
theorem dX4_readObject_222 : decode cX4_readObject 222 = .ok (.iconst 3, 1) := dc_of qt_q240_cX4_readObject 2 rfl
theorem dX4_readObject_223 : decode cX4_readObject 223 = .ok (.if_icmp .ne 8, 3) := dc_of qt_q240_cX4_readObject 3 rfl
theorem dX4_readObject_226 : decode cX4_readObject 226 = .ok (.iload 7, 2) := dc_of qt_q240_cX4_readObject 4 rfl
theorem dX4_readObject_228 : decode cX4_readObject 228 = .ok (.goto 4, 3) := dc_of qt_q240_cX4_readObject 5 rfl
