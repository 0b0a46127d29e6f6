theorem dX4_makeImage_58 : decode cX4_makeImage 58 = .ok (.iinc 2 1, 3) := dc_of qt_q201_cX4_makeImage 12 rfl
theorem dX4_makeImage_61 : decode cX4_makeImage 61 = .ok (.goto (-23), 3) := dc_of qt_q201_cX4_makeImage 13 rfl
theorem dX4_makeImage_64 : decode cX4_makeImage 64 = .ok (.iconst 0, 1) := dc_of qt_q201_cX4_makeImage 14 rfl
theorem dX4_makeImage_65 : decode cX4_makeImage 65 = .ok (.istore_n 2, 1) := dc_of qt_q201_cX4_makeImage 15 rfl
theorem dX4_makeImage_66 : decode cX4_makeImage 66 = .ok (.iload_n 2, 1) := dc_of qt_q201_cX4_makeImage 16 rfl
theorem dX4_makeImage_67 : decode cX4_makeImage 67 = .ok (.aload_n 0, 1) := dc_of qt_q201_cX4_makeImage 17 rfl
theorem dX4_makeImage_68 : decode cX4_makeImage 68 = .ok (.getfield 101, 3) := dc_of qt_q201_cX4_makeImage 18 rfl
theorem dX4_makeImage_71 : decode cX4_makeImage 71 = .ok (.if_icmp .ge 144, 3) := dc_of qt_q201_cX4_makeImage 19 rfl
theorem dX4_makeImage_74 : decode cX4_makeImage 74 = .ok (.aload_n 0, 1) := dc_of qt_q201_cX4_makeImage 20 rfl
theorem dX4_makeImage_75 : decode cX4_makeImage 75 = .ok (.getfield 22, 3) := dc_of qt_q201_cX4_makeImage 21 rfl
theorem dX4_makeImage_78 : decode cX4_makeImage 78 = .ok (.iload_n 2, 1) := dc_of qt_q201_cX4_makeImage 22 rfl
theorem dX4_makeImage_79 : decode cX4_makeImage 79 = .ok (.iaload, 1) := dc_of qt_q201_cX4_makeImage 23 rfl
def ql_q202_cX4_makeImage : List (Nat × Jvm.ClassFile.Instr × Nat) := [(80, .istore_n 3, 1), (81, .aload_n 0, 1), (82, .aload_n 0, 1), (83, .iload_n 1, 1), (84, .iload_n 3, 1), (85, .invokevirtual 87, 3), (88, .invokevirtual 122, 3), (91, .aload_n 0, 1), (92, .aload_n 0, 1), (93, .iload_n 1, 1), (94, .iload_n 3, 1), (95, .invokevirtual 71, 3), (98, .invokevirtual 122, 3), (101, .iconst 0, 1), (102, .istore 4, 2), (104, .iload 4, 2), (106, .aload_n 0, 1), (107, .iload_n 1, 1), (108, .iload_n 3, 1), (109, .invokevirtual 71, 3), (112, .if_icmp .ge 97, 3), (115, .aload_n 0, 1), (116, .getfield 16, 3), (119, .sipush 256, 3)]
theorem qt_q202_cX4_makeImage : dcAll cX4_makeImage ql_q202_cX4_makeImage = true := by decide +kernel
theorem dX4_makeImage_80 : decode cX4_makeImage 80 = .ok (.istore_n 3, 1) := dc_of qt_q202_cX4_makeImage 0 rfl
theorem dX4_makeImage_81 : decode cX4_makeImage 81 = .ok (.aload_n 0, 1) := dc_of qt_q202_cX4_makeImage 1 rfl
theorem dX4_makeImage_82 : decode cX4_makeImage 82 = .ok (.aload_n 0, 1) := dc_of qt_q202_cX4_makeImage 2 rfl
theorem dX4_makeImage_83 : decode cX4_makeImage 83 = .ok (.iload_n 1, 1) := dc_of qt_q202_cX4_makeImage 3 rfl
theorem dX4_makeImage_84 : decode cX4_makeImage 84 = .ok (.iload_n 3, 1) := dc_of qt_q202_cX4_makeImage 4 rfl
theorem dX4_makeImage_85 : decode cX4_makeImage 85 = .ok (.invokevirtual 87, 3) := dc_of qt_q202_cX4_makeImage 5 rfl
theorem dX4_makeImage_88 : decode cX4_makeImage 88 = .ok (.invokevirtual 122, 3) := dc_of qt_q202_cX4_makeImage 6 rfl
theorem dX4_makeImage_91 : decode cX4_makeImage 91 = .ok (.aload_n 0, 1) := dc_of qt_q202_cX4_makeImage 7 rfl
theorem dX4_makeImage_92 : decode cX4_makeImage 92 = .ok (.aload_n 0, 1) := dc_of qt_q202_cX4_makeImage 8 rfl
theorem dX4_makeImage_93 : decode cX4_makeImage 93 = .ok (.iload_n 1, 1) := dc_of qt_q202_cX4_makeImage 9 rfl
theorem dX4_makeImage_94 : decode cX4_makeImage 94 = .ok (.iload_n 3, 1) := dc_of qt_q202_cX4_makeImage 10 rfl
theorem dX4_makeImage_95 : decode cX4_makeImage 95 = .ok (.invokevirtual 71, 3) := dc_of qt_q202_cX4_makeImage 11 rfl
theorem dX4_makeImage_98 : decode cX4_makeImage 98 = .ok (.invokevirtual 122, 3) := dc_of qt_q202_cX4_makeImage 12 rfl
theorem dX4_makeImage_101 : decode cX4_makeImage 101 = .ok (.iconst 0, 1) := dc_of qt_q202_cX4_makeImage 13 rfl
theorem dX4_makeImage_102 : decode cX4_makeImage 102 = .ok (.istore 4, 2) := dc_of qt_q202_cX4_makeImage 14 rfl
theorem dX4_makeImage_104 : decode cX4_makeImage 104 = .ok (.iload 4, 2) := dc_of qt_q202_cX4_makeImage 15 rfl
theorem dX4_makeImage_106 : decode cX4_makeImage 106 = .ok (.aload_n 0, 1) := dc_of qt_q202_cX4_makeImage 16 rfl
theorem dX4_makeImage_107 : decode cX4_makeImage 107 = .ok (.iload_n 1, 1) := dc_of qt_q202_cX4_makeImage 17 rfl
theorem dX4_makeImage_108 : decode cX4_makeImage 108 = .ok (.iload_n 3, 1) := dc_of qt_q202_cX4_makeImage 18 rfl
theorem dX4_makeImage_109 : decode cX4_makeImage 109 = .ok (.invokevirtual 71, 3) := dc_of qt_q202_cX4_makeImage 19 rfl
theorem dX4_makeImage_112 : decode cX4_makeImage 112 = .ok (.if_icmp .ge 97, 3) := dc_of qt_q202_cX4_makeImage 20 rfl
theorem dX4_makeImage_115 : decode cX4_makeImage 115 = .ok (.aload_n 0, 1) := dc_of qt_q202_cX4_makeImage 21 rfl
theorem dX4_makeImage_116 : decode cX4_makeImage 116 = .ok (.getfield 16, 3) := dc_of qt_q202_cX4_makeImage 22 rfl
theorem dX4_makeImage_119 : decode cX4_makeImage 119 = .ok (.sipush 256, 3) := dc_of qt_q202_cX4_makeImage 23 rfl
def ql_q203_cX4_makeImage : List (Nat × Jvm.ClassFile.Instr × Nat) := [(122, .iload_n 1, 1), (123, .imul, 1), (124, .iload_n 3, 1), (125, .iadd, 1), (126, .iconst 1, 1), (127, .iadd, 1), (128, .iload 4, 2), (130, .iadd, 1), (131, .iaload, 1), (132, .istore 5, 2), (134, .aload_n 0, 1), (135, .iload_n 1, 1), (136, .iload_n 3, 1), (137, .invokevirtual 87, 3), (140, .iconst 2, 1), (141, .if_icmp .ne 55, 3), (144, .aload_n 0, 1), (145, .iload 5, 2), (147, .sipush 255, 3), (150, .iand, 1), (151, .invokevirtual 122, 3), (154, .aload_n 0, 1), (155, .iload 5, 2), (157, .bipush 8, 2)]
theorem qt_q203_cX4_makeImage : dcAll cX4_makeImage ql_q203_cX4_makeImage = true := by decide +kernel
theorem dX4_makeImage_122 : decode cX4_makeImage 122 = .ok (.iload_n 1, 1) := dc_of qt_q203_cX4_makeImage 0 rfl
theorem dX4_makeImage_123 : decode cX4_makeImage 123 = .ok (.imul, 1) := dc_of qt_q203_cX4_makeImage 1 rfl
theorem dX4_makeImage_124 : decode cX4_makeImage 124 = .ok (.iload_n 3, 1) := dc_of qt_q203_cX4_makeImage 2 rfl
theorem dX4_makeImage_125 : decode cX4_makeImage 125 = .ok (.iadd, 1) := dc_of qt_q203_cX4_makeImage 3 rfl
theorem dX4_makeImage_126 : decode cX4_makeImage 126 = .ok (.iconst 1, 1) := dc_of qt_q203_cX4_makeImage 4 rfl
theorem dX4_makeImage_127 : decode cX4_makeImage 127 = .ok (.iadd, 1) := dc_of qt_q203_cX4_makeImage 5 rfl
theorem dX4_makeImage_128 : decode cX4_makeImage 128 = .ok (.iload 4, 2) := dc_of qt_q203_cX4_makeImage 6 rfl
theorem dX4_makeImage_130 : decode cX4_makeImage 130 = .ok (.iadd, 1) := dc_of qt_q203_cX4_makeImage 7 rfl
theorem dX4_makeImage_131 : decode cX4_makeImage 131 = .ok (.iaload, 1) := dc_of qt_q203_cX4_makeImage 8 rfl
theorem dX4_makeImage_132 : decode cX4_makeImage 132 = .ok (.istore 5, 2) := dc_of qt_q203_cX4_makeImage 9 rfl
theorem dX4_makeImage_134 : decode cX4_makeImage 134 = .ok (.aload_n 0, 1) := dc_of qt_q203_cX4_makeImage 10 rfl
theorem dX4_makeImage_135 : decode cX4_makeImage 135 = .ok (.iload_n 1, 1) := dc_of qt_q203_cX4_makeImage 11 rfl
theorem dX4_makeImage_136 : decode cX4_makeImage 136 = .ok (.iload_n 3, 1) := dc_of qt_q203_cX4_makeImage 12 rfl
theorem dX4_makeImage_137 : decode cX4_makeImage 137 = .ok (.invokevirtual 87, 3) := dc_of qt_q203_cX4_makeImage 13 rfl
theorem dX4_makeImage_140 : decode cX4_makeImage 140 = .ok (.iconst 2, 1) := dc_of qt_q203_cX4_makeImage 14 rfl
theorem dX4_makeImage_141 : decode cX4_makeImage 141 = .ok (.if_icmp .ne 55, 3) := dc_of qt_q203_cX4_makeImage 15 rfl
theorem dX4_makeImage_144 : decode cX4_makeImage 144 = .ok (.aload_n 0, 1) := dc_of qt_q203_cX4_makeImage 16 rfl
theorem dX4_makeImage_145 : decode cX4_makeImage 145 = .ok (.iload 5, 2) := dc_of qt_q203_cX4_makeImage 17 rfl
theorem dX4_makeImage_147 : decode cX4_makeImage 147 = .ok (.sipush 255, 3) := dc_of qt_q203_cX4_makeImage 18 rfl
theorem dX4_makeImage_150 : decode cX4_makeImage 150 = .ok (.iand, 1) := dc_of qt_q203_cX4_makeImage 19 rfl
theorem dX4_makeImage_151 : decode cX4_makeImage 151 = .ok (.invokevirtual 122, 3) := dc_of qt_q203_cX4_makeImage 20 rfl
theorem dX4_makeImage_154 : decode cX4_makeImage 154 = .ok (.aload_n 0, 1) := dc_of qt_q203_cX4_makeImage 21 rfl
theorem dX4_makeImage_155 : decode cX4_makeImage 155 = .ok (.iload 5, 2) := dc_of qt_q203_cX4_makeImage 22 rfl
theorem dX4_makeImage_157 : decode cX4_makeImage 157 = .ok (.bipush 8, 2) := dc_of qt_q203_cX4_makeImage 23 rfl
def ql_q204_cX4_makeImage : List (Nat × Jvm.ClassFile.Instr × Nat) := [(159, .ishr, 1), (160, .sipush 255, 3), (163, .iand, 1), (164, .invokevirtual 122, 3), (167, .aload_n 0, 1), (168, .iload 5, 2), (170, .bipush 16, 2), (172, .ishr, 1), (173, .sipush 255, 3), (176, .iand, 1), (177, .invokevirtual 122, 3), (180, .aload_n 0, 1), (181, .iload 5, 2), (183, .bipush 24, 2), (185, .ishr, 1), (186, .sipush 255, 3), (189, .iand, 1), (190, .invokevirtual 122, 3), (193, .goto 10, 3), (196, .aload_n 0, 1), (197, .iload_n 1, 1), (198, .iload 5, 2), (200, .invokevirtual 137, 3), (203, .iinc 4 1, 3)]
theorem qt_q204_cX4_makeImage : dcAll cX4_makeImage ql_q204_cX4_makeImage = true := by decide +kernel
theorem dX4_makeImage_159 : decode cX4_makeImage 159 = .ok (.ishr, 1) := dc_of qt_q204_cX4_makeImage 0 rfl
theorem dX4_makeImage_160 : decode cX4_makeImage 160 = .ok (.sipush 255, 3) := dc_of qt_q204_cX4_makeImage 1 rfl
theorem dX4_makeImage_163 : decode cX4_makeImage 163 = .ok (.iand, 1) := dc_of qt_q204_cX4_makeImage 2 rfl
theorem dX4_makeImage_164 : decode cX4_makeImage 164 = .ok (.invokevirtual 122, 3) := dc_of qt_q204_cX4_makeImage 3 rfl
theorem dX4_makeImage_167 : decode cX4_makeImage 167 = .ok (.aload_n 0, 1) := dc_of qt_q204_cX4_makeImage 4 rfl
theorem dX4_makeImage_168 : decode cX4_makeImage 168 = .ok (.iload 5, 2) := dc_of qt_q204_cX4_makeImage 5 rfl
theorem dX4_makeImage_170 : decode cX4_makeImage 170 = .ok (.bipush 16, 2) := dc_of qt_q204_cX4_makeImage 6 rfl
theorem dX4_makeImage_172 : decode cX4_makeImage 172 = .ok (.ishr, 1) := dc_of qt_q204_cX4_makeImage 7 rfl
theorem dX4_makeImage_173 : decode cX4_makeImage 173 = .ok (.sipush 255, 3) := dc_of qt_q204_cX4_makeImage 8 rfl
theorem dX4_makeImage_176 : decode cX4_makeImage 176 = .ok (.iand, 1) := dc_of qt_q204_cX4_makeImage 9 rfl
theorem dX4_makeImage_177 : decode cX4_makeImage 177 = .ok (.invokevirtual 122, 3) := dc_of qt_q204_cX4_makeImage 10 rfl
theorem dX4_makeImage_180 : decode cX4_makeImage 180 = .ok (.aload_n 0, 1) := dc_of qt_q204_cX4_makeImage 11 rfl
theorem dX4_makeImage_181 : decode cX4_makeImage 181 = .ok (.iload 5, 2) := dc_of qt_q204_cX4_makeImage 12 rfl
theorem dX4_makeImage_183 : decode cX4_makeImage 183 = .ok (.bipush 24, 2) := dc_of qt_q204_cX4_makeImage 13 rfl
theorem dX4_makeImage_185 : decode cX4_makeImage 185 = .ok (.ishr, 1) := dc_of qt_q204_cX4_makeImage 14 rfl
theorem dX4_makeImage_186 : decode cX4_makeImage 186 = .ok (.sipush 255, 3) := dc_of qt_q204_cX4_makeImage 15 rfl
theorem dX4_makeImage_189 : decode cX4_makeImage 189 = .ok (.iand, 1) := dc_of qt_q204_cX4_makeImage 16 rfl
theorem dX4_makeImage_190 : decode cX4_makeImage 190 = .ok (.invokevirtual 122, 3) := dc_of qt_q204_cX4_makeImage 17 rfl
theorem dX4_makeImage_193 : decode cX4_makeImage 193 = .ok (.goto 10, 3) := dc_of qt_q204_cX4_makeImage 18 rfl
theorem dX4_makeImage_196 : decode cX4_makeImage 196 = .ok (.aload_n 0, 1) := dc_of qt_q204_cX4_makeImage 19 rfl
theorem dX4_makeImage_197 : decode cX4_makeImage 197 = .ok (.iload_n 1, 1) := dc_of qt_q204_cX4_makeImage 20 rfl
theorem dX4_makeImage_198 : decode cX4_makeImage 198 = .ok (.iload 5, 2) := dc_of qt_q204_cX4_makeImage 21 rfl
theorem dX4_makeImage_200 : decode cX4_makeImage 200 = .ok (.invokevirtual 137, 3) := dc_of qt_q204_cX4_makeImage 22 rfl
theorem dX4_makeImage_203 : decode cX4_makeImage 203 = .ok (.iinc 4 1, 3) := dc_of qt_q204_cX4_makeImage 23 rfl
def ql_q205_cX4_makeImage : List (Nat × Jvm.ClassFile.Instr × Nat) := [(206, .goto (-102), 3), (209, .iinc 2 1, 3), (212, .goto (-146), 3), (215, .aload_n 0, 1), (216, .getfield 28, 3), (219, .aload_n 0, 1), (220, .getfield 115, 3), (223, .invokestatic 140, 3), (226, .istore_n 2, 1), (227, .aload_n 0, 1), (228, .iload_n 2, 1), (229, .sipush 256, 3), (232, .irem, 1), (233, .invokevirtual 122, 3), (236, .aload_n 0, 1), (237, .iload_n 2, 1), (238, .sipush 256, 3), (241, .idiv, 1), (242, .invokevirtual 122, 3), (245, .return_, 1)]
theorem qt_q205_cX4_makeImage : dcAll cX4_makeImage ql_q205_cX4_makeImage = true := by decide +kernel
theorem dX4_makeImage_206 : decode cX4_makeImage 206 = .ok (.goto (-102), 3) := dc_of qt_q205_cX4_makeImage 0 rfl
theorem dX4_makeImage_209 : decode cX4_makeImage 209 = .ok (.iinc 2 1, 3) := dc_of qt_q205_cX4_makeImage 1 rfl
theorem dX4_makeImage_212 : decode cX4_makeImage 212 = .ok (.goto (-146), 3) := dc_of qt_q205_cX4_makeImage 2 rfl
theorem dX4_makeImage_215 : decode cX4_makeImage 215 = .ok (.aload_n 0, 1) := dc_of qt_q205_cX4_makeImage 3 rfl
theorem dX4_makeImage_216 : decode cX4_makeImage 216 = .ok (.getfield 28, 3) := dc_of qt_q205_cX4_makeImage 4 rfl
theorem dX4_makeImage_219 : decode cX4_makeImage 219 = .ok (.aload_n 0, 1) := dc_of qt_q205_cX4_makeImage 5 rfl
theorem dX4_makeImage_220 : decode cX4_makeImage 220 = .ok (.getfield 115, 3) := dc_of qt_q205_cX4_makeImage 6 rfl
theorem dX4_makeImage_223 : decode cX4_makeImage 223 = .ok (.invokestatic 140, 3) := dc_of qt_q205_cX4_makeImage 7 rfl
theorem dX4_makeImage_226 : decode cX4_makeImage 226 = .ok (.istore_n 2, 1) := dc_of qt_q205_cX4_makeImage 8 rfl
theorem dX4_makeImage_227 : decode cX4_makeImage 227 = .ok (.aload_n 0, 1) := dc_of qt_q205_cX4_makeImage 9 rfl
theorem dX4_makeImage_228 : decode cX4_makeImage 228 = .ok (.iload_n 2, 1) := dc_of qt_q205_cX4_makeImage 10 rfl
theorem dX4_makeImage_229 : decode cX4_makeImage 229 = .ok (.sipush 256, 3) := dc_of qt_q205_cX4_makeImage 11 rfl
theorem dX4_makeImage_232 : decode cX4_makeImage 232 = .ok (.irem, 1) := dc_of qt_q205_cX4_makeImage 12 rfl
theorem dX4_makeImage_233 : decode cX4_makeImage 233 = .ok (.invokevirtual 122, 3) := dc_of qt_q205_cX4_makeImage 13 rfl
theorem dX4_makeImage_236 : decode cX4_makeImage 236 = .ok (.aload_n 0, 1) := dc_of qt_q205_cX4_makeImage 14 rfl
theorem dX4_makeImage_237 : decode cX4_makeImage 237 = .ok (.iload_n 2, 1) := dc_of qt_q205_cX4_makeImage 15 rfl
theorem dX4_makeImage_238 : decode cX4_makeImage 238 = .ok (.sipush 256, 3) := dc_of qt_q205_cX4_makeImage 16 rfl
theorem dX4_makeImage_241 : decode cX4_makeImage 241 = .ok (.idiv, 1) := dc_of qt_q205_cX4_makeImage 17 rfl
theorem dX4_makeImage_242 : decode cX4_makeImage 242 = .ok (.invokevirtual 122, 3) := dc_of qt_q205_cX4_makeImage 18 rfl
theorem dX4_makeImage_245 : decode cX4_makeImage 245 = .ok (.return_, 1) := dc_of qt_q205_cX4_makeImage 19 rfl
def ql_q206_cX4_sumOf : List (Nat × Jvm.ClassFile.Instr × Nat) := [(0, .lconst 0, 1), (1, .lstore_n 2, 1), (2, .iconst 0, 1), (3, .istore 4, 2), (5, .iload 4, 2), (7, .iload_n 1, 1), (8, .if_icmp .ge 23, 3), (11, .lload_n 2, 1), (12, .aload_n 0, 1), (13, .iload 4, 2), (15, .iaload, 1), (16, .i2l, 1), (17, .iload 4, 2), (19, .iconst 1, 1), (20, .iadd, 1), (21, .i2l, 1), (22, .lmul, 1), (23, .ladd, 1), (24, .lstore_n 2, 1), (25, .iinc 4 1, 3), (28, .goto (-23), 3), (31, .lload_n 2, 1), (32, .ldc2_w 144, 3), (35, .lrem, 1)]
theorem qt_q206_cX4_sumOf : dcAll cX4_sumOf ql_q206_cX4_sumOf = true := by decide +kernel
theorem dX4_sumOf_0 : decode cX4_sumOf 0 = .ok (.lconst 0, 1) := dc_of qt_q206_cX4_sumOf 0 rfl
theorem dX4_sumOf_1 : decode cX4_sumOf 1 = .ok (.lstore_n 2, 1) := dc_of qt_q206_cX4_sumOf 1 rfl
theorem dX4_sumOf_2 : decode cX4_sumOf 2 = .ok (.iconst 0, 1) := dc_of qt_q206_cX4_sumOf 2 rfl
theorem dX4_sumOf_3 : decode cX4_sumOf 3 = .ok (.istore 4, 2) := dc_of qt_q206_cX4_sumOf 3 rfl
theorem dX4_sumOf_5 : decode cX4_sumOf 5 = .ok (.iload 4, 2) := dc_of qt_q206_cX4_sumOf 4 rfl
theorem dX4_sumOf_7 : decode cX4_sumOf 7 = .ok (.iload_n 1, 1) := dc_of qt_q206_cX4_sumOf 5 rfl
theorem dX4_sumOf_8 : decode cX4_sumOf 8 = .ok (.if_icmp .ge 23, 3) := dc_of qt_q206_cX4_sumOf 6 rfl
theorem dX4_sumOf_11 : decode cX4_sumOf 11 = .ok (.lload_n 2, 1) := dc_of qt_q206_cX4_sumOf 7 rfl
theorem dX4_sumOf_12 : decode cX4_sumOf 12 = .ok (.aload_n 0, 1) := dc_of qt_q206_cX4_sumOf 8 rfl
theorem dX4_sumOf_13 : decode cX4_sumOf 13 = .ok (.iload 4, 2) := dc_of qt_q206_cX4_sumOf 9 rfl
theorem dX4_sumOf_15 : decode cX4_sumOf 15 = .ok (.iaload, 1) := dc_of qt_q206_cX4_sumOf 10 rfl
theorem dX4_sumOf_16 : decode cX4_sumOf 16 = .ok (.i2l, 1) := dc_of qt_q206_cX4_sumOf 11 rfl
theorem dX4_sumOf_17 : decode cX4_sumOf 17 = .ok (.iload 4, 2) := dc_of qt_q206_cX4_sumOf 12 rfl
theorem dX4_sumOf_19 : decode cX4_sumOf 19 = .ok (.iconst 1, 1) := dc_of qt_q206_cX4_sumOf 13 rfl
theorem dX4_sumOf_20 : decode cX4_sumOf 20 = .ok (.iadd, 1) := dc_of qt_q206_cX4_sumOf 14 rfl
theorem dX4_sumOf_21 : decode cX4_sumOf 21 = .ok (.i2l, 1) := dc_of qt_q206_cX4_sumOf 15 rfl
theorem dX4_sumOf_22 : decode cX4_sumOf 22 = .ok (.lmul, 1) := dc_of qt_q206_cX4_sumOf 16 rfl
theorem dX4_sumOf_23 : decode cX4_sumOf 23 = .ok (.ladd, 1) := dc_of qt_q206_cX4_sumOf 17 rfl
theorem dX4_sumOf_24 : decode cX4_sumOf 24 = .ok (.lstore_n 2, 1) := dc_of qt_q206_cX4_sumOf 18 rfl
theorem dX4_sumOf_25 : decode cX4_sumOf 25 = .ok (.iinc 4 1, 3) := dc_of qt_q206_cX4_sumOf 19 rfl
theorem dX4_sumOf_28 : decode cX4_sumOf 28 = .ok (.goto (-23), 3) := dc_of qt_q206_cX4_sumOf 20 rfl
theorem dX4_sumOf_31 : decode cX4_sumOf 31 = .ok (.lload_n 2, 1) := dc_of qt_q206_cX4_sumOf 21 rfl
theorem dX4_sumOf_32 : decode cX4_sumOf 32 = .ok (.ldc2_w 144, 3) := dc_of qt_q206_cX4_sumOf 22 rfl
theorem dX4_sumOf_35 : decode cX4_sumOf 35 = .ok (.lrem, 1) := dc_of qt_q206_cX4_sumOf 23 rfl
def ql_q207_cX4_sumOf : List (Nat × Jvm.ClassFile.Instr × Nat) := [(36, .l2i, 1), (37, .ireturn, 1)]
theorem qt_q207_cX4_sumOf : dcAll cX4_sumOf ql_q207_cX4_sumOf = true := by decide +kernel
theorem dX4_sumOf_36 : decode cX4_sumOf 36 = .ok (.l2i, 1) := dc_of qt_q207_cX4_sumOf 0 rfl
theorem dX4_sumOf_37 : decode cX4_sumOf 37 = .ok (.ireturn, 1) := dc_of qt_q207_cX4_sumOf 1 rfl
set_option maxRecDepth 20000 in
theorem ggX4_dump_X4_isHeap : GoodIn wsX4_dump wsX4_isHeap := goodIn_r _ [6] rfl (by decide +kernel)
set_option maxRecDepth 20000 in
theorem ggX4_dump_X4_firstFault : GoodIn wsX4_dump wsX4_firstFault := goodIn_r _ [10, 11, 12, 13, 14, 15, 5, 16, 17, 18, 19, 20, 21, 22, 23, 24, 25, 26, 27, 28, 29, 30, 31, 32, 33, 34, 35, 36, 37, 38, 39, 40, 41, 42, 43, 44, 45, 46, 47, 86, 87, 88, 89, 90, 91, 92, 93, 94, 95, 96, 97, 98, 99, 100, 101, 102, 103, 104, 105, 106, 107, 108] rfl (by decide +kernel)
set_option maxRecDepth 20000 in
theorem ggX4_dump_X4_makeImage : GoodIn wsX4_dump wsX4_makeImage := goodIn_r _ [51, 2, 52, 13, 53, 12, 54, 55, 56, 57, 5, 58, 59, 60, 61, 62, 63, 47, 36, 37, 38, 24, 25, 26, 27, 28, 29, 30, 31, 64, 65, 66, 67, 68, 69, 70, 71, 72, 73, 74, 75, 76, 77, 78, 79, 80, 81, 82, 83, 84, 85, 86, 87, 88, 89, 90, 91, 92, 93, 94, 95, 96, 97, 98, 99, 100, 101, 102, 103, 104, 105, 106, 107, 108] rfl (by decide +kernel)
def ql_q208_cX4_dump : List (Nat × Jvm.ClassFile.Instr × Nat) := [(0, .aload_n 0, 1), (1, .iload_n 1, 1), (2, .invokestatic 65, 3), (5, .ifCond .ne 7, 3), (8, .iconst 1, 1), (9, .goto 16, 3), (12, .aload_n 0, 1), (13, .iload_n 1, 1), (14, .invokevirtual 93, 3), (17, .ifCond .le 7, 3), (20, .iconst 2, 1), (21, .goto 4, 3), (24, .iconst 0, 1), (25, .putfield 49, 3), (28, .aload_n 0, 1), (29, .getfield 49, 3), (32, .ifCond .le 5, 3), (35, .iconst 0, 1), (36, .ireturn, 1), (37, .aload_n 0, 1), (38, .iload_n 1, 1), (39, .invokevirtual 146, 3), (42, .aload_n 0, 1), (43, .getfield 115, 3)]
theorem qt_q208_cX4_dump : dcAll cX4_dump ql_q208_cX4_dump = true := by decide +kernel
theorem dX4_dump_0 : decode cX4_dump 0 = .ok (.aload_n 0, 1) := dc_of qt_q208_cX4_dump 0 rfl
theorem dX4_dump_1 : decode cX4_dump 1 = .ok (.iload_n 1, 1) := dc_of qt_q208_cX4_dump 1 rfl
theorem dX4_dump_2 : decode cX4_dump 2 = .ok (.invokestatic 65, 3) := dc_of qt_q208_cX4_dump 2 rfl
theorem dX4_dump_5 : decode cX4_dump 5 = .ok (.ifCond .ne 7, 3) := dc_of qt_q208_cX4_dump 3 rfl
theorem dX4_dump_8 : decode cX4_dump 8 = .ok (.iconst 1, 1) := dc_of qt_q208_cX4_dump 4 rfl
theorem dX4_dump_9 : decode cX4_dump 9 = .ok (.goto 16, 3) := dc_of qt_q208_cX4_dump 5 rfl
theorem dX4_dump_12 : decode cX4_dump 12 = .ok (.aload_n 0, 1) := dc_of qt_q208_cX4_dump 6 rfl
theorem dX4_dump_13 : decode cX4_dump 13 = .ok (.iload_n 1, 1) := dc_of qt_q208_cX4_dump 7 rfl
theorem dX4_dump_14 : decode cX4_dump 14 = .ok (.invokevirtual 93, 3) := dc_of qt_q208_cX4_dump 8 rfl
theorem dX4_dump_17 : decode cX4_dump 17 = .ok (.ifCond .le 7, 3) := dc_of qt_q208_cX4_dump 9 rfl
theorem dX4_dump_20 : decode cX4_dump 20 = .ok (.iconst 2, 1) := dc_of qt_q208_cX4_dump 10 rfl
theorem dX4_dump_21 : decode cX4_dump 21 = .ok (.goto 4, 3) := dc_of qt_q208_cX4_dump 11 rfl
theorem dX4_dump_24 : decode cX4_dump 24 = .ok (.iconst 0, 1) := dc_of qt_q208_cX4_dump 12 rfl
theorem dX4_dump_25 : decode cX4_dump 25 = .ok (.putfield 49, 3) := dc_of qt_q208_cX4_dump 13 rfl
theorem dX4_dump_28 : decode cX4_dump 28 = .ok (.aload_n 0, 1) := dc_of qt_q208_cX4_dump 14 rfl
theorem dX4_dump_29 : decode cX4_dump 29 = .ok (.getfield 49, 3) := dc_of qt_q208_cX4_dump 15 rfl
theorem dX4_dump_32 : decode cX4_dump 32 = .ok (.ifCond .le 5, 3) := dc_of qt_q208_cX4_dump 16 rfl
theorem dX4_dump_35 : decode cX4_dump 35 = .ok (.iconst 0, 1) := dc_of qt_q208_cX4_dump 17 rfl
theorem dX4_dump_36 : decode cX4_dump 36 = .ok (.ireturn, 1) := dc_of qt_q208_cX4_dump 18 rfl
theorem dX4_dump_37 : decode cX4_dump 37 = .ok (.aload_n 0, 1) := dc_of qt_q208_cX4_dump 19 rfl
theorem dX4_dump_38 : decode cX4_dump 38 = .ok (.iload_n 1, 1) := dc_of qt_q208_cX4_dump 20 rfl
theorem dX4_dump_39 : decode cX4_dump 39 = .ok (.invokevirtual 146, 3) := dc_of qt_q208_cX4_dump 21 rfl
theorem dX4_dump_42 : decode cX4_dump 42 = .ok (.aload_n 0, 1) := dc_of qt_q208_cX4_dump 22 rfl
theorem dX4_dump_43 : decode cX4_dump 43 = .ok (.getfield 115, 3) := dc_of qt_q208_cX4_dump 23 rfl
def ql_q209_cX4_dump : List (Nat × Jvm.ClassFile.Instr × Nat) := [(46, .ireturn, 1)]
theorem qt_q209_cX4_dump : dcAll cX4_dump ql_q209_cX4_dump = true := by decide +kernel
theorem dX4_dump_46 : decode cX4_dump 46 = .ok (.ireturn, 1) := dc_of qt_q209_cX4_dump 0 rfl
def ql_q210_cX4_byteAt : List (Nat × Jvm.ClassFile.Instr × Nat) := [(0, .aload_n 0, 1), (1, .iload_n 1, 1), (2, .ifCond .lt 11, 3), (5, .iload_n 1, 1), (6, .aload_n 0, 1), (7, .getfield 115, 3), (10, .if_icmp .lt 7, 3), (13, .iconst 1, 1), (14, .goto 4, 3), (17, .iconst 0, 1), (18, .putfield 49, 3), (21, .aload_n 0, 1), (22, .getfield 49, 3), (25, .iconst 1, 1), (26, .if_icmp .ne 7, 3), (29, .iconst 0, 1), (30, .goto 9, 3), (33, .aload_n 0, 1), (34, .getfield 28, 3), (37, .iload_n 1, 1), (38, .iaload, 1), (39, .ireturn, 1)]
theorem qt_q210_cX4_byteAt : dcAll cX4_byteAt ql_q210_cX4_byteAt = true := by decide +kernel
theorem dX4_byteAt_0 : decode cX4_byteAt 0 = .ok (.aload_n 0, 1) := dc_of qt_q210_cX4_byteAt 0 rfl
theorem dX4_byteAt_1 : decode cX4_byteAt 1 = .ok (.iload_n 1, 1) := dc_of qt_q210_cX4_byteAt 1 rfl
theorem dX4_byteAt_2 : decode cX4_byteAt 2 = .ok (.ifCond .lt 11, 3) := dc_of qt_q210_cX4_byteAt 2 rfl
theorem dX4_byteAt_5 : decode cX4_byteAt 5 = .ok (.iload_n 1, 1) := dc_of qt_q210_cX4_byteAt 3 rfl
theorem dX4_byteAt_6 : decode cX4_byteAt 6 = .ok (.aload_n 0, 1) := dc_of qt_q210_cX4_byteAt 4 rfl
theorem dX4_byteAt_7 : decode cX4_byteAt 7 = .ok (.getfield 115, 3) := dc_of qt_q210_cX4_byteAt 5 rfl
theorem dX4_byteAt_10 : decode cX4_byteAt 10 = .ok (.if_icmp .lt 7, 3) := dc_of qt_q210_cX4_byteAt 6 rfl
theorem dX4_byteAt_13 : decode cX4_byteAt 13 = .ok (.iconst 1, 1) := dc_of qt_q210_cX4_byteAt 7 rfl
theorem dX4_byteAt_14 : decode cX4_byteAt 14 = .ok (.goto 4, 3) := dc_of qt_q210_cX4_byteAt 8 rfl
theorem dX4_byteAt_17 : decode cX4_byteAt 17 = .ok (.iconst 0, 1) := dc_of qt_q210_cX4_byteAt 9 rfl
theorem dX4_byteAt_18 : decode cX4_byteAt 18 = .ok (.putfield 49, 3) := dc_of qt_q210_cX4_byteAt 10 rfl
theorem dX4_byteAt_21 : decode cX4_byteAt 21 = .ok (.aload_n 0, 1) := dc_of qt_q210_cX4_byteAt 11 rfl
theorem dX4_byteAt_22 : decode cX4_byteAt 22 = .ok (.getfield 49, 3) := dc_of qt_q210_cX4_byteAt 12 rfl
theorem dX4_byteAt_25 : decode cX4_byteAt 25 = .ok (.iconst 1, 1) := dc_of qt_q210_cX4_byteAt 13 rfl
theorem dX4_byteAt_26 : decode cX4_byteAt 26 = .ok (.if_icmp .ne 7, 3) := dc_of qt_q210_cX4_byteAt 14 rfl
theorem dX4_byteAt_29 : decode cX4_byteAt 29 = .ok (.iconst 0, 1) := dc_of qt_q210_cX4_byteAt 15 rfl
theorem dX4_byteAt_30 : decode cX4_byteAt 30 = .ok (.goto 9, 3) := dc_of qt_q210_cX4_byteAt 16 rfl
theorem dX4_byteAt_33 : decode cX4_byteAt 33 = .ok (.aload_n 0, 1) := dc_of qt_q210_cX4_byteAt 17 rfl
theorem dX4_byteAt_34 : decode cX4_byteAt 34 = .ok (.getfield 28, 3) := dc_of qt_q210_cX4_byteAt 18 rfl
theorem dX4_byteAt_37 : decode cX4_byteAt 37 = .ok (.iload_n 1, 1) := dc_of qt_q210_cX4_byteAt 19 rfl
theorem dX4_byteAt_38 : decode cX4_byteAt 38 = .ok (.iaload, 1) := dc_of qt_q210_cX4_byteAt 20 rfl
theorem dX4_byteAt_39 : decode cX4_byteAt 39 = .ok (.ireturn, 1) := dc_of qt_q210_cX4_byteAt 21 rfl
def ql_q211_cX4_feed : List (Nat × Jvm.ClassFile.Instr × Nat) := [(0, .aload_n 0, 1), (1, .iload_n 1, 1), (2, .ifCond .lt 10, 3), (5, .iload_n 1, 1), (6, .sipush 255, 3), (9, .if_icmp .le 7, 3), (12, .iconst 1, 1), (13, .goto 18, 3), (16, .aload_n 0, 1), (17, .getfield 149, 3), (20, .sipush 2000, 3), (23, .if_icmp .ne 7, 3), (26, .iconst 2, 1), (27, .goto 4, 3), (30, .iconst 0, 1), (31, .putfield 49, 3), (34, .aload_n 0, 1), (35, .getfield 49, 3), (38, .ifCond .le 5, 3), (41, .iconst 0, 1), (42, .ireturn, 1), (43, .aload_n 0, 1), (44, .getfield 34, 3), (47, .aload_n 0, 1)]
theorem qt_q211_cX4_feed : dcAll cX4_feed ql_q211_cX4_feed = true := by decide +kernel
theorem dX4_feed_0 : decode cX4_feed 0 = .ok (.aload_n 0, 1) := dc_of qt_q211_cX4_feed 0 rfl
theorem dX4_feed_1 : decode cX4_feed 1 = .ok (.iload_n 1, 1) := dc_of qt_q211_cX4_feed 1 rfl
theorem dX4_feed_2 : decode cX4_feed 2 = .ok (.ifCond .lt 10, 3) := dc_of qt_q211_cX4_feed 2 rfl
theorem dX4_feed_5 : decode cX4_feed 5 = .ok (.iload_n 1, 1) := dc_of qt_q211_cX4_feed 3 rfl
theorem dX4_feed_6 : decode cX4_feed 6 = .ok (.sipush 255, 3) := dc_of qt_q211_cX4_feed 4 rfl
theorem dX4_feed_9 : decode cX4_feed 9 = .ok (.if_icmp .le 7, 3) := dc_of qt_q211_cX4_feed 5 rfl
theorem dX4_feed_12 : decode cX4_feed 12 = .ok (.iconst 1, 1) := dc_of qt_q211_cX4_feed 6 rfl
theorem dX4_feed_13 : decode cX4_feed 13 = .ok (.goto 18, 3) := dc_of qt_q211_cX4_feed 7 rfl
theorem dX4_feed_16 : decode cX4_feed 16 = .ok (.aload_n 0, 1) := dc_of qt_q211_cX4_feed 8 rfl
theorem dX4_feed_17 : decode cX4_feed 17 = .ok (.getfield 149, 3) := dc_of qt_q211_cX4_feed 9 rfl
theorem dX4_feed_20 : decode cX4_feed 20 = .ok (.sipush 2000, 3) := dc_of qt_q211_cX4_feed 10 rfl
theorem dX4_feed_23 : decode cX4_feed 23 = .ok (.if_icmp .ne 7, 3) := dc_of qt_q211_cX4_feed 11 rfl
theorem dX4_feed_26 : decode cX4_feed 26 = .ok (.iconst 2, 1) := dc_of qt_q211_cX4_feed 12 rfl
theorem dX4_feed_27 : decode cX4_feed 27 = .ok (.goto 4, 3) := dc_of qt_q211_cX4_feed 13 rfl
theorem dX4_feed_30 : decode cX4_feed 30 = .ok (.iconst 0, 1) := dc_of qt_q211_cX4_feed 14 rfl
theorem dX4_feed_31 : decode cX4_feed 31 = .ok (.putfield 49, 3) := dc_of qt_q211_cX4_feed 15 rfl
theorem dX4_feed_34 : decode cX4_feed 34 = .ok (.aload_n 0, 1) := dc_of qt_q211_cX4_feed 16 rfl
theorem dX4_feed_35 : decode cX4_feed 35 = .ok (.getfield 49, 3) := dc_of qt_q211_cX4_feed 17 rfl
theorem dX4_feed_38 : decode cX4_feed 38 = .ok (.ifCond .le 5, 3) := dc_of qt_q211_cX4_feed 18 rfl
theorem dX4_feed_41 : decode cX4_feed 41 = .ok (.iconst 0, 1) := dc_of qt_q211_cX4_feed 19 rfl
theorem dX4_feed_42 : decode cX4_feed 42 = .ok (.ireturn, 1) := dc_of qt_q211_cX4_feed 20 rfl
theorem dX4_feed_43 : decode cX4_feed 43 = .ok (.aload_n 0, 1) := dc_of qt_q211_cX4_feed 21 rfl
theorem dX4_feed_44 : decode cX4_feed 44 = .ok (.getfield 34, 3) := dc_of qt_q211_cX4_feed 22 rfl
theorem dX4_feed_47 : decode cX4_feed 47 = .ok (.aload_n 0, 1) := dc_of qt_q211_cX4_feed 23 rfl
def ql_q212_cX4_feed : List (Nat × Jvm.ClassFile.Instr × Nat) := [(48, .getfield 149, 3), (51, .iload_n 1, 1), (52, .iastore, 1), (53, .aload_n 0, 1), (54, .dup, 1), (55, .getfield 149, 3), (58, .iconst 1, 1), (59, .iadd, 1), (60, .putfield 149, 3), (63, .aload_n 0, 1), (64, .getfield 149, 3), (67, .ireturn, 1)]
theorem qt_q212_cX4_feed : dcAll cX4_feed ql_q212_cX4_feed = true := by decide +kernel
theorem dX4_feed_48 : decode cX4_feed 48 = .ok (.getfield 149, 3) := dc_of qt_q212_cX4_feed 0 rfl
theorem dX4_feed_51 : decode cX4_feed 51 = .ok (.iload_n 1, 1) := dc_of qt_q212_cX4_feed 1 rfl
theorem dX4_feed_52 : decode cX4_feed 52 = .ok (.iastore, 1) := dc_of qt_q212_cX4_feed 2 rfl
theorem dX4_feed_53 : decode cX4_feed 53 = .ok (.aload_n 0, 1) := dc_of qt_q212_cX4_feed 3 rfl
theorem dX4_feed_54 : decode cX4_feed 54 = .ok (.dup, 1) := dc_of qt_q212_cX4_feed 4 rfl
theorem dX4_feed_55 : decode cX4_feed 55 = .ok (.getfield 149, 3) := dc_of qt_q212_cX4_feed 5 rfl
theorem dX4_feed_58 : decode cX4_feed 58 = .ok (.iconst 1, 1) := dc_of qt_q212_cX4_feed 6 rfl
theorem dX4_feed_59 : decode cX4_feed 59 = .ok (.iadd, 1) := dc_of qt_q212_cX4_feed 7 rfl
theorem dX4_feed_60 : decode cX4_feed 60 = .ok (.putfield 149, 3) := dc_of qt_q212_cX4_feed 8 rfl
theorem dX4_feed_63 : decode cX4_feed 63 = .ok (.aload_n 0, 1) := dc_of qt_q212_cX4_feed 9 rfl
theorem dX4_feed_64 : decode cX4_feed 64 = .ok (.getfield 149, 3) := dc_of qt_q212_cX4_feed 10 rfl
theorem dX4_feed_67 : decode cX4_feed 67 = .ok (.ireturn, 1) := dc_of qt_q212_cX4_feed 11 rfl
def ql_q213_cX4_pass : List (Nat × Jvm.ClassFile.Instr × Nat) := [(0, .iload_n 1, 1), (1, .ifCond .lt 11, 3), (4, .iload_n 1, 1), (5, .aload_n 0, 1), (6, .getfield 115, 3), (9, .if_icmp .lt 7, 3), (12, .iconst 0, 1), (13, .goto 23, 3), (16, .iload_n 2, 1), (17, .aload_n 0, 1), (18, .getfield 115, 3), (21, .iload_n 1, 1), (22, .isub, 1), (23, .if_icmp .ge 7, 3), (26, .iload_n 2, 1), (27, .goto 9, 3), (30, .aload_n 0, 1), (31, .getfield 115, 3), (34, .iload_n 1, 1), (35, .isub, 1), (36, .istore_n 3, 1), (37, .aload_n 0, 1), (38, .iload_n 1, 1), (39, .ifCond .lt 11, 3)]
theorem qt_q213_cX4_pass : dcAll cX4_pass ql_q213_cX4_pass = true := by decide +kernel
theorem dX4_pass_0 : decode cX4_pass 0 = .ok (.iload_n 1, 1) := dc_of qt_q213_cX4_pass 0 rfl
theorem dX4_pass_1 : decode cX4_pass 1 = .ok (.ifCond .lt 11, 3) := dc_of qt_q213_cX4_pass 1 rfl
theorem dX4_pass_4 : decode cX4_pass 4 = .ok (.iload_n 1, 1) := dc_of qt_q213_cX4_pass 2 rfl
theorem dX4_pass_5 : decode cX4_pass 5 = .ok (.aload_n 0, 1) := dc_of qt_q213_cX4_pass 3 rfl
theorem dX4_pass_6 : decode cX4_pass 6 = .ok (.getfield 115, 3) := dc_of qt_q213_cX4_pass 4 rfl
theorem dX4_pass_9 : decode cX4_pass 9 = .ok (.if_icmp .lt 7, 3) := dc_of qt_q213_cX4_pass 5 rfl
theorem dX4_pass_12 : decode cX4_pass 12 = .ok (.iconst 0, 1) := dc_of qt_q213_cX4_pass 6 rfl
theorem dX4_pass_13 : decode cX4_pass 13 = .ok (.goto 23, 3) := dc_of qt_q213_cX4_pass 7 rfl
theorem dX4_pass_16 : decode cX4_pass 16 = .ok (.iload_n 2, 1) := dc_of qt_q213_cX4_pass 8 rfl
theorem dX4_pass_17 : decode cX4_pass 17 = .ok (.aload_n 0, 1) := dc_of qt_q213_cX4_pass 9 rfl
theorem dX4_pass_18 : decode cX4_pass 18 = .ok (.getfield 115, 3) := dc_of qt_q213_cX4_pass 10 rfl
theorem dX4_pass_21 : decode cX4_pass 21 = .ok (.iload_n 1, 1) := dc_of qt_q213_cX4_pass 11 rfl
theorem dX4_pass_22 : decode cX4_pass 22 = .ok (.isub, 1) := dc_of qt_q213_cX4_pass 12 rfl
theorem dX4_pass_23 : decode cX4_pass 23 = .ok (.if_icmp .ge 7, 3) := dc_of qt_q213_cX4_pass 13 rfl
theorem dX4_pass_26 : decode cX4_pass 26 = .ok (.iload_n 2, 1) := dc_of qt_q213_cX4_pass 14 rfl
theorem dX4_pass_27 : decode cX4_pass 27 = .ok (.goto 9, 3) := dc_of qt_q213_cX4_pass 15 rfl
theorem dX4_pass_30 : decode cX4_pass 30 = .ok (.aload_n 0, 1) := dc_of qt_q213_cX4_pass 16 rfl
theorem dX4_pass_31 : decode cX4_pass 31 = .ok (.getfield 115, 3) := dc_of qt_q213_cX4_pass 17 rfl
theorem dX4_pass_34 : decode cX4_pass 34 = .ok (.iload_n 1, 1) := dc_of qt_q213_cX4_pass 18 rfl
theorem dX4_pass_35 : decode cX4_pass 35 = .ok (.isub, 1) := dc_of qt_q213_cX4_pass 19 rfl
theorem dX4_pass_36 : decode cX4_pass 36 = .ok (.istore_n 3, 1) := dc_of qt_q213_cX4_pass 20 rfl
theorem dX4_pass_37 : decode cX4_pass 37 = .ok (.aload_n 0, 1) := dc_of qt_q213_cX4_pass 21 rfl
theorem dX4_pass_38 : decode cX4_pass 38 = .ok (.iload_n 1, 1) := dc_of qt_q213_cX4_pass 22 rfl
theorem dX4_pass_39 : decode cX4_pass 39 = .ok (.ifCond .lt 11, 3) := dc_of qt_q213_cX4_pass 23 rfl
def ql_q214_cX4_pass : List (Nat × Jvm.ClassFile.Instr × Nat) := [(42, .iload_n 1, 1), (43, .aload_n 0, 1), (44, .getfield 115, 3), (47, .if_icmp .lt 7, 3), (50, .iconst 1, 1), (51, .goto 28, 3), (54, .iload_n 2, 1), (55, .ifCond .ge 7, 3), (58, .iconst 2, 1), (59, .goto 20, 3), (62, .aload_n 0, 1), (63, .getfield 149, 3), (66, .iload_n 3, 1), (67, .iadd, 1), (68, .sipush 2000, 3), (71, .if_icmp .le 7, 3), (74, .iconst 3, 1), (75, .goto 4, 3), (78, .iconst 0, 1), (79, .putfield 49, 3), (82, .aload_n 0, 1), (83, .getfield 49, 3), (86, .ifCond .le 5, 3), (89, .iconst 0, 1)]
theorem qt_q214_cX4_pass : dcAll cX4_pass ql_q214_cX4_pass = true := by decide +kernel
theorem dX4_pass_42 : decode cX4_pass 42 = .ok (.iload_n 1, 1) := dc_of qt_q214_cX4_pass 0 rfl
theorem dX4_pass_43 : decode cX4_pass 43 = .ok (.aload_n 0, 1) := dc_of qt_q214_cX4_pass 1 rfl
theorem dX4_pass_44 : decode cX4_pass 44 = .ok (.getfield 115, 3) := dc_of qt_q214_cX4_pass 2 rfl
theorem dX4_pass_47 : decode cX4_pass 47 = .ok (.if_icmp .lt 7, 3) := dc_of qt_q214_cX4_pass 3 rfl
theorem dX4_pass_50 : decode cX4_pass 50 = .ok (.iconst 1, 1) := dc_of qt_q214_cX4_pass 4 rfl
theorem dX4_pass_51 : decode cX4_pass 51 = .ok (.goto 28, 3) := dc_of qt_q214_cX4_pass 5 rfl
theorem dX4_pass_54 : decode cX4_pass 54 = .ok (.iload_n 2, 1) := dc_of qt_q214_cX4_pass 6 rfl
theorem dX4_pass_55 : decode cX4_pass 55 = .ok (.ifCond .ge 7, 3) := dc_of qt_q214_cX4_pass 7 rfl
theorem dX4_pass_58 : decode cX4_pass 58 = .ok (.iconst 2, 1) := dc_of qt_q214_cX4_pass 8 rfl
theorem dX4_pass_59 : decode cX4_pass 59 = .ok (.goto 20, 3) := dc_of qt_q214_cX4_pass 9 rfl
theorem dX4_pass_62 : decode cX4_pass 62 = .ok (.aload_n 0, 1) := dc_of qt_q214_cX4_pass 10 rfl
theorem dX4_pass_63 : decode cX4_pass 63 = .ok (.getfield 149, 3) := dc_of qt_q214_cX4_pass 11 rfl
theorem dX4_pass_66 : decode cX4_pass 66 = .ok (.iload_n 3, 1) := dc_of qt_q214_cX4_pass 12 rfl
theorem dX4_pass_67 : decode cX4_pass 67 = .ok (.iadd, 1) := dc_of qt_q214_cX4_pass 13 rfl
theorem dX4_pass_68 : decode cX4_pass 68 = .ok (.sipush 2000, 3) := dc_of qt_q214_cX4_pass 14 rfl
theorem dX4_pass_71 : decode cX4_pass 71 = .ok (.if_icmp .le 7, 3) := dc_of qt_q214_cX4_pass 15 rfl
theorem dX4_pass_74 : decode cX4_pass 74 = .ok (.iconst 3, 1) := dc_of qt_q214_cX4_pass 16 rfl
theorem dX4_pass_75 : decode cX4_pass 75 = .ok (.goto 4, 3) := dc_of qt_q214_cX4_pass 17 rfl
theorem dX4_pass_78 : decode cX4_pass 78 = .ok (.iconst 0, 1) := dc_of qt_q214_cX4_pass 18 rfl
theorem dX4_pass_79 : decode cX4_pass 79 = .ok (.putfield 49, 3) := dc_of qt_q214_cX4_pass 19 rfl
theorem dX4_pass_82 : decode cX4_pass 82 = .ok (.aload_n 0, 1) := dc_of qt_q214_cX4_pass 20 rfl
theorem dX4_pass_83 : decode cX4_pass 83 = .ok (.getfield 49, 3) := dc_of qt_q214_cX4_pass 21 rfl
theorem dX4_pass_86 : decode cX4_pass 86 = .ok (.ifCond .le 5, 3) := dc_of qt_q214_cX4_pass 22 rfl
theorem dX4_pass_89 : decode cX4_pass 89 = .ok (.iconst 0, 1) := dc_of qt_q214_cX4_pass 23 rfl
def ql_q215_cX4_pass : List (Nat × Jvm.ClassFile.Instr × Nat) := [(90, .ireturn, 1), (91, .iconst 0, 1), (92, .istore 4, 2), (94, .iload 4, 2), (96, .iload_n 3, 1), (97, .if_icmp .ge 37, 3), (100, .aload_n 0, 1), (101, .getfield 34, 3), (104, .aload_n 0, 1), (105, .getfield 149, 3), (108, .aload_n 0, 1), (109, .getfield 28, 3), (112, .iload_n 1, 1), (113, .iload 4, 2), (115, .iadd, 1), (116, .iaload, 1), (117, .iastore, 1), (118, .aload_n 0, 1), (119, .dup, 1), (120, .getfield 149, 3), (123, .iconst 1, 1), (124, .iadd, 1), (125, .putfield 149, 3), (128, .iinc 4 1, 3)]
theorem qt_q215_cX4_pass : dcAll cX4_pass ql_q215_cX4_pass = true := by decide +kernel
theorem dX4_pass_90 : decode cX4_pass 90 = .ok (.ireturn, 1) := dc_of qt_q215_cX4_pass 0 rfl
theorem dX4_pass_91 : decode cX4_pass 91 = .ok (.iconst 0, 1) := dc_of qt_q215_cX4_pass 1 rfl
theorem dX4_pass_92 : decode cX4_pass 92 = .ok (.istore 4, 2) := dc_of qt_q215_cX4_pass 2 rfl
theorem dX4_pass_94 : decode cX4_pass 94 = .ok (.iload 4, 2) := dc_of qt_q215_cX4_pass 3 rfl
theorem dX4_pass_96 : decode cX4_pass 96 = .ok (.iload_n 3, 1) := dc_of qt_q215_cX4_pass 4 rfl
