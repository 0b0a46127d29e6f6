theorem dX4_sweep_136 : decode cX4_sweep 136 = .ok (.iload 5, 2) := dc_of qt_q188_cX4_sweep 13 rfl
theorem dX4_sweep_138 : decode cX4_sweep 138 = .ok (.if_icmp .gt 67, 3) := dc_of qt_q188_cX4_sweep 14 rfl
theorem dX4_sweep_141 : decode cX4_sweep 141 = .ok (.aload_n 0, 1) := dc_of qt_q188_cX4_sweep 15 rfl
theorem dX4_sweep_142 : decode cX4_sweep 142 = .ok (.getfield 25, 3) := dc_of qt_q188_cX4_sweep 16 rfl
theorem dX4_sweep_145 : decode cX4_sweep 145 = .ok (.iload_n 3, 1) := dc_of qt_q188_cX4_sweep 17 rfl
theorem dX4_sweep_146 : decode cX4_sweep 146 = .ok (.iaload, 1) := dc_of qt_q188_cX4_sweep 18 rfl
theorem dX4_sweep_147 : decode cX4_sweep 147 = .ok (.ifCond .lt 58, 3) := dc_of qt_q188_cX4_sweep 19 rfl
theorem dX4_sweep_150 : decode cX4_sweep 150 = .ok (.aload_n 0, 1) := dc_of qt_q188_cX4_sweep 20 rfl
theorem dX4_sweep_151 : decode cX4_sweep 151 = .ok (.getfield 16, 3) := dc_of qt_q188_cX4_sweep 21 rfl
theorem dX4_sweep_154 : decode cX4_sweep 154 = .ok (.sipush 256, 3) := dc_of qt_q188_cX4_sweep 22 rfl
theorem dX4_sweep_157 : decode cX4_sweep 157 = .ok (.iload_n 1, 1) := dc_of qt_q188_cX4_sweep 23 rfl
def ql_q189_cX4_sweep : List (Nat × Jvm.ClassFile.Instr × Nat) := [(158, .imul, 1), (159, .iload_n 3, 1), (160, .iadd, 1), (161, .iload 7, 2), (163, .iadd, 1), (164, .iaload, 1), (165, .istore 8, 2), (167, .aload_n 0, 1), (168, .getfield 37, 3), (171, .iload_n 2, 1), (172, .iload 7, 2), (174, .ifCond .eq 9, 3), (177, .iload 6, 2), (179, .iconst 2, 1), (180, .if_icmp .ne 8, 3), (183, .iload 8, 2), (185, .goto 10, 3), (188, .aload_n 0, 1), (189, .iload_n 1, 1), (190, .iload 8, 2), (192, .invokevirtual 112, 3), (195, .iastore, 1), (196, .iinc 2 1, 3), (199, .iinc 7 1, 3)]
theorem qt_q189_cX4_sweep : dcAll cX4_sweep ql_q189_cX4_sweep = true := by decide +kernel
theorem dX4_sweep_158 : decode cX4_sweep 158 = .ok (.imul, 1) := dc_of qt_q189_cX4_sweep 0 rfl
theorem dX4_sweep_159 : decode cX4_sweep 159 = .ok (.iload_n 3, 1) := dc_of qt_q189_cX4_sweep 1 rfl
theorem dX4_sweep_160 : decode cX4_sweep 160 = .ok (.iadd, 1) := dc_of qt_q189_cX4_sweep 2 rfl
theorem dX4_sweep_161 : decode cX4_sweep 161 = .ok (.iload 7, 2) := dc_of qt_q189_cX4_sweep 3 rfl
theorem dX4_sweep_163 : decode cX4_sweep 163 = .ok (.iadd, 1) := dc_of qt_q189_cX4_sweep 4 rfl
theorem dX4_sweep_164 : decode cX4_sweep 164 = .ok (.iaload, 1) := dc_of qt_q189_cX4_sweep 5 rfl
theorem dX4_sweep_165 : decode cX4_sweep 165 = .ok (.istore 8, 2) := dc_of qt_q189_cX4_sweep 6 rfl
theorem dX4_sweep_167 : decode cX4_sweep 167 = .ok (.aload_n 0, 1) := dc_of qt_q189_cX4_sweep 7 rfl
theorem dX4_sweep_168 : decode cX4_sweep 168 = .ok (.getfield 37, 3) := dc_of qt_q189_cX4_sweep 8 rfl
theorem dX4_sweep_171 : decode cX4_sweep 171 = .ok (.iload_n 2, 1) := dc_of qt_q189_cX4_sweep 9 rfl
theorem dX4_sweep_172 : decode cX4_sweep 172 = .ok (.iload 7, 2) := dc_of qt_q189_cX4_sweep 10 rfl
theorem dX4_sweep_174 : decode cX4_sweep 174 = .ok (.ifCond .eq 9, 3) := dc_of qt_q189_cX4_sweep 11 rfl
theorem dX4_sweep_177 : decode cX4_sweep 177 = .ok (.iload 6, 2) := dc_of qt_q189_cX4_sweep 12 rfl
theorem dX4_sweep_179 : decode cX4_sweep 179 = .ok (.iconst 2, 1) := dc_of qt_q189_cX4_sweep 13 rfl
theorem dX4_sweep_180 : decode cX4_sweep 180 = .ok (.if_icmp .ne 8, 3) := dc_of qt_q189_cX4_sweep 14 rfl
theorem dX4_sweep_183 : decode cX4_sweep 183 = .ok (.iload 8, 2) := dc_of qt_q189_cX4_sweep 15 rfl
theorem dX4_sweep_185 : decode cX4_sweep 185 = .ok (.goto 10, 3) := dc_of qt_q189_cX4_sweep 16 rfl
theorem dX4_sweep_188 : decode cX4_sweep 188 = .ok (.aload_n 0, 1) := dc_of qt_q189_cX4_sweep 17 rfl
theorem dX4_sweep_189 : decode cX4_sweep 189 = .ok (.iload_n 1, 1) := dc_of qt_q189_cX4_sweep 18 rfl
theorem dX4_sweep_190 : decode cX4_sweep 190 = .ok (.iload 8, 2) := dc_of qt_q189_cX4_sweep 19 rfl
theorem dX4_sweep_192 : decode cX4_sweep 192 = .ok (.invokevirtual 112, 3) := dc_of qt_q189_cX4_sweep 20 rfl
theorem dX4_sweep_195 : decode cX4_sweep 195 = .ok (.iastore, 1) := dc_of qt_q189_cX4_sweep 21 rfl
theorem dX4_sweep_196 : decode cX4_sweep 196 = .ok (.iinc 2 1, 3) := dc_of qt_q189_cX4_sweep 22 rfl
theorem dX4_sweep_199 : decode cX4_sweep 199 = .ok (.iinc 7 1, 3) := dc_of qt_q189_cX4_sweep 23 rfl
def ql_q190_cX4_sweep : List (Nat × Jvm.ClassFile.Instr × Nat) := [(202, .goto (-68), 3), (205, .iload_n 3, 1), (206, .iconst 1, 1), (207, .iadd, 1), (208, .iload 5, 2), (210, .iadd, 1), (211, .istore_n 3, 1), (212, .goto (-103), 3), (215, .iconst 0, 1), (216, .istore 5, 2), (218, .iload 5, 2), (220, .iconst 4, 1), (221, .if_icmp .ge 36, 3), (224, .aload_n 0, 1), (225, .getfield 19, 3), (228, .iconst 4, 1), (229, .iload_n 1, 1), (230, .imul, 1), (231, .iload 5, 2), (233, .iadd, 1), (234, .aload_n 0, 1), (235, .iload_n 1, 1), (236, .aload_n 0, 1), (237, .getfield 19, 3)]
theorem qt_q190_cX4_sweep : dcAll cX4_sweep ql_q190_cX4_sweep = true := by decide +kernel
theorem dX4_sweep_202 : decode cX4_sweep 202 = .ok (.goto (-68), 3) := dc_of qt_q190_cX4_sweep 0 rfl
theorem dX4_sweep_205 : decode cX4_sweep 205 = .ok (.iload_n 3, 1) := dc_of qt_q190_cX4_sweep 1 rfl
theorem dX4_sweep_206 : decode cX4_sweep 206 = .ok (.iconst 1, 1) := dc_of qt_q190_cX4_sweep 2 rfl
theorem dX4_sweep_207 : decode cX4_sweep 207 = .ok (.iadd, 1) := dc_of qt_q190_cX4_sweep 3 rfl
theorem dX4_sweep_208 : decode cX4_sweep 208 = .ok (.iload 5, 2) := dc_of qt_q190_cX4_sweep 4 rfl
theorem dX4_sweep_210 : decode cX4_sweep 210 = .ok (.iadd, 1) := dc_of qt_q190_cX4_sweep 5 rfl
theorem dX4_sweep_211 : decode cX4_sweep 211 = .ok (.istore_n 3, 1) := dc_of qt_q190_cX4_sweep 6 rfl
theorem dX4_sweep_212 : decode cX4_sweep 212 = .ok (.goto (-103), 3) := dc_of qt_q190_cX4_sweep 7 rfl
theorem dX4_sweep_215 : decode cX4_sweep 215 = .ok (.iconst 0, 1) := dc_of qt_q190_cX4_sweep 8 rfl
theorem dX4_sweep_216 : decode cX4_sweep 216 = .ok (.istore 5, 2) := dc_of qt_q190_cX4_sweep 9 rfl
theorem dX4_sweep_218 : decode cX4_sweep 218 = .ok (.iload 5, 2) := dc_of qt_q190_cX4_sweep 10 rfl
theorem dX4_sweep_220 : decode cX4_sweep 220 = .ok (.iconst 4, 1) := dc_of qt_q190_cX4_sweep 11 rfl
theorem dX4_sweep_221 : decode cX4_sweep 221 = .ok (.if_icmp .ge 36, 3) := dc_of qt_q190_cX4_sweep 12 rfl
theorem dX4_sweep_224 : decode cX4_sweep 224 = .ok (.aload_n 0, 1) := dc_of qt_q190_cX4_sweep 13 rfl
theorem dX4_sweep_225 : decode cX4_sweep 225 = .ok (.getfield 19, 3) := dc_of qt_q190_cX4_sweep 14 rfl
theorem dX4_sweep_228 : decode cX4_sweep 228 = .ok (.iconst 4, 1) := dc_of qt_q190_cX4_sweep 15 rfl
theorem dX4_sweep_229 : decode cX4_sweep 229 = .ok (.iload_n 1, 1) := dc_of qt_q190_cX4_sweep 16 rfl
theorem dX4_sweep_230 : decode cX4_sweep 230 = .ok (.imul, 1) := dc_of qt_q190_cX4_sweep 17 rfl
theorem dX4_sweep_231 : decode cX4_sweep 231 = .ok (.iload 5, 2) := dc_of qt_q190_cX4_sweep 18 rfl
theorem dX4_sweep_233 : decode cX4_sweep 233 = .ok (.iadd, 1) := dc_of qt_q190_cX4_sweep 19 rfl
theorem dX4_sweep_234 : decode cX4_sweep 234 = .ok (.aload_n 0, 1) := dc_of qt_q190_cX4_sweep 20 rfl
theorem dX4_sweep_235 : decode cX4_sweep 235 = .ok (.iload_n 1, 1) := dc_of qt_q190_cX4_sweep 21 rfl
theorem dX4_sweep_236 : decode cX4_sweep 236 = .ok (.aload_n 0, 1) := dc_of qt_q190_cX4_sweep 22 rfl
theorem dX4_sweep_237 : decode cX4_sweep 237 = .ok (.getfield 19, 3) := dc_of qt_q190_cX4_sweep 23 rfl
def ql_q191_cX4_sweep : List (Nat × Jvm.ClassFile.Instr × Nat) := [(240, .iconst 4, 1), (241, .iload_n 1, 1), (242, .imul, 1), (243, .iload 5, 2), (245, .iadd, 1), (246, .iaload, 1), (247, .invokevirtual 112, 3), (250, .iastore, 1), (251, .iinc 5 1, 3), (254, .goto (-36), 3), (257, .iconst 0, 1), (258, .istore 5, 2), (260, .iload 5, 2), (262, .sipush 256, 3), (265, .if_icmp .ge 39, 3), (268, .aload_n 0, 1), (269, .getfield 16, 3), (272, .sipush 256, 3), (275, .iload_n 1, 1), (276, .imul, 1), (277, .iload 5, 2), (279, .iadd, 1), (280, .iload 5, 2), (282, .iload_n 2, 1)]
theorem qt_q191_cX4_sweep : dcAll cX4_sweep ql_q191_cX4_sweep = true := by decide +kernel
theorem dX4_sweep_240 : decode cX4_sweep 240 = .ok (.iconst 4, 1) := dc_of qt_q191_cX4_sweep 0 rfl
theorem dX4_sweep_241 : decode cX4_sweep 241 = .ok (.iload_n 1, 1) := dc_of qt_q191_cX4_sweep 1 rfl
theorem dX4_sweep_242 : decode cX4_sweep 242 = .ok (.imul, 1) := dc_of qt_q191_cX4_sweep 2 rfl
theorem dX4_sweep_243 : decode cX4_sweep 243 = .ok (.iload 5, 2) := dc_of qt_q191_cX4_sweep 3 rfl
theorem dX4_sweep_245 : decode cX4_sweep 245 = .ok (.iadd, 1) := dc_of qt_q191_cX4_sweep 4 rfl
theorem dX4_sweep_246 : decode cX4_sweep 246 = .ok (.iaload, 1) := dc_of qt_q191_cX4_sweep 5 rfl
theorem dX4_sweep_247 : decode cX4_sweep 247 = .ok (.invokevirtual 112, 3) := dc_of qt_q191_cX4_sweep 6 rfl
theorem dX4_sweep_250 : decode cX4_sweep 250 = .ok (.iastore, 1) := dc_of qt_q191_cX4_sweep 7 rfl
theorem dX4_sweep_251 : decode cX4_sweep 251 = .ok (.iinc 5 1, 3) := dc_of qt_q191_cX4_sweep 8 rfl
theorem dX4_sweep_254 : decode cX4_sweep 254 = .ok (.goto (-36), 3) := dc_of qt_q191_cX4_sweep 9 rfl
theorem dX4_sweep_257 : decode cX4_sweep 257 = .ok (.iconst 0, 1) := dc_of qt_q191_cX4_sweep 10 rfl
theorem dX4_sweep_258 : decode cX4_sweep 258 = .ok (.istore 5, 2) := dc_of qt_q191_cX4_sweep 11 rfl
theorem dX4_sweep_260 : decode cX4_sweep 260 = .ok (.iload 5, 2) := dc_of qt_q191_cX4_sweep 12 rfl
theorem dX4_sweep_262 : decode cX4_sweep 262 = .ok (.sipush 256, 3) := dc_of qt_q191_cX4_sweep 13 rfl
theorem dX4_sweep_265 : decode cX4_sweep 265 = .ok (.if_icmp .ge 39, 3) := dc_of qt_q191_cX4_sweep 14 rfl
theorem dX4_sweep_268 : decode cX4_sweep 268 = .ok (.aload_n 0, 1) := dc_of qt_q191_cX4_sweep 15 rfl
theorem dX4_sweep_269 : decode cX4_sweep 269 = .ok (.getfield 16, 3) := dc_of qt_q191_cX4_sweep 16 rfl
theorem dX4_sweep_272 : decode cX4_sweep 272 = .ok (.sipush 256, 3) := dc_of qt_q191_cX4_sweep 17 rfl
theorem dX4_sweep_275 : decode cX4_sweep 275 = .ok (.iload_n 1, 1) := dc_of qt_q191_cX4_sweep 18 rfl
theorem dX4_sweep_276 : decode cX4_sweep 276 = .ok (.imul, 1) := dc_of qt_q191_cX4_sweep 19 rfl
theorem dX4_sweep_277 : decode cX4_sweep 277 = .ok (.iload 5, 2) := dc_of qt_q191_cX4_sweep 20 rfl
theorem dX4_sweep_279 : decode cX4_sweep 279 = .ok (.iadd, 1) := dc_of qt_q191_cX4_sweep 21 rfl
theorem dX4_sweep_280 : decode cX4_sweep 280 = .ok (.iload 5, 2) := dc_of qt_q191_cX4_sweep 22 rfl
theorem dX4_sweep_282 : decode cX4_sweep 282 = .ok (.iload_n 2, 1) := dc_of qt_q191_cX4_sweep 23 rfl
def ql_q192_cX4_sweep : List (Nat × Jvm.ClassFile.Instr × Nat) := [(283, .if_icmp .ge 13, 3), (286, .aload_n 0, 1), (287, .getfield 37, 3), (290, .iload 5, 2), (292, .iaload, 1), (293, .goto 4, 3), (296, .iconst 0, 1), (297, .iastore, 1), (298, .iinc 5 1, 3), (301, .goto (-41), 3), (304, .aload_n 0, 1), (305, .getfield 13, 3), (308, .iload_n 1, 1), (309, .iload_n 2, 1), (310, .iastore, 1), (311, .iload 4, 2), (313, .iload_n 2, 1), (314, .isub, 1), (315, .ireturn, 1)]
theorem qt_q192_cX4_sweep : dcAll cX4_sweep ql_q192_cX4_sweep = true := by decide +kernel
theorem dX4_sweep_283 : decode cX4_sweep 283 = .ok (.if_icmp .ge 13, 3) := dc_of qt_q192_cX4_sweep 0 rfl
theorem dX4_sweep_286 : decode cX4_sweep 286 = .ok (.aload_n 0, 1) := dc_of qt_q192_cX4_sweep 1 rfl
theorem dX4_sweep_287 : decode cX4_sweep 287 = .ok (.getfield 37, 3) := dc_of qt_q192_cX4_sweep 2 rfl
theorem dX4_sweep_290 : decode cX4_sweep 290 = .ok (.iload 5, 2) := dc_of qt_q192_cX4_sweep 3 rfl
theorem dX4_sweep_292 : decode cX4_sweep 292 = .ok (.iaload, 1) := dc_of qt_q192_cX4_sweep 4 rfl
theorem dX4_sweep_293 : decode cX4_sweep 293 = .ok (.goto 4, 3) := dc_of qt_q192_cX4_sweep 5 rfl
theorem dX4_sweep_296 : decode cX4_sweep 296 = .ok (.iconst 0, 1) := dc_of qt_q192_cX4_sweep 6 rfl
theorem dX4_sweep_297 : decode cX4_sweep 297 = .ok (.iastore, 1) := dc_of qt_q192_cX4_sweep 7 rfl
theorem dX4_sweep_298 : decode cX4_sweep 298 = .ok (.iinc 5 1, 3) := dc_of qt_q192_cX4_sweep 8 rfl
theorem dX4_sweep_301 : decode cX4_sweep 301 = .ok (.goto (-41), 3) := dc_of qt_q192_cX4_sweep 9 rfl
theorem dX4_sweep_304 : decode cX4_sweep 304 = .ok (.aload_n 0, 1) := dc_of qt_q192_cX4_sweep 10 rfl
theorem dX4_sweep_305 : decode cX4_sweep 305 = .ok (.getfield 13, 3) := dc_of qt_q192_cX4_sweep 11 rfl
theorem dX4_sweep_308 : decode cX4_sweep 308 = .ok (.iload_n 1, 1) := dc_of qt_q192_cX4_sweep 12 rfl
theorem dX4_sweep_309 : decode cX4_sweep 309 = .ok (.iload_n 2, 1) := dc_of qt_q192_cX4_sweep 13 rfl
theorem dX4_sweep_310 : decode cX4_sweep 310 = .ok (.iastore, 1) := dc_of qt_q192_cX4_sweep 14 rfl
theorem dX4_sweep_311 : decode cX4_sweep 311 = .ok (.iload 4, 2) := dc_of qt_q192_cX4_sweep 15 rfl
theorem dX4_sweep_313 : decode cX4_sweep 313 = .ok (.iload_n 2, 1) := dc_of qt_q192_cX4_sweep 16 rfl
theorem dX4_sweep_314 : decode cX4_sweep 314 = .ok (.isub, 1) := dc_of qt_q192_cX4_sweep 17 rfl
theorem dX4_sweep_315 : decode cX4_sweep 315 = .ok (.ireturn, 1) := dc_of qt_q192_cX4_sweep 18 rfl
set_option maxRecDepth 20000 in
theorem ggX4_moved_X4_isNumber : GoodIn wsX4_moved wsX4_isNumber := goodIn_r _ [6] rfl (by decide +kernel)
def ql_q193_cX4_moved : List (Nat × Jvm.ClassFile.Instr × Nat) := [(0, .iload_n 2, 1), (1, .invokestatic 81, 3), (4, .ifCond .ne 7, 3), (7, .iload_n 2, 1), (8, .ifCond .ne 7, 3), (11, .iload_n 2, 1), (12, .goto 27, 3), (15, .aload_n 0, 1), (16, .getfield 7, 3), (19, .iload_n 1, 1), (20, .iaload, 1), (21, .iconst 4, 1), (22, .aload_n 0, 1), (23, .getfield 43, 3), (26, .iload_n 2, 1), (27, .aload_n 0, 1), (28, .getfield 7, 3), (31, .iload_n 1, 1), (32, .iaload, 1), (33, .isub, 1), (34, .iconst 4, 1), (35, .idiv, 1), (36, .iaload, 1), (37, .imul, 1)]
theorem qt_q193_cX4_moved : dcAll cX4_moved ql_q193_cX4_moved = true := by decide +kernel
theorem dX4_moved_0 : decode cX4_moved 0 = .ok (.iload_n 2, 1) := dc_of qt_q193_cX4_moved 0 rfl
theorem dX4_moved_1 : decode cX4_moved 1 = .ok (.invokestatic 81, 3) := dc_of qt_q193_cX4_moved 1 rfl
theorem dX4_moved_4 : decode cX4_moved 4 = .ok (.ifCond .ne 7, 3) := dc_of qt_q193_cX4_moved 2 rfl
theorem dX4_moved_7 : decode cX4_moved 7 = .ok (.iload_n 2, 1) := dc_of qt_q193_cX4_moved 3 rfl
theorem dX4_moved_8 : decode cX4_moved 8 = .ok (.ifCond .ne 7, 3) := dc_of qt_q193_cX4_moved 4 rfl
theorem dX4_moved_11 : decode cX4_moved 11 = .ok (.iload_n 2, 1) := dc_of qt_q193_cX4_moved 5 rfl
theorem dX4_moved_12 : decode cX4_moved 12 = .ok (.goto 27, 3) := dc_of qt_q193_cX4_moved 6 rfl
theorem dX4_moved_15 : decode cX4_moved 15 = .ok (.aload_n 0, 1) := dc_of qt_q193_cX4_moved 7 rfl
theorem dX4_moved_16 : decode cX4_moved 16 = .ok (.getfield 7, 3) := dc_of qt_q193_cX4_moved 8 rfl
theorem dX4_moved_19 : decode cX4_moved 19 = .ok (.iload_n 1, 1) := dc_of qt_q193_cX4_moved 9 rfl
theorem dX4_moved_20 : decode cX4_moved 20 = .ok (.iaload, 1) := dc_of qt_q193_cX4_moved 10 rfl
theorem dX4_moved_21 : decode cX4_moved 21 = .ok (.iconst 4, 1) := dc_of qt_q193_cX4_moved 11 rfl
theorem dX4_moved_22 : decode cX4_moved 22 = .ok (.aload_n 0, 1) := dc_of qt_q193_cX4_moved 12 rfl
theorem dX4_moved_23 : decode cX4_moved 23 = .ok (.getfield 43, 3) := dc_of qt_q193_cX4_moved 13 rfl
theorem dX4_moved_26 : decode cX4_moved 26 = .ok (.iload_n 2, 1) := dc_of qt_q193_cX4_moved 14 rfl
theorem dX4_moved_27 : decode cX4_moved 27 = .ok (.aload_n 0, 1) := dc_of qt_q193_cX4_moved 15 rfl
theorem dX4_moved_28 : decode cX4_moved 28 = .ok (.getfield 7, 3) := dc_of qt_q193_cX4_moved 16 rfl
theorem dX4_moved_31 : decode cX4_moved 31 = .ok (.iload_n 1, 1) := dc_of qt_q193_cX4_moved 17 rfl
theorem dX4_moved_32 : decode cX4_moved 32 = .ok (.iaload, 1) := dc_of qt_q193_cX4_moved 18 rfl
theorem dX4_moved_33 : decode cX4_moved 33 = .ok (.isub, 1) := dc_of qt_q193_cX4_moved 19 rfl
theorem dX4_moved_34 : decode cX4_moved 34 = .ok (.iconst 4, 1) := dc_of qt_q193_cX4_moved 20 rfl
theorem dX4_moved_35 : decode cX4_moved 35 = .ok (.idiv, 1) := dc_of qt_q193_cX4_moved 21 rfl
theorem dX4_moved_36 : decode cX4_moved 36 = .ok (.iaload, 1) := dc_of qt_q193_cX4_moved 22 rfl
theorem dX4_moved_37 : decode cX4_moved 37 = .ok (.imul, 1) := dc_of qt_q193_cX4_moved 23 rfl
def ql_q194_cX4_moved : List (Nat × Jvm.ClassFile.Instr × Nat) := [(38, .iadd, 1), (39, .ireturn, 1)]
theorem qt_q194_cX4_moved : dcAll cX4_moved ql_q194_cX4_moved = true := by decide +kernel
theorem dX4_moved_38 : decode cX4_moved 38 = .ok (.iadd, 1) := dc_of qt_q194_cX4_moved 0 rfl
theorem dX4_moved_39 : decode cX4_moved 39 = .ok (.ireturn, 1) := dc_of qt_q194_cX4_moved 1 rfl
def ql_q195_cX4_put : List (Nat × Jvm.ClassFile.Instr × Nat) := [(0, .aload_n 0, 1), (1, .getfield 28, 3), (4, .aload_n 0, 1), (5, .getfield 115, 3), (8, .iload_n 1, 1), (9, .iastore, 1), (10, .aload_n 0, 1), (11, .dup, 1), (12, .getfield 115, 3), (15, .iconst 1, 1), (16, .iadd, 1), (17, .putfield 115, 3), (20, .return_, 1)]
theorem qt_q195_cX4_put : dcAll cX4_put ql_q195_cX4_put = true := by decide +kernel
theorem dX4_put_0 : decode cX4_put 0 = .ok (.aload_n 0, 1) := dc_of qt_q195_cX4_put 0 rfl
theorem dX4_put_1 : decode cX4_put 1 = .ok (.getfield 28, 3) := dc_of qt_q195_cX4_put 1 rfl
theorem dX4_put_4 : decode cX4_put 4 = .ok (.aload_n 0, 1) := dc_of qt_q195_cX4_put 2 rfl
theorem dX4_put_5 : decode cX4_put 5 = .ok (.getfield 115, 3) := dc_of qt_q195_cX4_put 3 rfl
theorem dX4_put_8 : decode cX4_put 8 = .ok (.iload_n 1, 1) := dc_of qt_q195_cX4_put 4 rfl
theorem dX4_put_9 : decode cX4_put 9 = .ok (.iastore, 1) := dc_of qt_q195_cX4_put 5 rfl
theorem dX4_put_10 : decode cX4_put 10 = .ok (.aload_n 0, 1) := dc_of qt_q195_cX4_put 6 rfl
theorem dX4_put_11 : decode cX4_put 11 = .ok (.dup, 1) := dc_of qt_q195_cX4_put 7 rfl
theorem dX4_put_12 : decode cX4_put 12 = .ok (.getfield 115, 3) := dc_of qt_q195_cX4_put 8 rfl
theorem dX4_put_15 : decode cX4_put 15 = .ok (.iconst 1, 1) := dc_of qt_q195_cX4_put 9 rfl
theorem dX4_put_16 : decode cX4_put 16 = .ok (.iadd, 1) := dc_of qt_q195_cX4_put 10 rfl
theorem dX4_put_17 : decode cX4_put 17 = .ok (.putfield 115, 3) := dc_of qt_q195_cX4_put 11 rfl
theorem dX4_put_20 : decode cX4_put 20 = .ok (.return_, 1) := dc_of qt_q195_cX4_put 12 rfl
set_option maxRecDepth 20000 in
theorem ggX4_putCount_X4_put : GoodIn wsX4_putCount wsX4_put := goodIn_r _ [7, 8, 9, 10, 11, 12, 13, 14, 15, 16, 17, 18, 19, 20, 21, 22, 23, 24, 25, 26, 27, 28, 29, 30, 31, 32] rfl (by decide +kernel)
def ql_q196_cX4_putCount : List (Nat × Jvm.ClassFile.Instr × Nat) := [(0, .lload_n 1, 1), (1, .lstore_n 3, 1), (2, .lload_n 3, 1), (3, .ldc2_w 118, 3), (6, .lcmp, 1), (7, .ifCond .le 26, 3), (10, .aload_n 0, 1), (11, .lload_n 3, 1), (12, .ldc2_w 120, 3), (15, .lrem, 1), (16, .l2i, 1), (17, .sipush 128, 3), (20, .iadd, 1), (21, .invokevirtual 122, 3), (24, .lload_n 3, 1), (25, .ldc2_w 120, 3), (28, .ldiv, 1), (29, .lstore_n 3, 1), (30, .goto (-28), 3), (33, .aload_n 0, 1), (34, .lload_n 3, 1), (35, .l2i, 1), (36, .invokevirtual 122, 3), (39, .return_, 1)]
theorem qt_q196_cX4_putCount : dcAll cX4_putCount ql_q196_cX4_putCount = true := by decide +kernel
theorem dX4_putCount_0 : decode cX4_putCount 0 = .ok (.lload_n 1, 1) := dc_of qt_q196_cX4_putCount 0 rfl
theorem dX4_putCount_1 : decode cX4_putCount 1 = .ok (.lstore_n 3, 1) := dc_of qt_q196_cX4_putCount 1 rfl
theorem dX4_putCount_2 : decode cX4_putCount 2 = .ok (.lload_n 3, 1) := dc_of qt_q196_cX4_putCount 2 rfl
theorem dX4_putCount_3 : decode cX4_putCount 3 = .ok (.ldc2_w 118, 3) := dc_of qt_q196_cX4_putCount 3 rfl
theorem dX4_putCount_6 : decode cX4_putCount 6 = .ok (.lcmp, 1) := dc_of qt_q196_cX4_putCount 4 rfl
theorem dX4_putCount_7 : decode cX4_putCount 7 = .ok (.ifCond .le 26, 3) := dc_of qt_q196_cX4_putCount 5 rfl
theorem dX4_putCount_10 : decode cX4_putCount 10 = .ok (.aload_n 0, 1) := dc_of qt_q196_cX4_putCount 6 rfl
theorem dX4_putCount_11 : decode cX4_putCount 11 = .ok (.lload_n 3, 1) := dc_of qt_q196_cX4_putCount 7 rfl
theorem dX4_putCount_12 : decode cX4_putCount 12 = .ok (.ldc2_w 120, 3) := dc_of qt_q196_cX4_putCount 8 rfl
theorem dX4_putCount_15 : decode cX4_putCount 15 = .ok (.lrem, 1) := dc_of qt_q196_cX4_putCount 9 rfl
theorem dX4_putCount_16 : decode cX4_putCount 16 = .ok (.l2i, 1) := dc_of qt_q196_cX4_putCount 10 rfl
theorem dX4_putCount_17 : decode cX4_putCount 17 = .ok (.sipush 128, 3) := dc_of qt_q196_cX4_putCount 11 rfl
theorem dX4_putCount_20 : decode cX4_putCount 20 = .ok (.iadd, 1) := dc_of qt_q196_cX4_putCount 12 rfl
theorem dX4_putCount_21 : decode cX4_putCount 21 = .ok (.invokevirtual 122, 3) := dc_of qt_q196_cX4_putCount 13 rfl
theorem dX4_putCount_24 : decode cX4_putCount 24 = .ok (.lload_n 3, 1) := dc_of qt_q196_cX4_putCount 14 rfl
theorem dX4_putCount_25 : decode cX4_putCount 25 = .ok (.ldc2_w 120, 3) := dc_of qt_q196_cX4_putCount 15 rfl
theorem dX4_putCount_28 : decode cX4_putCount 28 = .ok (.ldiv, 1) := dc_of qt_q196_cX4_putCount 16 rfl
theorem dX4_putCount_29 : decode cX4_putCount 29 = .ok (.lstore_n 3, 1) := dc_of qt_q196_cX4_putCount 17 rfl
theorem dX4_putCount_30 : decode cX4_putCount 30 = .ok (.goto (-28), 3) := dc_of qt_q196_cX4_putCount 18 rfl
theorem dX4_putCount_33 : decode cX4_putCount 33 = .ok (.aload_n 0, 1) := dc_of qt_q196_cX4_putCount 19 rfl
theorem dX4_putCount_34 : decode cX4_putCount 34 = .ok (.lload_n 3, 1) := dc_of qt_q196_cX4_putCount 20 rfl
theorem dX4_putCount_35 : decode cX4_putCount 35 = .ok (.l2i, 1) := dc_of qt_q196_cX4_putCount 21 rfl
theorem dX4_putCount_36 : decode cX4_putCount 36 = .ok (.invokevirtual 122, 3) := dc_of qt_q196_cX4_putCount 22 rfl
theorem dX4_putCount_39 : decode cX4_putCount 39 = .ok (.return_, 1) := dc_of qt_q196_cX4_putCount 23 rfl
set_option maxRecDepth 20000 in
theorem ggX4_putValue_X4_isNumber : GoodIn wsX4_putValue wsX4_isNumber := goodIn_r _ [10] rfl (by decide +kernel)
set_option maxRecDepth 20000 in
theorem ggX4_putValue_X4_putCount : GoodIn wsX4_putValue wsX4_putCount := goodIn_r _ [14, 15, 16, 17, 18, 19, 9, 20, 21, 22, 23, 24, 25, 26, 27, 28, 29, 30, 31, 32, 33, 34, 35, 36, 37, 38, 39, 40, 41, 42, 43, 44, 45] rfl (by decide +kernel)
def ql_q197_cX4_putValue : List (Nat × Jvm.ClassFile.Instr × Nat) := [(0, .iload_n 2, 1), (1, .invokestatic 81, 3), (4, .ifCond .eq 44, 3), (7, .iload_n 2, 1), (8, .iconst 1, 1), (9, .ishr, 1), (10, .i2l, 1), (11, .lstore_n 3, 1), (12, .aload_n 0, 1), (13, .lload_n 3, 1), (14, .lconst 0, 1), (15, .lcmp, 1), (16, .ifCond .lt 13, 3), (19, .ldc2_w 125, 3), (22, .lload_n 3, 1), (23, .lmul, 1), (24, .lconst 1, 1), (25, .ladd, 1), (26, .goto 16, 3), (29, .ldc2_w 125, 3), (32, .ldc2_w 127, 3), (35, .lload_n 3, 1), (36, .lsub, 1), (37, .lmul, 1)]
theorem qt_q197_cX4_putValue : dcAll cX4_putValue ql_q197_cX4_putValue = true := by decide +kernel
theorem dX4_putValue_0 : decode cX4_putValue 0 = .ok (.iload_n 2, 1) := dc_of qt_q197_cX4_putValue 0 rfl
theorem dX4_putValue_1 : decode cX4_putValue 1 = .ok (.invokestatic 81, 3) := dc_of qt_q197_cX4_putValue 1 rfl
theorem dX4_putValue_4 : decode cX4_putValue 4 = .ok (.ifCond .eq 44, 3) := dc_of qt_q197_cX4_putValue 2 rfl
theorem dX4_putValue_7 : decode cX4_putValue 7 = .ok (.iload_n 2, 1) := dc_of qt_q197_cX4_putValue 3 rfl
theorem dX4_putValue_8 : decode cX4_putValue 8 = .ok (.iconst 1, 1) := dc_of qt_q197_cX4_putValue 4 rfl
theorem dX4_putValue_9 : decode cX4_putValue 9 = .ok (.ishr, 1) := dc_of qt_q197_cX4_putValue 5 rfl
theorem dX4_putValue_10 : decode cX4_putValue 10 = .ok (.i2l, 1) := dc_of qt_q197_cX4_putValue 6 rfl
theorem dX4_putValue_11 : decode cX4_putValue 11 = .ok (.lstore_n 3, 1) := dc_of qt_q197_cX4_putValue 7 rfl
theorem dX4_putValue_12 : decode cX4_putValue 12 = .ok (.aload_n 0, 1) := dc_of qt_q197_cX4_putValue 8 rfl
theorem dX4_putValue_13 : decode cX4_putValue 13 = .ok (.lload_n 3, 1) := dc_of qt_q197_cX4_putValue 9 rfl
theorem dX4_putValue_14 : decode cX4_putValue 14 = .ok (.lconst 0, 1) := dc_of qt_q197_cX4_putValue 10 rfl
theorem dX4_putValue_15 : decode cX4_putValue 15 = .ok (.lcmp, 1) := dc_of qt_q197_cX4_putValue 11 rfl
theorem dX4_putValue_16 : decode cX4_putValue 16 = .ok (.ifCond .lt 13, 3) := dc_of qt_q197_cX4_putValue 12 rfl
theorem dX4_putValue_19 : decode cX4_putValue 19 = .ok (.ldc2_w 125, 3) := dc_of qt_q197_cX4_putValue 13 rfl
theorem dX4_putValue_22 : decode cX4_putValue 22 = .ok (.lload_n 3, 1) := dc_of qt_q197_cX4_putValue 14 rfl
theorem dX4_putValue_23 : decode cX4_putValue 23 = .ok (.lmul, 1) := dc_of qt_q197_cX4_putValue 15 rfl
theorem dX4_putValue_24 : decode cX4_putValue 24 = .ok (.lconst 1, 1) := dc_of qt_q197_cX4_putValue 16 rfl
theorem dX4_putValue_25 : decode cX4_putValue 25 = .ok (.ladd, 1) := dc_of qt_q197_cX4_putValue 17 rfl
theorem dX4_putValue_26 : decode cX4_putValue 26 = .ok (.goto 16, 3) := dc_of qt_q197_cX4_putValue 18 rfl
theorem dX4_putValue_29 : decode cX4_putValue 29 = .ok (.ldc2_w 125, 3) := dc_of qt_q197_cX4_putValue 19 rfl
theorem dX4_putValue_32 : decode cX4_putValue 32 = .ok (.ldc2_w 127, 3) := dc_of qt_q197_cX4_putValue 20 rfl
theorem dX4_putValue_35 : decode cX4_putValue 35 = .ok (.lload_n 3, 1) := dc_of qt_q197_cX4_putValue 21 rfl
theorem dX4_putValue_36 : decode cX4_putValue 36 = .ok (.lsub, 1) := dc_of qt_q197_cX4_putValue 22 rfl
theorem dX4_putValue_37 : decode cX4_putValue 37 = .ok (.lmul, 1) := dc_of qt_q197_cX4_putValue 23 rfl
def ql_q198_cX4_putValue : List (Nat × Jvm.ClassFile.Instr × Nat) := [(38, .ldc2_w 129, 3), (41, .ladd, 1), (42, .invokevirtual 131, 3), (45, .goto 39, 3), (48, .aload_n 0, 1), (49, .iload_n 2, 1), (50, .ifCond .ne 7, 3), (53, .lconst 0, 1), (54, .goto 27, 3), (57, .ldc2_w 135, 3), (60, .aload_n 0, 1), (61, .getfield 25, 3), (64, .iload_n 2, 1), (65, .aload_n 0, 1), (66, .getfield 7, 3), (69, .iload_n 1, 1), (70, .iaload, 1), (71, .isub, 1), (72, .iconst 4, 1), (73, .idiv, 1), (74, .iaload, 1), (75, .i2l, 1), (76, .lmul, 1), (77, .ldc2_w 135, 3)]
theorem qt_q198_cX4_putValue : dcAll cX4_putValue ql_q198_cX4_putValue = true := by decide +kernel
theorem dX4_putValue_38 : decode cX4_putValue 38 = .ok (.ldc2_w 129, 3) := dc_of qt_q198_cX4_putValue 0 rfl
theorem dX4_putValue_41 : decode cX4_putValue 41 = .ok (.ladd, 1) := dc_of qt_q198_cX4_putValue 1 rfl
theorem dX4_putValue_42 : decode cX4_putValue 42 = .ok (.invokevirtual 131, 3) := dc_of qt_q198_cX4_putValue 2 rfl
theorem dX4_putValue_45 : decode cX4_putValue 45 = .ok (.goto 39, 3) := dc_of qt_q198_cX4_putValue 3 rfl
theorem dX4_putValue_48 : decode cX4_putValue 48 = .ok (.aload_n 0, 1) := dc_of qt_q198_cX4_putValue 4 rfl
theorem dX4_putValue_49 : decode cX4_putValue 49 = .ok (.iload_n 2, 1) := dc_of qt_q198_cX4_putValue 5 rfl
theorem dX4_putValue_50 : decode cX4_putValue 50 = .ok (.ifCond .ne 7, 3) := dc_of qt_q198_cX4_putValue 6 rfl
theorem dX4_putValue_53 : decode cX4_putValue 53 = .ok (.lconst 0, 1) := dc_of qt_q198_cX4_putValue 7 rfl
theorem dX4_putValue_54 : decode cX4_putValue 54 = .ok (.goto 27, 3) := dc_of qt_q198_cX4_putValue 8 rfl
theorem dX4_putValue_57 : decode cX4_putValue 57 = .ok (.ldc2_w 135, 3) := dc_of qt_q198_cX4_putValue 9 rfl
theorem dX4_putValue_60 : decode cX4_putValue 60 = .ok (.aload_n 0, 1) := dc_of qt_q198_cX4_putValue 10 rfl
theorem dX4_putValue_61 : decode cX4_putValue 61 = .ok (.getfield 25, 3) := dc_of qt_q198_cX4_putValue 11 rfl
theorem dX4_putValue_64 : decode cX4_putValue 64 = .ok (.iload_n 2, 1) := dc_of qt_q198_cX4_putValue 12 rfl
theorem dX4_putValue_65 : decode cX4_putValue 65 = .ok (.aload_n 0, 1) := dc_of qt_q198_cX4_putValue 13 rfl
theorem dX4_putValue_66 : decode cX4_putValue 66 = .ok (.getfield 7, 3) := dc_of qt_q198_cX4_putValue 14 rfl
theorem dX4_putValue_69 : decode cX4_putValue 69 = .ok (.iload_n 1, 1) := dc_of qt_q198_cX4_putValue 15 rfl
theorem dX4_putValue_70 : decode cX4_putValue 70 = .ok (.iaload, 1) := dc_of qt_q198_cX4_putValue 16 rfl
theorem dX4_putValue_71 : decode cX4_putValue 71 = .ok (.isub, 1) := dc_of qt_q198_cX4_putValue 17 rfl
theorem dX4_putValue_72 : decode cX4_putValue 72 = .ok (.iconst 4, 1) := dc_of qt_q198_cX4_putValue 18 rfl
theorem dX4_putValue_73 : decode cX4_putValue 73 = .ok (.idiv, 1) := dc_of qt_q198_cX4_putValue 19 rfl
theorem dX4_putValue_74 : decode cX4_putValue 74 = .ok (.iaload, 1) := dc_of qt_q198_cX4_putValue 20 rfl
theorem dX4_putValue_75 : decode cX4_putValue 75 = .ok (.i2l, 1) := dc_of qt_q198_cX4_putValue 21 rfl
theorem dX4_putValue_76 : decode cX4_putValue 76 = .ok (.lmul, 1) := dc_of qt_q198_cX4_putValue 22 rfl
theorem dX4_putValue_77 : decode cX4_putValue 77 = .ok (.ldc2_w 135, 3) := dc_of qt_q198_cX4_putValue 23 rfl
def ql_q199_cX4_putValue : List (Nat × Jvm.ClassFile.Instr × Nat) := [(80, .ladd, 1), (81, .invokevirtual 131, 3), (84, .return_, 1)]
theorem qt_q199_cX4_putValue : dcAll cX4_putValue ql_q199_cX4_putValue = true := by decide +kernel
theorem dX4_putValue_80 : decode cX4_putValue 80 = .ok (.ladd, 1) := dc_of qt_q199_cX4_putValue 0 rfl
theorem dX4_putValue_81 : decode cX4_putValue 81 = .ok (.invokevirtual 131, 3) := dc_of qt_q199_cX4_putValue 1 rfl
theorem dX4_putValue_84 : decode cX4_putValue 84 = .ok (.return_, 1) := dc_of qt_q199_cX4_putValue 2 rfl
set_option maxRecDepth 20000 in
theorem ggX4_makeImage_X4_reach : GoodIn wsX4_makeImage wsX4_reach := goodIn_r _ [11, 12, 2, 3, 4, 5, 13, 14, 15, 10, 16, 17, 18, 19, 20, 21, 22, 23, 24, 25, 26, 27, 28, 51, 52, 53, 54, 55, 56, 57, 58, 59, 60, 61, 62, 63, 64, 65, 66, 67, 68, 69, 70, 71, 72, 73] rfl (by decide +kernel)
set_option maxRecDepth 20000 in
theorem ggX4_makeImage_X4_put : GoodIn wsX4_makeImage wsX4_put := goodIn_r _ [32, 6, 1, 51, 52, 53, 54, 55, 56, 57, 58, 59, 60, 61, 62, 63, 64, 65, 66, 67, 68, 69, 70, 71, 72, 73] rfl (by decide +kernel)
set_option maxRecDepth 20000 in
theorem ggX4_makeImage_X4_putCount : GoodIn wsX4_makeImage wsX4_putCount := goodIn_r _ [36, 37, 38, 29, 30, 31, 10, 32, 6, 1, 51, 52, 53, 54, 55, 56, 57, 58, 59, 60, 61, 62, 63, 64, 65, 66, 67, 68, 69, 70, 71, 72, 73] rfl (by decide +kernel)
set_option maxRecDepth 20000 in
theorem ggX4_makeImage_X4_putValue : GoodIn wsX4_makeImage wsX4_putValue := goodIn_r _ [42, 43, 44, 45, 46, 12, 17, 18, 19, 10, 20, 33, 34, 35, 36, 37, 38, 29, 30, 31, 32, 6, 1, 51, 52, 53, 54, 55, 56, 57, 58, 59, 60, 61, 62, 63, 64, 65, 66, 67, 68, 69, 70, 71, 72, 73] rfl (by decide +kernel)
set_option maxRecDepth 20000 in
theorem ggX4_makeImage_X4_kindAt : GoodIn wsX4_makeImage wsX4_kindAt := goodIn_r _ [28, 5, 51, 52, 53, 54, 55, 56, 57, 58, 59, 60, 61, 62, 63, 64, 65, 66, 67, 68, 69, 70, 71, 72, 73] rfl (by decide +kernel)
set_option maxRecDepth 20000 in
theorem ggX4_makeImage_X4_slotsAt : GoodIn wsX4_makeImage wsX4_slotsAt := goodIn_r _ [24, 5, 51, 52, 53, 54, 55, 56, 57, 58, 59, 60, 61, 62, 63, 64, 65, 66, 67, 68, 69, 70, 71, 72, 73] rfl (by decide +kernel)
set_option maxRecDepth 20000 in
theorem ggX4_makeImage_X4_sumOf : GoodIn wsX4_makeImage wsX4_sumOf := goodIn_r _ [49, 50] rfl (by decide +kernel)
def ql_q200_cX4_makeImage : List (Nat × Jvm.ClassFile.Instr × Nat) := [(0, .aload_n 0, 1), (1, .iload_n 1, 1), (2, .invokevirtual 108, 3), (5, .aload_n 0, 1), (6, .iconst 0, 1), (7, .putfield 115, 3), (10, .aload_n 0, 1), (11, .bipush 72, 2), (13, .invokevirtual 122, 3), (16, .aload_n 0, 1), (17, .bipush 73, 2), (19, .invokevirtual 122, 3), (22, .aload_n 0, 1), (23, .iconst 1, 1), (24, .invokevirtual 122, 3), (27, .aload_n 0, 1), (28, .aload_n 0, 1), (29, .getfield 101, 3), (32, .i2l, 1), (33, .invokevirtual 131, 3), (36, .iconst 0, 1), (37, .istore_n 2, 1), (38, .iload_n 2, 1), (39, .iconst 4, 1)]
theorem qt_q200_cX4_makeImage : dcAll cX4_makeImage ql_q200_cX4_makeImage = true := by decide +kernel
theorem dX4_makeImage_0 : decode cX4_makeImage 0 = .ok (.aload_n 0, 1) := dc_of qt_q200_cX4_makeImage 0 rfl
theorem dX4_makeImage_1 : decode cX4_makeImage 1 = .ok (.iload_n 1, 1) := dc_of qt_q200_cX4_makeImage 1 rfl
theorem dX4_makeImage_2 : decode cX4_makeImage 2 = .ok (.invokevirtual 108, 3) := dc_of qt_q200_cX4_makeImage 2 rfl
theorem dX4_makeImage_5 : decode cX4_makeImage 5 = .ok (.aload_n 0, 1) := dc_of qt_q200_cX4_makeImage 3 rfl
theorem dX4_makeImage_6 : decode cX4_makeImage 6 = .ok (.iconst 0, 1) := dc_of qt_q200_cX4_makeImage 4 rfl
theorem dX4_makeImage_7 : decode cX4_makeImage 7 = .ok (.putfield 115, 3) := dc_of qt_q200_cX4_makeImage 5 rfl
theorem dX4_makeImage_10 : decode cX4_makeImage 10 = .ok (.aload_n 0, 1) := dc_of qt_q200_cX4_makeImage 6 rfl
theorem dX4_makeImage_11 : decode cX4_makeImage 11 = .ok (.bipush 72, 2) := dc_of qt_q200_cX4_makeImage 7 rfl
theorem dX4_makeImage_13 : decode cX4_makeImage 13 = .ok (.invokevirtual 122, 3) := dc_of qt_q200_cX4_makeImage 8 rfl
theorem dX4_makeImage_16 : decode cX4_makeImage 16 = .ok (.aload_n 0, 1) := dc_of qt_q200_cX4_makeImage 9 rfl
theorem dX4_makeImage_17 : decode cX4_makeImage 17 = .ok (.bipush 73, 2) := dc_of qt_q200_cX4_makeImage 10 rfl
theorem dX4_makeImage_19 : decode cX4_makeImage 19 = .ok (.invokevirtual 122, 3) := dc_of qt_q200_cX4_makeImage 11 rfl
theorem dX4_makeImage_22 : decode cX4_makeImage 22 = .ok (.aload_n 0, 1) := dc_of qt_q200_cX4_makeImage 12 rfl
theorem dX4_makeImage_23 : decode cX4_makeImage 23 = .ok (.iconst 1, 1) := dc_of qt_q200_cX4_makeImage 13 rfl
theorem dX4_makeImage_24 : decode cX4_makeImage 24 = .ok (.invokevirtual 122, 3) := dc_of qt_q200_cX4_makeImage 14 rfl
theorem dX4_makeImage_27 : decode cX4_makeImage 27 = .ok (.aload_n 0, 1) := dc_of qt_q200_cX4_makeImage 15 rfl
theorem dX4_makeImage_28 : decode cX4_makeImage 28 = .ok (.aload_n 0, 1) := dc_of qt_q200_cX4_makeImage 16 rfl
theorem dX4_makeImage_29 : decode cX4_makeImage 29 = .ok (.getfield 101, 3) := dc_of qt_q200_cX4_makeImage 17 rfl
theorem dX4_makeImage_32 : decode cX4_makeImage 32 = .ok (.i2l, 1) := dc_of qt_q200_cX4_makeImage 18 rfl
theorem dX4_makeImage_33 : decode cX4_makeImage 33 = .ok (.invokevirtual 131, 3) := dc_of qt_q200_cX4_makeImage 19 rfl
theorem dX4_makeImage_36 : decode cX4_makeImage 36 = .ok (.iconst 0, 1) := dc_of qt_q200_cX4_makeImage 20 rfl
theorem dX4_makeImage_37 : decode cX4_makeImage 37 = .ok (.istore_n 2, 1) := dc_of qt_q200_cX4_makeImage 21 rfl
theorem dX4_makeImage_38 : decode cX4_makeImage 38 = .ok (.iload_n 2, 1) := dc_of qt_q200_cX4_makeImage 22 rfl
theorem dX4_makeImage_39 : decode cX4_makeImage 39 = .ok (.iconst 4, 1) := dc_of qt_q200_cX4_makeImage 23 rfl
def ql_q201_cX4_makeImage : List (Nat × Jvm.ClassFile.Instr × Nat) := [(40, .if_icmp .ge 24, 3), (43, .aload_n 0, 1), (44, .iload_n 1, 1), (45, .aload_n 0, 1), (46, .getfield 19, 3), (49, .iconst 4, 1), (50, .iload_n 1, 1), (51, .imul, 1), (52, .iload_n 2, 1), (53, .iadd, 1), (54, .iaload, 1), (55, .invokevirtual 137, 3), (58, .iinc 2 1, 3), (61, .goto (-23), 3), (64, .iconst 0, 1), (65, .istore_n 2, 1), (66, .iload_n 2, 1), (67, .aload_n 0, 1), (68, .getfield 101, 3), (71, .if_icmp .ge 144, 3), (74, .aload_n 0, 1), (75, .getfield 22, 3), (78, .iload_n 2, 1), (79, .iaload, 1)]
theorem qt_q201_cX4_makeImage : dcAll cX4_makeImage ql_q201_cX4_makeImage = true := by decide +kernel
theorem dX4_makeImage_40 : decode cX4_makeImage 40 = .ok (.if_icmp .ge 24, 3) := dc_of qt_q201_cX4_makeImage 0 rfl
theorem dX4_makeImage_43 : decode cX4_makeImage 43 = .ok (.aload_n 0, 1) := dc_of qt_q201_cX4_makeImage 1 rfl
theorem dX4_makeImage_44 : decode cX4_makeImage 44 = .ok (.iload_n 1, 1) := dc_of qt_q201_cX4_makeImage 2 rfl
theorem dX4_makeImage_45 : decode cX4_makeImage 45 = .ok (.aload_n 0, 1) := dc_of qt_q201_cX4_makeImage 3 rfl
theorem dX4_makeImage_46 : decode cX4_makeImage 46 = .ok (.getfield 19, 3) := dc_of qt_q201_cX4_makeImage 4 rfl
theorem dX4_makeImage_49 : decode cX4_makeImage 49 = .ok (.iconst 4, 1) := dc_of qt_q201_cX4_makeImage 5 rfl
theorem dX4_makeImage_50 : decode cX4_makeImage 50 = .ok (.iload_n 1, 1) := dc_of qt_q201_cX4_makeImage 6 rfl
theorem dX4_makeImage_51 : decode cX4_makeImage 51 = .ok (.imul, 1) := dc_of qt_q201_cX4_makeImage 7 rfl
theorem dX4_makeImage_52 : decode cX4_makeImage 52 = .ok (.iload_n 2, 1) := dc_of qt_q201_cX4_makeImage 8 rfl
theorem dX4_makeImage_53 : decode cX4_makeImage 53 = .ok (.iadd, 1) := dc_of qt_q201_cX4_makeImage 9 rfl
theorem dX4_makeImage_54 : decode cX4_makeImage 54 = .ok (.iaload, 1) := dc_of qt_q201_cX4_makeImage 10 rfl
theorem dX4_makeImage_55 : decode cX4_makeImage 55 = .ok (.invokevirtual 137, 3) := dc_of qt_q201_cX4_makeImage 11 rfl
