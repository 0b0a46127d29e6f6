theorem dX4_move_163 : decode cX4_move 163 = .ok (.iload 5, 2) := dc_of qt_q176_cX4_move 17 rfl
theorem dX4_move_165 : decode cX4_move 165 = .ok (.iconst 1, 1) := dc_of qt_q176_cX4_move 18 rfl
theorem dX4_move_166 : decode cX4_move 166 = .ok (.iadd, 1) := dc_of qt_q176_cX4_move 19 rfl
theorem dX4_move_167 : decode cX4_move 167 = .ok (.aload_n 0, 1) := dc_of qt_q176_cX4_move 20 rfl
theorem dX4_move_168 : decode cX4_move 168 = .ok (.iload_n 1, 1) := dc_of qt_q176_cX4_move 21 rfl
theorem dX4_move_169 : decode cX4_move 169 = .ok (.iload 5, 2) := dc_of qt_q176_cX4_move 22 rfl
theorem dX4_move_171 : decode cX4_move 171 = .ok (.invokevirtual 71, 3) := dc_of qt_q176_cX4_move 23 rfl
def ql_q177_cX4_move : List (Nat × Jvm.ClassFile.Instr × Nat) := [(174, .iadd, 1), (175, .istore 5, 2), (177, .goto (-114), 3), (180, .iconst 0, 1), (181, .istore 6, 2), (183, .iload 6, 2), (185, .iconst 4, 1), (186, .if_icmp .ge 53, 3), (189, .aload_n 0, 1), (190, .getfield 19, 3), (193, .iconst 4, 1), (194, .iload_n 1, 1), (195, .imul, 1), (196, .iload 6, 2), (198, .iadd, 1), (199, .iaload, 1), (200, .istore 7, 2), (202, .iload 7, 2), (204, .invokestatic 81, 3), (207, .ifCond .ne 26, 3), (210, .iload 7, 2), (212, .ifCond .eq 21, 3), (215, .aload_n 0, 1), (216, .getfield 19, 3)]
theorem qt_q177_cX4_move : dcAll cX4_move ql_q177_cX4_move = true := by decide +kernel
theorem dX4_move_174 : decode cX4_move 174 = .ok (.iadd, 1) := dc_of qt_q177_cX4_move 0 rfl
theorem dX4_move_175 : decode cX4_move 175 = .ok (.istore 5, 2) := dc_of qt_q177_cX4_move 1 rfl
theorem dX4_move_177 : decode cX4_move 177 = .ok (.goto (-114), 3) := dc_of qt_q177_cX4_move 2 rfl
theorem dX4_move_180 : decode cX4_move 180 = .ok (.iconst 0, 1) := dc_of qt_q177_cX4_move 3 rfl
theorem dX4_move_181 : decode cX4_move 181 = .ok (.istore 6, 2) := dc_of qt_q177_cX4_move 4 rfl
theorem dX4_move_183 : decode cX4_move 183 = .ok (.iload 6, 2) := dc_of qt_q177_cX4_move 5 rfl
theorem dX4_move_185 : decode cX4_move 185 = .ok (.iconst 4, 1) := dc_of qt_q177_cX4_move 6 rfl
theorem dX4_move_186 : decode cX4_move 186 = .ok (.if_icmp .ge 53, 3) := dc_of qt_q177_cX4_move 7 rfl
theorem dX4_move_189 : decode cX4_move 189 = .ok (.aload_n 0, 1) := dc_of qt_q177_cX4_move 8 rfl
theorem dX4_move_190 : decode cX4_move 190 = .ok (.getfield 19, 3) := dc_of qt_q177_cX4_move 9 rfl
theorem dX4_move_193 : decode cX4_move 193 = .ok (.iconst 4, 1) := dc_of qt_q177_cX4_move 10 rfl
theorem dX4_move_194 : decode cX4_move 194 = .ok (.iload_n 1, 1) := dc_of qt_q177_cX4_move 11 rfl
theorem dX4_move_195 : decode cX4_move 195 = .ok (.imul, 1) := dc_of qt_q177_cX4_move 12 rfl
theorem dX4_move_196 : decode cX4_move 196 = .ok (.iload 6, 2) := dc_of qt_q177_cX4_move 13 rfl
theorem dX4_move_198 : decode cX4_move 198 = .ok (.iadd, 1) := dc_of qt_q177_cX4_move 14 rfl
theorem dX4_move_199 : decode cX4_move 199 = .ok (.iaload, 1) := dc_of qt_q177_cX4_move 15 rfl
theorem dX4_move_200 : decode cX4_move 200 = .ok (.istore 7, 2) := dc_of qt_q177_cX4_move 16 rfl
theorem dX4_move_202 : decode cX4_move 202 = .ok (.iload 7, 2) := dc_of qt_q177_cX4_move 17 rfl
theorem dX4_move_204 : decode cX4_move 204 = .ok (.invokestatic 81, 3) := dc_of qt_q177_cX4_move 18 rfl
theorem dX4_move_207 : decode cX4_move 207 = .ok (.ifCond .ne 26, 3) := dc_of qt_q177_cX4_move 19 rfl
theorem dX4_move_210 : decode cX4_move 210 = .ok (.iload 7, 2) := dc_of qt_q177_cX4_move 20 rfl
theorem dX4_move_212 : decode cX4_move 212 = .ok (.ifCond .eq 21, 3) := dc_of qt_q177_cX4_move 21 rfl
theorem dX4_move_215 : decode cX4_move 215 = .ok (.aload_n 0, 1) := dc_of qt_q177_cX4_move 22 rfl
theorem dX4_move_216 : decode cX4_move 216 = .ok (.getfield 19, 3) := dc_of qt_q177_cX4_move 23 rfl
def ql_q178_cX4_move : List (Nat × Jvm.ClassFile.Instr × Nat) := [(219, .iconst 4, 1), (220, .iload_n 1, 1), (221, .imul, 1), (222, .iload 6, 2), (224, .iadd, 1), (225, .iload 7, 2), (227, .iload_n 3, 1), (228, .iadd, 1), (229, .iastore, 1), (230, .iinc 4 1, 3), (233, .iinc 6 1, 3), (236, .goto (-53), 3), (239, .aload_n 0, 1), (240, .getfield 7, 3), (243, .iload_n 1, 1), (244, .iload_n 2, 1), (245, .iastore, 1), (246, .iload_n 3, 1), (247, .ifCond .ne 7, 3), (250, .iconst 0, 1), (251, .goto 5, 3), (254, .iload 4, 2), (256, .ireturn, 1)]
theorem qt_q178_cX4_move : dcAll cX4_move ql_q178_cX4_move = true := by decide +kernel
theorem dX4_move_219 : decode cX4_move 219 = .ok (.iconst 4, 1) := dc_of qt_q178_cX4_move 0 rfl
theorem dX4_move_220 : decode cX4_move 220 = .ok (.iload_n 1, 1) := dc_of qt_q178_cX4_move 1 rfl
theorem dX4_move_221 : decode cX4_move 221 = .ok (.imul, 1) := dc_of qt_q178_cX4_move 2 rfl
theorem dX4_move_222 : decode cX4_move 222 = .ok (.iload 6, 2) := dc_of qt_q178_cX4_move 3 rfl
theorem dX4_move_224 : decode cX4_move 224 = .ok (.iadd, 1) := dc_of qt_q178_cX4_move 4 rfl
theorem dX4_move_225 : decode cX4_move 225 = .ok (.iload 7, 2) := dc_of qt_q178_cX4_move 5 rfl
theorem dX4_move_227 : decode cX4_move 227 = .ok (.iload_n 3, 1) := dc_of qt_q178_cX4_move 6 rfl
theorem dX4_move_228 : decode cX4_move 228 = .ok (.iadd, 1) := dc_of qt_q178_cX4_move 7 rfl
theorem dX4_move_229 : decode cX4_move 229 = .ok (.iastore, 1) := dc_of qt_q178_cX4_move 8 rfl
theorem dX4_move_230 : decode cX4_move 230 = .ok (.iinc 4 1, 3) := dc_of qt_q178_cX4_move 9 rfl
theorem dX4_move_233 : decode cX4_move 233 = .ok (.iinc 6 1, 3) := dc_of qt_q178_cX4_move 10 rfl
theorem dX4_move_236 : decode cX4_move 236 = .ok (.goto (-53), 3) := dc_of qt_q178_cX4_move 11 rfl
theorem dX4_move_239 : decode cX4_move 239 = .ok (.aload_n 0, 1) := dc_of qt_q178_cX4_move 12 rfl
theorem dX4_move_240 : decode cX4_move 240 = .ok (.getfield 7, 3) := dc_of qt_q178_cX4_move 13 rfl
theorem dX4_move_243 : decode cX4_move 243 = .ok (.iload_n 1, 1) := dc_of qt_q178_cX4_move 14 rfl
theorem dX4_move_244 : decode cX4_move 244 = .ok (.iload_n 2, 1) := dc_of qt_q178_cX4_move 15 rfl
theorem dX4_move_245 : decode cX4_move 245 = .ok (.iastore, 1) := dc_of qt_q178_cX4_move 16 rfl
theorem dX4_move_246 : decode cX4_move 246 = .ok (.iload_n 3, 1) := dc_of qt_q178_cX4_move 17 rfl
theorem dX4_move_247 : decode cX4_move 247 = .ok (.ifCond .ne 7, 3) := dc_of qt_q178_cX4_move 18 rfl
theorem dX4_move_250 : decode cX4_move 250 = .ok (.iconst 0, 1) := dc_of qt_q178_cX4_move 19 rfl
theorem dX4_move_251 : decode cX4_move 251 = .ok (.goto 5, 3) := dc_of qt_q178_cX4_move 20 rfl
theorem dX4_move_254 : decode cX4_move 254 = .ok (.iload 4, 2) := dc_of qt_q178_cX4_move 21 rfl
theorem dX4_move_256 : decode cX4_move 256 = .ok (.ireturn, 1) := dc_of qt_q178_cX4_move 22 rfl
set_option maxRecDepth 20000 in
theorem ggX4_come_X4_isNumber : GoodIn wsX4_come wsX4_isNumber := goodIn_r _ [8] rfl (by decide +kernel)
def ql_q179_cX4_come : List (Nat × Jvm.ClassFile.Instr × Nat) := [(0, .iload_n 2, 1), (1, .invokestatic 81, 3), (4, .ifCond .ne 7, 3), (7, .iload_n 2, 1), (8, .ifCond .ne 4, 3), (11, .return_, 1), (12, .iload_n 2, 1), (13, .aload_n 0, 1), (14, .getfield 7, 3), (17, .iload_n 1, 1), (18, .iaload, 1), (19, .isub, 1), (20, .iconst 4, 1), (21, .idiv, 1), (22, .istore_n 3, 1), (23, .aload_n 0, 1), (24, .getfield 25, 3), (27, .iload_n 3, 1), (28, .iaload, 1), (29, .ifCond .ge 33, 3), (32, .aload_n 0, 1), (33, .getfield 25, 3), (36, .iload_n 3, 1), (37, .aload_n 0, 1)]
theorem qt_q179_cX4_come : dcAll cX4_come ql_q179_cX4_come = true := by decide +kernel
theorem dX4_come_0 : decode cX4_come 0 = .ok (.iload_n 2, 1) := dc_of qt_q179_cX4_come 0 rfl
theorem dX4_come_1 : decode cX4_come 1 = .ok (.invokestatic 81, 3) := dc_of qt_q179_cX4_come 1 rfl
theorem dX4_come_4 : decode cX4_come 4 = .ok (.ifCond .ne 7, 3) := dc_of qt_q179_cX4_come 2 rfl
theorem dX4_come_7 : decode cX4_come 7 = .ok (.iload_n 2, 1) := dc_of qt_q179_cX4_come 3 rfl
theorem dX4_come_8 : decode cX4_come 8 = .ok (.ifCond .ne 4, 3) := dc_of qt_q179_cX4_come 4 rfl
theorem dX4_come_11 : decode cX4_come 11 = .ok (.return_, 1) := dc_of qt_q179_cX4_come 5 rfl
theorem dX4_come_12 : decode cX4_come 12 = .ok (.iload_n 2, 1) := dc_of qt_q179_cX4_come 6 rfl
theorem dX4_come_13 : decode cX4_come 13 = .ok (.aload_n 0, 1) := dc_of qt_q179_cX4_come 7 rfl
theorem dX4_come_14 : decode cX4_come 14 = .ok (.getfield 7, 3) := dc_of qt_q179_cX4_come 8 rfl
theorem dX4_come_17 : decode cX4_come 17 = .ok (.iload_n 1, 1) := dc_of qt_q179_cX4_come 9 rfl
theorem dX4_come_18 : decode cX4_come 18 = .ok (.iaload, 1) := dc_of qt_q179_cX4_come 10 rfl
theorem dX4_come_19 : decode cX4_come 19 = .ok (.isub, 1) := dc_of qt_q179_cX4_come 11 rfl
theorem dX4_come_20 : decode cX4_come 20 = .ok (.iconst 4, 1) := dc_of qt_q179_cX4_come 12 rfl
theorem dX4_come_21 : decode cX4_come 21 = .ok (.idiv, 1) := dc_of qt_q179_cX4_come 13 rfl
theorem dX4_come_22 : decode cX4_come 22 = .ok (.istore_n 3, 1) := dc_of qt_q179_cX4_come 14 rfl
theorem dX4_come_23 : decode cX4_come 23 = .ok (.aload_n 0, 1) := dc_of qt_q179_cX4_come 15 rfl
theorem dX4_come_24 : decode cX4_come 24 = .ok (.getfield 25, 3) := dc_of qt_q179_cX4_come 16 rfl
theorem dX4_come_27 : decode cX4_come 27 = .ok (.iload_n 3, 1) := dc_of qt_q179_cX4_come 17 rfl
theorem dX4_come_28 : decode cX4_come 28 = .ok (.iaload, 1) := dc_of qt_q179_cX4_come 18 rfl
theorem dX4_come_29 : decode cX4_come 29 = .ok (.ifCond .ge 33, 3) := dc_of qt_q179_cX4_come 19 rfl
theorem dX4_come_32 : decode cX4_come 32 = .ok (.aload_n 0, 1) := dc_of qt_q179_cX4_come 20 rfl
theorem dX4_come_33 : decode cX4_come 33 = .ok (.getfield 25, 3) := dc_of qt_q179_cX4_come 21 rfl
theorem dX4_come_36 : decode cX4_come 36 = .ok (.iload_n 3, 1) := dc_of qt_q179_cX4_come 22 rfl
theorem dX4_come_37 : decode cX4_come 37 = .ok (.aload_n 0, 1) := dc_of qt_q179_cX4_come 23 rfl
def ql_q180_cX4_come : List (Nat × Jvm.ClassFile.Instr × Nat) := [(38, .getfield 101, 3), (41, .iastore, 1), (42, .aload_n 0, 1), (43, .getfield 22, 3), (46, .aload_n 0, 1), (47, .getfield 101, 3), (50, .iload_n 3, 1), (51, .iastore, 1), (52, .aload_n 0, 1), (53, .dup, 1), (54, .getfield 101, 3), (57, .iconst 1, 1), (58, .iadd, 1), (59, .putfield 101, 3), (62, .return_, 1)]
theorem qt_q180_cX4_come : dcAll cX4_come ql_q180_cX4_come = true := by decide +kernel
theorem dX4_come_38 : decode cX4_come 38 = .ok (.getfield 101, 3) := dc_of qt_q180_cX4_come 0 rfl
theorem dX4_come_41 : decode cX4_come 41 = .ok (.iastore, 1) := dc_of qt_q180_cX4_come 1 rfl
theorem dX4_come_42 : decode cX4_come 42 = .ok (.aload_n 0, 1) := dc_of qt_q180_cX4_come 2 rfl
theorem dX4_come_43 : decode cX4_come 43 = .ok (.getfield 22, 3) := dc_of qt_q180_cX4_come 3 rfl
theorem dX4_come_46 : decode cX4_come 46 = .ok (.aload_n 0, 1) := dc_of qt_q180_cX4_come 4 rfl
theorem dX4_come_47 : decode cX4_come 47 = .ok (.getfield 101, 3) := dc_of qt_q180_cX4_come 5 rfl
theorem dX4_come_50 : decode cX4_come 50 = .ok (.iload_n 3, 1) := dc_of qt_q180_cX4_come 6 rfl
theorem dX4_come_51 : decode cX4_come 51 = .ok (.iastore, 1) := dc_of qt_q180_cX4_come 7 rfl
theorem dX4_come_52 : decode cX4_come 52 = .ok (.aload_n 0, 1) := dc_of qt_q180_cX4_come 8 rfl
theorem dX4_come_53 : decode cX4_come 53 = .ok (.dup, 1) := dc_of qt_q180_cX4_come 9 rfl
theorem dX4_come_54 : decode cX4_come 54 = .ok (.getfield 101, 3) := dc_of qt_q180_cX4_come 10 rfl
theorem dX4_come_57 : decode cX4_come 57 = .ok (.iconst 1, 1) := dc_of qt_q180_cX4_come 11 rfl
theorem dX4_come_58 : decode cX4_come 58 = .ok (.iadd, 1) := dc_of qt_q180_cX4_come 12 rfl
theorem dX4_come_59 : decode cX4_come 59 = .ok (.putfield 101, 3) := dc_of qt_q180_cX4_come 13 rfl
theorem dX4_come_62 : decode cX4_come 62 = .ok (.return_, 1) := dc_of qt_q180_cX4_come 14 rfl
set_option maxRecDepth 20000 in
theorem ggX4_reach_X4_come : GoodIn wsX4_reach wsX4_come := goodIn_r _ [10, 11, 1, 2, 4, 12, 13, 9, 14, 23, 24, 25, 26, 27, 28, 29, 30, 31, 32, 33, 34, 35, 36, 37, 38, 39, 40, 41, 42, 43, 44, 45] rfl (by decide +kernel)
set_option maxRecDepth 20000 in
theorem ggX4_reach_X4_slotsAt : GoodIn wsX4_reach wsX4_slotsAt := goodIn_r _ [18, 5, 23, 24, 25, 26, 27, 28, 29, 30, 31, 32, 33, 34, 35, 36, 37, 38, 39, 40, 41, 42, 43, 44, 45] rfl (by decide +kernel)
set_option maxRecDepth 20000 in
theorem ggX4_reach_X4_kindAt : GoodIn wsX4_reach wsX4_kindAt := goodIn_r _ [22, 5, 23, 24, 25, 26, 27, 28, 29, 30, 31, 32, 33, 34, 35, 36, 37, 38, 39, 40, 41, 42, 43, 44, 45] rfl (by decide +kernel)
def ql_q181_cX4_reach : List (Nat × Jvm.ClassFile.Instr × Nat) := [(0, .iconst 0, 1), (1, .istore_n 2, 1), (2, .iload_n 2, 1), (3, .sipush 256, 3), (6, .if_icmp .ge 16, 3), (9, .aload_n 0, 1), (10, .getfield 25, 3), (13, .iload_n 2, 1), (14, .iconst (-1), 1), (15, .iastore, 1), (16, .iinc 2 1, 3), (19, .goto (-17), 3), (22, .aload_n 0, 1), (23, .iconst 0, 1), (24, .putfield 101, 3), (27, .iconst 0, 1), (28, .istore_n 2, 1), (29, .iload_n 2, 1), (30, .iconst 4, 1), (31, .if_icmp .ge 24, 3), (34, .aload_n 0, 1), (35, .iload_n 1, 1), (36, .aload_n 0, 1), (37, .getfield 19, 3)]
theorem qt_q181_cX4_reach : dcAll cX4_reach ql_q181_cX4_reach = true := by decide +kernel
theorem dX4_reach_0 : decode cX4_reach 0 = .ok (.iconst 0, 1) := dc_of qt_q181_cX4_reach 0 rfl
theorem dX4_reach_1 : decode cX4_reach 1 = .ok (.istore_n 2, 1) := dc_of qt_q181_cX4_reach 1 rfl
theorem dX4_reach_2 : decode cX4_reach 2 = .ok (.iload_n 2, 1) := dc_of qt_q181_cX4_reach 2 rfl
theorem dX4_reach_3 : decode cX4_reach 3 = .ok (.sipush 256, 3) := dc_of qt_q181_cX4_reach 3 rfl
theorem dX4_reach_6 : decode cX4_reach 6 = .ok (.if_icmp .ge 16, 3) := dc_of qt_q181_cX4_reach 4 rfl
theorem dX4_reach_9 : decode cX4_reach 9 = .ok (.aload_n 0, 1) := dc_of qt_q181_cX4_reach 5 rfl
theorem dX4_reach_10 : decode cX4_reach 10 = .ok (.getfield 25, 3) := dc_of qt_q181_cX4_reach 6 rfl
theorem dX4_reach_13 : decode cX4_reach 13 = .ok (.iload_n 2, 1) := dc_of qt_q181_cX4_reach 7 rfl
theorem dX4_reach_14 : decode cX4_reach 14 = .ok (.iconst (-1), 1) := dc_of qt_q181_cX4_reach 8 rfl
theorem dX4_reach_15 : decode cX4_reach 15 = .ok (.iastore, 1) := dc_of qt_q181_cX4_reach 9 rfl
theorem dX4_reach_16 : decode cX4_reach 16 = .ok (.iinc 2 1, 3) := dc_of qt_q181_cX4_reach 10 rfl
theorem dX4_reach_19 : decode cX4_reach 19 = .ok (.goto (-17), 3) := dc_of qt_q181_cX4_reach 11 rfl
theorem dX4_reach_22 : decode cX4_reach 22 = .ok (.aload_n 0, 1) := dc_of qt_q181_cX4_reach 12 rfl
theorem dX4_reach_23 : decode cX4_reach 23 = .ok (.iconst 0, 1) := dc_of qt_q181_cX4_reach 13 rfl
theorem dX4_reach_24 : decode cX4_reach 24 = .ok (.putfield 101, 3) := dc_of qt_q181_cX4_reach 14 rfl
theorem dX4_reach_27 : decode cX4_reach 27 = .ok (.iconst 0, 1) := dc_of qt_q181_cX4_reach 15 rfl
theorem dX4_reach_28 : decode cX4_reach 28 = .ok (.istore_n 2, 1) := dc_of qt_q181_cX4_reach 16 rfl
theorem dX4_reach_29 : decode cX4_reach 29 = .ok (.iload_n 2, 1) := dc_of qt_q181_cX4_reach 17 rfl
theorem dX4_reach_30 : decode cX4_reach 30 = .ok (.iconst 4, 1) := dc_of qt_q181_cX4_reach 18 rfl
theorem dX4_reach_31 : decode cX4_reach 31 = .ok (.if_icmp .ge 24, 3) := dc_of qt_q181_cX4_reach 19 rfl
theorem dX4_reach_34 : decode cX4_reach 34 = .ok (.aload_n 0, 1) := dc_of qt_q181_cX4_reach 20 rfl
theorem dX4_reach_35 : decode cX4_reach 35 = .ok (.iload_n 1, 1) := dc_of qt_q181_cX4_reach 21 rfl
theorem dX4_reach_36 : decode cX4_reach 36 = .ok (.aload_n 0, 1) := dc_of qt_q181_cX4_reach 22 rfl
theorem dX4_reach_37 : decode cX4_reach 37 = .ok (.getfield 19, 3) := dc_of qt_q181_cX4_reach 23 rfl
def ql_q182_cX4_reach : List (Nat × Jvm.ClassFile.Instr × Nat) := [(40, .iconst 4, 1), (41, .iload_n 1, 1), (42, .imul, 1), (43, .iload_n 2, 1), (44, .iadd, 1), (45, .iaload, 1), (46, .invokevirtual 104, 3), (49, .iinc 2 1, 3), (52, .goto (-23), 3), (55, .iconst 0, 1), (56, .istore_n 2, 1), (57, .iload_n 2, 1), (58, .aload_n 0, 1), (59, .getfield 101, 3), (62, .if_icmp .ge 68, 3), (65, .aload_n 0, 1), (66, .getfield 22, 3), (69, .iload_n 2, 1), (70, .iaload, 1), (71, .istore_n 3, 1), (72, .iconst 0, 1), (73, .istore 4, 2), (75, .iload 4, 2), (77, .aload_n 0, 1)]
theorem qt_q182_cX4_reach : dcAll cX4_reach ql_q182_cX4_reach = true := by decide +kernel
theorem dX4_reach_40 : decode cX4_reach 40 = .ok (.iconst 4, 1) := dc_of qt_q182_cX4_reach 0 rfl
theorem dX4_reach_41 : decode cX4_reach 41 = .ok (.iload_n 1, 1) := dc_of qt_q182_cX4_reach 1 rfl
theorem dX4_reach_42 : decode cX4_reach 42 = .ok (.imul, 1) := dc_of qt_q182_cX4_reach 2 rfl
theorem dX4_reach_43 : decode cX4_reach 43 = .ok (.iload_n 2, 1) := dc_of qt_q182_cX4_reach 3 rfl
theorem dX4_reach_44 : decode cX4_reach 44 = .ok (.iadd, 1) := dc_of qt_q182_cX4_reach 4 rfl
theorem dX4_reach_45 : decode cX4_reach 45 = .ok (.iaload, 1) := dc_of qt_q182_cX4_reach 5 rfl
theorem dX4_reach_46 : decode cX4_reach 46 = .ok (.invokevirtual 104, 3) := dc_of qt_q182_cX4_reach 6 rfl
theorem dX4_reach_49 : decode cX4_reach 49 = .ok (.iinc 2 1, 3) := dc_of qt_q182_cX4_reach 7 rfl
theorem dX4_reach_52 : decode cX4_reach 52 = .ok (.goto (-23), 3) := dc_of qt_q182_cX4_reach 8 rfl
theorem dX4_reach_55 : decode cX4_reach 55 = .ok (.iconst 0, 1) := dc_of qt_q182_cX4_reach 9 rfl
theorem dX4_reach_56 : decode cX4_reach 56 = .ok (.istore_n 2, 1) := dc_of qt_q182_cX4_reach 10 rfl
theorem dX4_reach_57 : decode cX4_reach 57 = .ok (.iload_n 2, 1) := dc_of qt_q182_cX4_reach 11 rfl
theorem dX4_reach_58 : decode cX4_reach 58 = .ok (.aload_n 0, 1) := dc_of qt_q182_cX4_reach 12 rfl
theorem dX4_reach_59 : decode cX4_reach 59 = .ok (.getfield 101, 3) := dc_of qt_q182_cX4_reach 13 rfl
theorem dX4_reach_62 : decode cX4_reach 62 = .ok (.if_icmp .ge 68, 3) := dc_of qt_q182_cX4_reach 14 rfl
theorem dX4_reach_65 : decode cX4_reach 65 = .ok (.aload_n 0, 1) := dc_of qt_q182_cX4_reach 15 rfl
theorem dX4_reach_66 : decode cX4_reach 66 = .ok (.getfield 22, 3) := dc_of qt_q182_cX4_reach 16 rfl
theorem dX4_reach_69 : decode cX4_reach 69 = .ok (.iload_n 2, 1) := dc_of qt_q182_cX4_reach 17 rfl
theorem dX4_reach_70 : decode cX4_reach 70 = .ok (.iaload, 1) := dc_of qt_q182_cX4_reach 18 rfl
theorem dX4_reach_71 : decode cX4_reach 71 = .ok (.istore_n 3, 1) := dc_of qt_q182_cX4_reach 19 rfl
theorem dX4_reach_72 : decode cX4_reach 72 = .ok (.iconst 0, 1) := dc_of qt_q182_cX4_reach 20 rfl
theorem dX4_reach_73 : decode cX4_reach 73 = .ok (.istore 4, 2) := dc_of qt_q182_cX4_reach 21 rfl
theorem dX4_reach_75 : decode cX4_reach 75 = .ok (.iload 4, 2) := dc_of qt_q182_cX4_reach 22 rfl
theorem dX4_reach_77 : decode cX4_reach 77 = .ok (.aload_n 0, 1) := dc_of qt_q182_cX4_reach 23 rfl
def ql_q183_cX4_reach : List (Nat × Jvm.ClassFile.Instr × Nat) := [(78, .iload_n 1, 1), (79, .iload_n 3, 1), (80, .invokevirtual 71, 3), (83, .if_icmp .ge 41, 3), (86, .aload_n 0, 1), (87, .iload_n 1, 1), (88, .iload_n 3, 1), (89, .invokevirtual 87, 3), (92, .iconst 2, 1), (93, .if_icmp .eq 31, 3), (96, .aload_n 0, 1), (97, .iload_n 1, 1), (98, .aload_n 0, 1), (99, .getfield 16, 3), (102, .sipush 256, 3), (105, .iload_n 1, 1), (106, .imul, 1), (107, .iload_n 3, 1), (108, .iadd, 1), (109, .iconst 1, 1), (110, .iadd, 1), (111, .iload 4, 2), (113, .iadd, 1), (114, .iaload, 1)]
theorem qt_q183_cX4_reach : dcAll cX4_reach ql_q183_cX4_reach = true := by decide +kernel
theorem dX4_reach_78 : decode cX4_reach 78 = .ok (.iload_n 1, 1) := dc_of qt_q183_cX4_reach 0 rfl
theorem dX4_reach_79 : decode cX4_reach 79 = .ok (.iload_n 3, 1) := dc_of qt_q183_cX4_reach 1 rfl
theorem dX4_reach_80 : decode cX4_reach 80 = .ok (.invokevirtual 71, 3) := dc_of qt_q183_cX4_reach 2 rfl
theorem dX4_reach_83 : decode cX4_reach 83 = .ok (.if_icmp .ge 41, 3) := dc_of qt_q183_cX4_reach 3 rfl
theorem dX4_reach_86 : decode cX4_reach 86 = .ok (.aload_n 0, 1) := dc_of qt_q183_cX4_reach 4 rfl
theorem dX4_reach_87 : decode cX4_reach 87 = .ok (.iload_n 1, 1) := dc_of qt_q183_cX4_reach 5 rfl
theorem dX4_reach_88 : decode cX4_reach 88 = .ok (.iload_n 3, 1) := dc_of qt_q183_cX4_reach 6 rfl
theorem dX4_reach_89 : decode cX4_reach 89 = .ok (.invokevirtual 87, 3) := dc_of qt_q183_cX4_reach 7 rfl
theorem dX4_reach_92 : decode cX4_reach 92 = .ok (.iconst 2, 1) := dc_of qt_q183_cX4_reach 8 rfl
theorem dX4_reach_93 : decode cX4_reach 93 = .ok (.if_icmp .eq 31, 3) := dc_of qt_q183_cX4_reach 9 rfl
theorem dX4_reach_96 : decode cX4_reach 96 = .ok (.aload_n 0, 1) := dc_of qt_q183_cX4_reach 10 rfl
theorem dX4_reach_97 : decode cX4_reach 97 = .ok (.iload_n 1, 1) := dc_of qt_q183_cX4_reach 11 rfl
theorem dX4_reach_98 : decode cX4_reach 98 = .ok (.aload_n 0, 1) := dc_of qt_q183_cX4_reach 12 rfl
theorem dX4_reach_99 : decode cX4_reach 99 = .ok (.getfield 16, 3) := dc_of qt_q183_cX4_reach 13 rfl
theorem dX4_reach_102 : decode cX4_reach 102 = .ok (.sipush 256, 3) := dc_of qt_q183_cX4_reach 14 rfl
theorem dX4_reach_105 : decode cX4_reach 105 = .ok (.iload_n 1, 1) := dc_of qt_q183_cX4_reach 15 rfl
theorem dX4_reach_106 : decode cX4_reach 106 = .ok (.imul, 1) := dc_of qt_q183_cX4_reach 16 rfl
theorem dX4_reach_107 : decode cX4_reach 107 = .ok (.iload_n 3, 1) := dc_of qt_q183_cX4_reach 17 rfl
theorem dX4_reach_108 : decode cX4_reach 108 = .ok (.iadd, 1) := dc_of qt_q183_cX4_reach 18 rfl
theorem dX4_reach_109 : decode cX4_reach 109 = .ok (.iconst 1, 1) := dc_of qt_q183_cX4_reach 19 rfl
theorem dX4_reach_110 : decode cX4_reach 110 = .ok (.iadd, 1) := dc_of qt_q183_cX4_reach 20 rfl
theorem dX4_reach_111 : decode cX4_reach 111 = .ok (.iload 4, 2) := dc_of qt_q183_cX4_reach 21 rfl
theorem dX4_reach_113 : decode cX4_reach 113 = .ok (.iadd, 1) := dc_of qt_q183_cX4_reach 22 rfl
theorem dX4_reach_114 : decode cX4_reach 114 = .ok (.iaload, 1) := dc_of qt_q183_cX4_reach 23 rfl
def ql_q184_cX4_reach : List (Nat × Jvm.ClassFile.Instr × Nat) := [(115, .invokevirtual 104, 3), (118, .iinc 4 1, 3), (121, .goto (-46), 3), (124, .iinc 2 1, 3), (127, .goto (-70), 3), (130, .return_, 1)]
theorem qt_q184_cX4_reach : dcAll cX4_reach ql_q184_cX4_reach = true := by decide +kernel
theorem dX4_reach_115 : decode cX4_reach 115 = .ok (.invokevirtual 104, 3) := dc_of qt_q184_cX4_reach 0 rfl
theorem dX4_reach_118 : decode cX4_reach 118 = .ok (.iinc 4 1, 3) := dc_of qt_q184_cX4_reach 1 rfl
theorem dX4_reach_121 : decode cX4_reach 121 = .ok (.goto (-46), 3) := dc_of qt_q184_cX4_reach 2 rfl
theorem dX4_reach_124 : decode cX4_reach 124 = .ok (.iinc 2 1, 3) := dc_of qt_q184_cX4_reach 3 rfl
theorem dX4_reach_127 : decode cX4_reach 127 = .ok (.goto (-70), 3) := dc_of qt_q184_cX4_reach 4 rfl
theorem dX4_reach_130 : decode cX4_reach 130 = .ok (.return_, 1) := dc_of qt_q184_cX4_reach 5 rfl
set_option maxRecDepth 20000 in
theorem ggX4_sweep_X4_isHeap : GoodIn wsX4_sweep wsX4_isHeap := goodIn_r _ [11] rfl (by decide +kernel)
set_option maxRecDepth 20000 in
theorem ggX4_sweep_X4_firstFault : GoodIn wsX4_sweep wsX4_firstFault := goodIn_r _ [15, 2, 5, 7, 16, 17, 10, 18, 19, 20, 21, 22, 23, 24, 25, 26, 27, 28, 29, 30, 31, 32, 33, 34, 35, 36, 37, 38, 39, 40, 41, 42, 43, 44, 45, 46, 47, 48, 49, 64, 65, 66, 67, 68, 69, 70, 71, 72, 73, 74, 75, 76, 77, 78, 79, 80, 81, 82, 83, 84, 85, 86] rfl (by decide +kernel)
set_option maxRecDepth 20000 in
theorem ggX4_sweep_X4_reach : GoodIn wsX4_sweep wsX4_reach := goodIn_r _ [53, 4, 54, 7, 55, 5, 56, 57, 58, 10, 59, 49, 38, 39, 40, 26, 27, 28, 29, 30, 31, 32, 33, 64, 65, 66, 67, 68, 69, 70, 71, 72, 73, 74, 75, 76, 77, 78, 79, 80, 81, 82, 83, 84, 85, 86] rfl (by decide +kernel)
set_option maxRecDepth 20000 in
theorem ggX4_sweep_X4_slotsAt : GoodIn wsX4_sweep wsX4_slotsAt := goodIn_r _ [29, 5, 64, 65, 66, 67, 68, 69, 70, 71, 72, 73, 74, 75, 76, 77, 78, 79, 80, 81, 82, 83, 84, 85, 86] rfl (by decide +kernel)
set_option maxRecDepth 20000 in
theorem ggX4_sweep_X4_kindAt : GoodIn wsX4_sweep wsX4_kindAt := goodIn_r _ [33, 5, 64, 65, 66, 67, 68, 69, 70, 71, 72, 73, 74, 75, 76, 77, 78, 79, 80, 81, 82, 83, 84, 85, 86] rfl (by decide +kernel)
set_option maxRecDepth 20000 in
theorem ggX4_sweep_X4_moved : GoodIn wsX4_sweep wsX4_moved := goodIn_r _ [63, 49, 3, 38, 39, 10, 40, 64, 65, 66, 67, 68, 69, 70, 71, 72, 73, 74, 75, 76, 77, 78, 79, 80, 81, 82, 83, 84, 85, 86] rfl (by decide +kernel)
def ql_q185_cX4_sweep : List (Nat × Jvm.ClassFile.Instr × Nat) := [(0, .aload_n 0, 1), (1, .iload_n 1, 1), (2, .invokestatic 65, 3), (5, .ifCond .ne 7, 3), (8, .iconst 1, 1), (9, .goto 16, 3), (12, .aload_n 0, 1), (13, .iload_n 1, 1), (14, .invokevirtual 93, 3), (17, .ifCond .le 7, 3), (20, .iconst 2, 1), (21, .goto 4, 3), (24, .iconst 0, 1), (25, .putfield 49, 3), (28, .aload_n 0, 1), (29, .getfield 49, 3), (32, .ifCond .le 5, 3), (35, .iconst 0, 1), (36, .ireturn, 1), (37, .aload_n 0, 1), (38, .iload_n 1, 1), (39, .invokevirtual 108, 3), (42, .iconst 0, 1), (43, .istore_n 2, 1)]
theorem qt_q185_cX4_sweep : dcAll cX4_sweep ql_q185_cX4_sweep = true := by decide +kernel
theorem dX4_sweep_0 : decode cX4_sweep 0 = .ok (.aload_n 0, 1) := dc_of qt_q185_cX4_sweep 0 rfl
theorem dX4_sweep_1 : decode cX4_sweep 1 = .ok (.iload_n 1, 1) := dc_of qt_q185_cX4_sweep 1 rfl
theorem dX4_sweep_2 : decode cX4_sweep 2 = .ok (.invokestatic 65, 3) := dc_of qt_q185_cX4_sweep 2 rfl
theorem dX4_sweep_5 : decode cX4_sweep 5 = .ok (.ifCond .ne 7, 3) := dc_of qt_q185_cX4_sweep 3 rfl
theorem dX4_sweep_8 : decode cX4_sweep 8 = .ok (.iconst 1, 1) := dc_of qt_q185_cX4_sweep 4 rfl
theorem dX4_sweep_9 : decode cX4_sweep 9 = .ok (.goto 16, 3) := dc_of qt_q185_cX4_sweep 5 rfl
theorem dX4_sweep_12 : decode cX4_sweep 12 = .ok (.aload_n 0, 1) := dc_of qt_q185_cX4_sweep 6 rfl
theorem dX4_sweep_13 : decode cX4_sweep 13 = .ok (.iload_n 1, 1) := dc_of qt_q185_cX4_sweep 7 rfl
theorem dX4_sweep_14 : decode cX4_sweep 14 = .ok (.invokevirtual 93, 3) := dc_of qt_q185_cX4_sweep 8 rfl
theorem dX4_sweep_17 : decode cX4_sweep 17 = .ok (.ifCond .le 7, 3) := dc_of qt_q185_cX4_sweep 9 rfl
theorem dX4_sweep_20 : decode cX4_sweep 20 = .ok (.iconst 2, 1) := dc_of qt_q185_cX4_sweep 10 rfl
theorem dX4_sweep_21 : decode cX4_sweep 21 = .ok (.goto 4, 3) := dc_of qt_q185_cX4_sweep 11 rfl
theorem dX4_sweep_24 : decode cX4_sweep 24 = .ok (.iconst 0, 1) := dc_of qt_q185_cX4_sweep 12 rfl
theorem dX4_sweep_25 : decode cX4_sweep 25 = .ok (.putfield 49, 3) := dc_of qt_q185_cX4_sweep 13 rfl
theorem dX4_sweep_28 : decode cX4_sweep 28 = .ok (.aload_n 0, 1) := dc_of qt_q185_cX4_sweep 14 rfl
theorem dX4_sweep_29 : decode cX4_sweep 29 = .ok (.getfield 49, 3) := dc_of qt_q185_cX4_sweep 15 rfl
theorem dX4_sweep_32 : decode cX4_sweep 32 = .ok (.ifCond .le 5, 3) := dc_of qt_q185_cX4_sweep 16 rfl
theorem dX4_sweep_35 : decode cX4_sweep 35 = .ok (.iconst 0, 1) := dc_of qt_q185_cX4_sweep 17 rfl
theorem dX4_sweep_36 : decode cX4_sweep 36 = .ok (.ireturn, 1) := dc_of qt_q185_cX4_sweep 18 rfl
theorem dX4_sweep_37 : decode cX4_sweep 37 = .ok (.aload_n 0, 1) := dc_of qt_q185_cX4_sweep 19 rfl
theorem dX4_sweep_38 : decode cX4_sweep 38 = .ok (.iload_n 1, 1) := dc_of qt_q185_cX4_sweep 20 rfl
theorem dX4_sweep_39 : decode cX4_sweep 39 = .ok (.invokevirtual 108, 3) := dc_of qt_q185_cX4_sweep 21 rfl
theorem dX4_sweep_42 : decode cX4_sweep 42 = .ok (.iconst 0, 1) := dc_of qt_q185_cX4_sweep 22 rfl
theorem dX4_sweep_43 : decode cX4_sweep 43 = .ok (.istore_n 2, 1) := dc_of qt_q185_cX4_sweep 23 rfl
def ql_q186_cX4_sweep : List (Nat × Jvm.ClassFile.Instr × Nat) := [(44, .iconst 0, 1), (45, .istore_n 3, 1), (46, .aload_n 0, 1), (47, .getfield 13, 3), (50, .iload_n 1, 1), (51, .iaload, 1), (52, .istore 4, 2), (54, .iload_n 3, 1), (55, .iload 4, 2), (57, .if_icmp .ge 48, 3), (60, .aload_n 0, 1), (61, .getfield 43, 3), (64, .iload_n 3, 1), (65, .iload_n 2, 1), (66, .iastore, 1), (67, .aload_n 0, 1), (68, .getfield 25, 3), (71, .iload_n 3, 1), (72, .iaload, 1), (73, .ifCond .ge 7, 3), (76, .iload_n 2, 1), (77, .goto 13, 3), (80, .iload_n 2, 1), (81, .iconst 1, 1)]
theorem qt_q186_cX4_sweep : dcAll cX4_sweep ql_q186_cX4_sweep = true := by decide +kernel
theorem dX4_sweep_44 : decode cX4_sweep 44 = .ok (.iconst 0, 1) := dc_of qt_q186_cX4_sweep 0 rfl
theorem dX4_sweep_45 : decode cX4_sweep 45 = .ok (.istore_n 3, 1) := dc_of qt_q186_cX4_sweep 1 rfl
theorem dX4_sweep_46 : decode cX4_sweep 46 = .ok (.aload_n 0, 1) := dc_of qt_q186_cX4_sweep 2 rfl
theorem dX4_sweep_47 : decode cX4_sweep 47 = .ok (.getfield 13, 3) := dc_of qt_q186_cX4_sweep 3 rfl
theorem dX4_sweep_50 : decode cX4_sweep 50 = .ok (.iload_n 1, 1) := dc_of qt_q186_cX4_sweep 4 rfl
theorem dX4_sweep_51 : decode cX4_sweep 51 = .ok (.iaload, 1) := dc_of qt_q186_cX4_sweep 5 rfl
theorem dX4_sweep_52 : decode cX4_sweep 52 = .ok (.istore 4, 2) := dc_of qt_q186_cX4_sweep 6 rfl
theorem dX4_sweep_54 : decode cX4_sweep 54 = .ok (.iload_n 3, 1) := dc_of qt_q186_cX4_sweep 7 rfl
theorem dX4_sweep_55 : decode cX4_sweep 55 = .ok (.iload 4, 2) := dc_of qt_q186_cX4_sweep 8 rfl
theorem dX4_sweep_57 : decode cX4_sweep 57 = .ok (.if_icmp .ge 48, 3) := dc_of qt_q186_cX4_sweep 9 rfl
theorem dX4_sweep_60 : decode cX4_sweep 60 = .ok (.aload_n 0, 1) := dc_of qt_q186_cX4_sweep 10 rfl
theorem dX4_sweep_61 : decode cX4_sweep 61 = .ok (.getfield 43, 3) := dc_of qt_q186_cX4_sweep 11 rfl
theorem dX4_sweep_64 : decode cX4_sweep 64 = .ok (.iload_n 3, 1) := dc_of qt_q186_cX4_sweep 12 rfl
theorem dX4_sweep_65 : decode cX4_sweep 65 = .ok (.iload_n 2, 1) := dc_of qt_q186_cX4_sweep 13 rfl
theorem dX4_sweep_66 : decode cX4_sweep 66 = .ok (.iastore, 1) := dc_of qt_q186_cX4_sweep 14 rfl
theorem dX4_sweep_67 : decode cX4_sweep 67 = .ok (.aload_n 0, 1) := dc_of qt_q186_cX4_sweep 15 rfl
theorem dX4_sweep_68 : decode cX4_sweep 68 = .ok (.getfield 25, 3) := dc_of qt_q186_cX4_sweep 16 rfl
theorem dX4_sweep_71 : decode cX4_sweep 71 = .ok (.iload_n 3, 1) := dc_of qt_q186_cX4_sweep 17 rfl
theorem dX4_sweep_72 : decode cX4_sweep 72 = .ok (.iaload, 1) := dc_of qt_q186_cX4_sweep 18 rfl
theorem dX4_sweep_73 : decode cX4_sweep 73 = .ok (.ifCond .ge 7, 3) := dc_of qt_q186_cX4_sweep 19 rfl
theorem dX4_sweep_76 : decode cX4_sweep 76 = .ok (.iload_n 2, 1) := dc_of qt_q186_cX4_sweep 20 rfl
theorem dX4_sweep_77 : decode cX4_sweep 77 = .ok (.goto 13, 3) := dc_of qt_q186_cX4_sweep 21 rfl
theorem dX4_sweep_80 : decode cX4_sweep 80 = .ok (.iload_n 2, 1) := dc_of qt_q186_cX4_sweep 22 rfl
theorem dX4_sweep_81 : decode cX4_sweep 81 = .ok (.iconst 1, 1) := dc_of qt_q186_cX4_sweep 23 rfl
def ql_q187_cX4_sweep : List (Nat × Jvm.ClassFile.Instr × Nat) := [(82, .iadd, 1), (83, .aload_n 0, 1), (84, .iload_n 1, 1), (85, .iload_n 3, 1), (86, .invokevirtual 71, 3), (89, .iadd, 1), (90, .istore_n 2, 1), (91, .iload_n 3, 1), (92, .iconst 1, 1), (93, .iadd, 1), (94, .aload_n 0, 1), (95, .iload_n 1, 1), (96, .iload_n 3, 1), (97, .invokevirtual 71, 3), (100, .iadd, 1), (101, .istore_n 3, 1), (102, .goto (-48), 3), (105, .iconst 0, 1), (106, .istore_n 3, 1), (107, .iconst 0, 1), (108, .istore_n 2, 1), (109, .iload_n 3, 1), (110, .iload 4, 2), (112, .if_icmp .ge 103, 3)]
theorem qt_q187_cX4_sweep : dcAll cX4_sweep ql_q187_cX4_sweep = true := by decide +kernel
theorem dX4_sweep_82 : decode cX4_sweep 82 = .ok (.iadd, 1) := dc_of qt_q187_cX4_sweep 0 rfl
theorem dX4_sweep_83 : decode cX4_sweep 83 = .ok (.aload_n 0, 1) := dc_of qt_q187_cX4_sweep 1 rfl
theorem dX4_sweep_84 : decode cX4_sweep 84 = .ok (.iload_n 1, 1) := dc_of qt_q187_cX4_sweep 2 rfl
theorem dX4_sweep_85 : decode cX4_sweep 85 = .ok (.iload_n 3, 1) := dc_of qt_q187_cX4_sweep 3 rfl
theorem dX4_sweep_86 : decode cX4_sweep 86 = .ok (.invokevirtual 71, 3) := dc_of qt_q187_cX4_sweep 4 rfl
theorem dX4_sweep_89 : decode cX4_sweep 89 = .ok (.iadd, 1) := dc_of qt_q187_cX4_sweep 5 rfl
theorem dX4_sweep_90 : decode cX4_sweep 90 = .ok (.istore_n 2, 1) := dc_of qt_q187_cX4_sweep 6 rfl
theorem dX4_sweep_91 : decode cX4_sweep 91 = .ok (.iload_n 3, 1) := dc_of qt_q187_cX4_sweep 7 rfl
theorem dX4_sweep_92 : decode cX4_sweep 92 = .ok (.iconst 1, 1) := dc_of qt_q187_cX4_sweep 8 rfl
theorem dX4_sweep_93 : decode cX4_sweep 93 = .ok (.iadd, 1) := dc_of qt_q187_cX4_sweep 9 rfl
theorem dX4_sweep_94 : decode cX4_sweep 94 = .ok (.aload_n 0, 1) := dc_of qt_q187_cX4_sweep 10 rfl
theorem dX4_sweep_95 : decode cX4_sweep 95 = .ok (.iload_n 1, 1) := dc_of qt_q187_cX4_sweep 11 rfl
theorem dX4_sweep_96 : decode cX4_sweep 96 = .ok (.iload_n 3, 1) := dc_of qt_q187_cX4_sweep 12 rfl
theorem dX4_sweep_97 : decode cX4_sweep 97 = .ok (.invokevirtual 71, 3) := dc_of qt_q187_cX4_sweep 13 rfl
theorem dX4_sweep_100 : decode cX4_sweep 100 = .ok (.iadd, 1) := dc_of qt_q187_cX4_sweep 14 rfl
theorem dX4_sweep_101 : decode cX4_sweep 101 = .ok (.istore_n 3, 1) := dc_of qt_q187_cX4_sweep 15 rfl
theorem dX4_sweep_102 : decode cX4_sweep 102 = .ok (.goto (-48), 3) := dc_of qt_q187_cX4_sweep 16 rfl
theorem dX4_sweep_105 : decode cX4_sweep 105 = .ok (.iconst 0, 1) := dc_of qt_q187_cX4_sweep 17 rfl
theorem dX4_sweep_106 : decode cX4_sweep 106 = .ok (.istore_n 3, 1) := dc_of qt_q187_cX4_sweep 18 rfl
theorem dX4_sweep_107 : decode cX4_sweep 107 = .ok (.iconst 0, 1) := dc_of qt_q187_cX4_sweep 19 rfl
theorem dX4_sweep_108 : decode cX4_sweep 108 = .ok (.istore_n 2, 1) := dc_of qt_q187_cX4_sweep 20 rfl
theorem dX4_sweep_109 : decode cX4_sweep 109 = .ok (.iload_n 3, 1) := dc_of qt_q187_cX4_sweep 21 rfl
theorem dX4_sweep_110 : decode cX4_sweep 110 = .ok (.iload 4, 2) := dc_of qt_q187_cX4_sweep 22 rfl
theorem dX4_sweep_112 : decode cX4_sweep 112 = .ok (.if_icmp .ge 103, 3) := dc_of qt_q187_cX4_sweep 23 rfl
def ql_q188_cX4_sweep : List (Nat × Jvm.ClassFile.Instr × Nat) := [(115, .aload_n 0, 1), (116, .iload_n 1, 1), (117, .iload_n 3, 1), (118, .invokevirtual 71, 3), (121, .istore 5, 2), (123, .aload_n 0, 1), (124, .iload_n 1, 1), (125, .iload_n 3, 1), (126, .invokevirtual 87, 3), (129, .istore 6, 2), (131, .iconst 0, 1), (132, .istore 7, 2), (134, .iload 7, 2), (136, .iload 5, 2), (138, .if_icmp .gt 67, 3), (141, .aload_n 0, 1), (142, .getfield 25, 3), (145, .iload_n 3, 1), (146, .iaload, 1), (147, .ifCond .lt 58, 3), (150, .aload_n 0, 1), (151, .getfield 16, 3), (154, .sipush 256, 3), (157, .iload_n 1, 1)]
theorem qt_q188_cX4_sweep : dcAll cX4_sweep ql_q188_cX4_sweep = true := by decide +kernel
theorem dX4_sweep_115 : decode cX4_sweep 115 = .ok (.aload_n 0, 1) := dc_of qt_q188_cX4_sweep 0 rfl
theorem dX4_sweep_116 : decode cX4_sweep 116 = .ok (.iload_n 1, 1) := dc_of qt_q188_cX4_sweep 1 rfl
theorem dX4_sweep_117 : decode cX4_sweep 117 = .ok (.iload_n 3, 1) := dc_of qt_q188_cX4_sweep 2 rfl
theorem dX4_sweep_118 : decode cX4_sweep 118 = .ok (.invokevirtual 71, 3) := dc_of qt_q188_cX4_sweep 3 rfl
theorem dX4_sweep_121 : decode cX4_sweep 121 = .ok (.istore 5, 2) := dc_of qt_q188_cX4_sweep 4 rfl
theorem dX4_sweep_123 : decode cX4_sweep 123 = .ok (.aload_n 0, 1) := dc_of qt_q188_cX4_sweep 5 rfl
theorem dX4_sweep_124 : decode cX4_sweep 124 = .ok (.iload_n 1, 1) := dc_of qt_q188_cX4_sweep 6 rfl
theorem dX4_sweep_125 : decode cX4_sweep 125 = .ok (.iload_n 3, 1) := dc_of qt_q188_cX4_sweep 7 rfl
theorem dX4_sweep_126 : decode cX4_sweep 126 = .ok (.invokevirtual 87, 3) := dc_of qt_q188_cX4_sweep 8 rfl
theorem dX4_sweep_129 : decode cX4_sweep 129 = .ok (.istore 6, 2) := dc_of qt_q188_cX4_sweep 9 rfl
theorem dX4_sweep_131 : decode cX4_sweep 131 = .ok (.iconst 0, 1) := dc_of qt_q188_cX4_sweep 10 rfl
theorem dX4_sweep_132 : decode cX4_sweep 132 = .ok (.istore 7, 2) := dc_of qt_q188_cX4_sweep 11 rfl
theorem dX4_sweep_134 : decode cX4_sweep 134 = .ok (.iload 7, 2) := dc_of qt_q188_cX4_sweep 12 rfl
