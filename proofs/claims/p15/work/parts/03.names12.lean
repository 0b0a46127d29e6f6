theorem dX4_isSize_2 : decode cX4_isSize 2 = .ok (.if_icmp .ne 16, 3) := dc_of qt_q135_cX4_isSize 2 rfl
theorem dX4_isSize_5 : decode cX4_isSize 5 = .ok (.iload_n 1, 1) := dc_of qt_q135_cX4_isSize 3 rfl
theorem dX4_isSize_6 : decode cX4_isSize 6 = .ok (.iconst 2, 1) := dc_of qt_q135_cX4_isSize 4 rfl
theorem dX4_isSize_7 : decode cX4_isSize 7 = .ok (.if_icmp .ne 7, 3) := dc_of qt_q135_cX4_isSize 5 rfl
theorem dX4_isSize_10 : decode cX4_isSize 10 = .ok (.iconst 1, 1) := dc_of qt_q135_cX4_isSize 6 rfl
theorem dX4_isSize_11 : decode cX4_isSize 11 = .ok (.goto 32, 3) := dc_of qt_q135_cX4_isSize 7 rfl
theorem dX4_isSize_14 : decode cX4_isSize 14 = .ok (.iconst 0, 1) := dc_of qt_q135_cX4_isSize 8 rfl
theorem dX4_isSize_15 : decode cX4_isSize 15 = .ok (.goto 28, 3) := dc_of qt_q135_cX4_isSize 9 rfl
theorem dX4_isSize_18 : decode cX4_isSize 18 = .ok (.iload_n 0, 1) := dc_of qt_q135_cX4_isSize 10 rfl
theorem dX4_isSize_19 : decode cX4_isSize 19 = .ok (.iconst 1, 1) := dc_of qt_q135_cX4_isSize 11 rfl
theorem dX4_isSize_20 : decode cX4_isSize 20 = .ok (.if_icmp .eq 8, 3) := dc_of qt_q135_cX4_isSize 12 rfl
theorem dX4_isSize_23 : decode cX4_isSize 23 = .ok (.iload_n 0, 1) := dc_of qt_q135_cX4_isSize 13 rfl
theorem dX4_isSize_24 : decode cX4_isSize 24 = .ok (.iconst 2, 1) := dc_of qt_q135_cX4_isSize 14 rfl
theorem dX4_isSize_25 : decode cX4_isSize 25 = .ok (.if_icmp .ne 17, 3) := dc_of qt_q135_cX4_isSize 15 rfl
theorem dX4_isSize_28 : decode cX4_isSize 28 = .ok (.iload_n 1, 1) := dc_of qt_q135_cX4_isSize 16 rfl
theorem dX4_isSize_29 : decode cX4_isSize 29 = .ok (.ifCond .lt 13, 3) := dc_of qt_q135_cX4_isSize 17 rfl
theorem dX4_isSize_32 : decode cX4_isSize 32 = .ok (.iload_n 1, 1) := dc_of qt_q135_cX4_isSize 18 rfl
theorem dX4_isSize_33 : decode cX4_isSize 33 = .ok (.bipush 40, 2) := dc_of qt_q135_cX4_isSize 19 rfl
theorem dX4_isSize_35 : decode cX4_isSize 35 = .ok (.if_icmp .gt 7, 3) := dc_of qt_q135_cX4_isSize 20 rfl
theorem dX4_isSize_38 : decode cX4_isSize 38 = .ok (.iconst 1, 1) := dc_of qt_q135_cX4_isSize 21 rfl
theorem dX4_isSize_39 : decode cX4_isSize 39 = .ok (.goto 4, 3) := dc_of qt_q135_cX4_isSize 22 rfl
theorem dX4_isSize_42 : decode cX4_isSize 42 = .ok (.iconst 0, 1) := dc_of qt_q135_cX4_isSize 23 rfl
def ql_q136_cX4_isSize : List (Nat × Jvm.ClassFile.Instr × Nat) := [(43, .ireturn, 1)]
theorem qt_q136_cX4_isSize : dcAll cX4_isSize ql_q136_cX4_isSize = true := by decide +kernel
theorem dX4_isSize_43 : decode cX4_isSize 43 = .ok (.ireturn, 1) := dc_of qt_q136_cX4_isSize 0 rfl
set_option maxRecDepth 20000 in
theorem ggX4_isHead_X4_isSize : GoodIn wsX4_isHead wsX4_isSize := goodIn_r _ [4] rfl (by decide +kernel)
def ql_q137_cX4_isHead : List (Nat × Jvm.ClassFile.Instr × Nat) := [(0, .iload_n 0, 1), (1, .ifCond .le 21, 3), (4, .iload_n 0, 1), (5, .bipush 64, 2), (7, .idiv, 1), (8, .iload_n 0, 1), (9, .bipush 64, 2), (11, .irem, 1), (12, .invokestatic 53, 3), (15, .ifCond .eq 7, 3), (18, .iconst 1, 1), (19, .goto 4, 3), (22, .iconst 0, 1), (23, .ireturn, 1)]
theorem qt_q137_cX4_isHead : dcAll cX4_isHead ql_q137_cX4_isHead = true := by decide +kernel
theorem dX4_isHead_0 : decode cX4_isHead 0 = .ok (.iload_n 0, 1) := dc_of qt_q137_cX4_isHead 0 rfl
theorem dX4_isHead_1 : decode cX4_isHead 1 = .ok (.ifCond .le 21, 3) := dc_of qt_q137_cX4_isHead 1 rfl
theorem dX4_isHead_4 : decode cX4_isHead 4 = .ok (.iload_n 0, 1) := dc_of qt_q137_cX4_isHead 2 rfl
theorem dX4_isHead_5 : decode cX4_isHead 5 = .ok (.bipush 64, 2) := dc_of qt_q137_cX4_isHead 3 rfl
theorem dX4_isHead_7 : decode cX4_isHead 7 = .ok (.idiv, 1) := dc_of qt_q137_cX4_isHead 4 rfl
theorem dX4_isHead_8 : decode cX4_isHead 8 = .ok (.iload_n 0, 1) := dc_of qt_q137_cX4_isHead 5 rfl
theorem dX4_isHead_9 : decode cX4_isHead 9 = .ok (.bipush 64, 2) := dc_of qt_q137_cX4_isHead 6 rfl
theorem dX4_isHead_11 : decode cX4_isHead 11 = .ok (.irem, 1) := dc_of qt_q137_cX4_isHead 7 rfl
theorem dX4_isHead_12 : decode cX4_isHead 12 = .ok (.invokestatic 53, 3) := dc_of qt_q137_cX4_isHead 8 rfl
theorem dX4_isHead_15 : decode cX4_isHead 15 = .ok (.ifCond .eq 7, 3) := dc_of qt_q137_cX4_isHead 9 rfl
theorem dX4_isHead_18 : decode cX4_isHead 18 = .ok (.iconst 1, 1) := dc_of qt_q137_cX4_isHead 10 rfl
theorem dX4_isHead_19 : decode cX4_isHead 19 = .ok (.goto 4, 3) := dc_of qt_q137_cX4_isHead 11 rfl
theorem dX4_isHead_22 : decode cX4_isHead 22 = .ok (.iconst 0, 1) := dc_of qt_q137_cX4_isHead 12 rfl
theorem dX4_isHead_23 : decode cX4_isHead 23 = .ok (.ireturn, 1) := dc_of qt_q137_cX4_isHead 13 rfl
set_option maxRecDepth 20000 in
theorem ggX4_behind_X4_isHead : GoodIn wsX4_behind wsX4_isHead := goodIn_r _ [6, 7, 8, 5, 9] rfl (by decide +kernel)
def ql_q138_cX4_behind : List (Nat × Jvm.ClassFile.Instr × Nat) := [(0, .aload_n 0, 1), (1, .getfield 16, 3), (4, .sipush 256, 3), (7, .iload_n 1, 1), (8, .imul, 1), (9, .iload_n 2, 1), (10, .iadd, 1), (11, .iaload, 1), (12, .istore_n 3, 1), (13, .iload_n 2, 1), (14, .iconst 1, 1), (15, .iadd, 1), (16, .iload_n 3, 1), (17, .bipush 64, 2), (19, .irem, 1), (20, .iadd, 1), (21, .istore 4, 2), (23, .iload_n 3, 1), (24, .invokestatic 57, 3), (27, .ifCond .eq 19, 3), (30, .iload 4, 2), (32, .aload_n 0, 1), (33, .getfield 13, 3), (36, .iload_n 1, 1)]
theorem qt_q138_cX4_behind : dcAll cX4_behind ql_q138_cX4_behind = true := by decide +kernel
theorem dX4_behind_0 : decode cX4_behind 0 = .ok (.aload_n 0, 1) := dc_of qt_q138_cX4_behind 0 rfl
theorem dX4_behind_1 : decode cX4_behind 1 = .ok (.getfield 16, 3) := dc_of qt_q138_cX4_behind 1 rfl
theorem dX4_behind_4 : decode cX4_behind 4 = .ok (.sipush 256, 3) := dc_of qt_q138_cX4_behind 2 rfl
theorem dX4_behind_7 : decode cX4_behind 7 = .ok (.iload_n 1, 1) := dc_of qt_q138_cX4_behind 3 rfl
theorem dX4_behind_8 : decode cX4_behind 8 = .ok (.imul, 1) := dc_of qt_q138_cX4_behind 4 rfl
theorem dX4_behind_9 : decode cX4_behind 9 = .ok (.iload_n 2, 1) := dc_of qt_q138_cX4_behind 5 rfl
theorem dX4_behind_10 : decode cX4_behind 10 = .ok (.iadd, 1) := dc_of qt_q138_cX4_behind 6 rfl
theorem dX4_behind_11 : decode cX4_behind 11 = .ok (.iaload, 1) := dc_of qt_q138_cX4_behind 7 rfl
theorem dX4_behind_12 : decode cX4_behind 12 = .ok (.istore_n 3, 1) := dc_of qt_q138_cX4_behind 8 rfl
theorem dX4_behind_13 : decode cX4_behind 13 = .ok (.iload_n 2, 1) := dc_of qt_q138_cX4_behind 9 rfl
theorem dX4_behind_14 : decode cX4_behind 14 = .ok (.iconst 1, 1) := dc_of qt_q138_cX4_behind 10 rfl
theorem dX4_behind_15 : decode cX4_behind 15 = .ok (.iadd, 1) := dc_of qt_q138_cX4_behind 11 rfl
theorem dX4_behind_16 : decode cX4_behind 16 = .ok (.iload_n 3, 1) := dc_of qt_q138_cX4_behind 12 rfl
theorem dX4_behind_17 : decode cX4_behind 17 = .ok (.bipush 64, 2) := dc_of qt_q138_cX4_behind 13 rfl
theorem dX4_behind_19 : decode cX4_behind 19 = .ok (.irem, 1) := dc_of qt_q138_cX4_behind 14 rfl
theorem dX4_behind_20 : decode cX4_behind 20 = .ok (.iadd, 1) := dc_of qt_q138_cX4_behind 15 rfl
theorem dX4_behind_21 : decode cX4_behind 21 = .ok (.istore 4, 2) := dc_of qt_q138_cX4_behind 16 rfl
theorem dX4_behind_23 : decode cX4_behind 23 = .ok (.iload_n 3, 1) := dc_of qt_q138_cX4_behind 17 rfl
theorem dX4_behind_24 : decode cX4_behind 24 = .ok (.invokestatic 57, 3) := dc_of qt_q138_cX4_behind 18 rfl
theorem dX4_behind_27 : decode cX4_behind 27 = .ok (.ifCond .eq 19, 3) := dc_of qt_q138_cX4_behind 19 rfl
theorem dX4_behind_30 : decode cX4_behind 30 = .ok (.iload 4, 2) := dc_of qt_q138_cX4_behind 20 rfl
theorem dX4_behind_32 : decode cX4_behind 32 = .ok (.aload_n 0, 1) := dc_of qt_q138_cX4_behind 21 rfl
theorem dX4_behind_33 : decode cX4_behind 33 = .ok (.getfield 13, 3) := dc_of qt_q138_cX4_behind 22 rfl
theorem dX4_behind_36 : decode cX4_behind 36 = .ok (.iload_n 1, 1) := dc_of qt_q138_cX4_behind 23 rfl
def ql_q139_cX4_behind : List (Nat × Jvm.ClassFile.Instr × Nat) := [(37, .iaload, 1), (38, .if_icmp .gt 8, 3), (41, .iload 4, 2), (43, .goto 4, 3), (46, .iconst (-1), 1), (47, .ireturn, 1)]
theorem qt_q139_cX4_behind : dcAll cX4_behind ql_q139_cX4_behind = true := by decide +kernel
theorem dX4_behind_37 : decode cX4_behind 37 = .ok (.iaload, 1) := dc_of qt_q139_cX4_behind 0 rfl
theorem dX4_behind_38 : decode cX4_behind 38 = .ok (.if_icmp .gt 8, 3) := dc_of qt_q139_cX4_behind 1 rfl
theorem dX4_behind_41 : decode cX4_behind 41 = .ok (.iload 4, 2) := dc_of qt_q139_cX4_behind 2 rfl
theorem dX4_behind_43 : decode cX4_behind 43 = .ok (.goto 4, 3) := dc_of qt_q139_cX4_behind 3 rfl
theorem dX4_behind_46 : decode cX4_behind 46 = .ok (.iconst (-1), 1) := dc_of qt_q139_cX4_behind 4 rfl
theorem dX4_behind_47 : decode cX4_behind 47 = .ok (.ireturn, 1) := dc_of qt_q139_cX4_behind 5 rfl
set_option maxRecDepth 20000 in
theorem ggX4_find_X4_behind : GoodIn wsX4_find wsX4_behind := goodIn_r _ [7, 8, 1, 9, 10, 6, 11, 12, 13, 14, 15, 16, 17, 18, 19, 20, 21, 22, 23, 24, 25, 26, 27, 28, 29, 30, 31, 32, 33, 34, 35, 36, 37] rfl (by decide +kernel)
def ql_q140_cX4_find : List (Nat × Jvm.ClassFile.Instr × Nat) := [(0, .iconst 0, 1), (1, .istore_n 3, 1), (2, .iload_n 3, 1), (3, .ifCond .lt 48, 3), (6, .iload_n 3, 1), (7, .aload_n 0, 1), (8, .getfield 13, 3), (11, .iload_n 1, 1), (12, .iaload, 1), (13, .if_icmp .ge 38, 3), (16, .aload_n 0, 1), (17, .iload_n 1, 1), (18, .iload_n 3, 1), (19, .invokevirtual 61, 3), (22, .istore 4, 2), (24, .iload 4, 2), (26, .ifCond .lt 19, 3), (29, .iload_n 2, 1), (30, .aload_n 0, 1), (31, .getfield 7, 3), (34, .iload_n 1, 1), (35, .iaload, 1), (36, .iconst 4, 1), (37, .iload_n 3, 1)]
theorem qt_q140_cX4_find : dcAll cX4_find ql_q140_cX4_find = true := by decide +kernel
theorem dX4_find_0 : decode cX4_find 0 = .ok (.iconst 0, 1) := dc_of qt_q140_cX4_find 0 rfl
theorem dX4_find_1 : decode cX4_find 1 = .ok (.istore_n 3, 1) := dc_of qt_q140_cX4_find 1 rfl
theorem dX4_find_2 : decode cX4_find 2 = .ok (.iload_n 3, 1) := dc_of qt_q140_cX4_find 2 rfl
theorem dX4_find_3 : decode cX4_find 3 = .ok (.ifCond .lt 48, 3) := dc_of qt_q140_cX4_find 3 rfl
theorem dX4_find_6 : decode cX4_find 6 = .ok (.iload_n 3, 1) := dc_of qt_q140_cX4_find 4 rfl
theorem dX4_find_7 : decode cX4_find 7 = .ok (.aload_n 0, 1) := dc_of qt_q140_cX4_find 5 rfl
theorem dX4_find_8 : decode cX4_find 8 = .ok (.getfield 13, 3) := dc_of qt_q140_cX4_find 6 rfl
theorem dX4_find_11 : decode cX4_find 11 = .ok (.iload_n 1, 1) := dc_of qt_q140_cX4_find 7 rfl
theorem dX4_find_12 : decode cX4_find 12 = .ok (.iaload, 1) := dc_of qt_q140_cX4_find 8 rfl
theorem dX4_find_13 : decode cX4_find 13 = .ok (.if_icmp .ge 38, 3) := dc_of qt_q140_cX4_find 9 rfl
theorem dX4_find_16 : decode cX4_find 16 = .ok (.aload_n 0, 1) := dc_of qt_q140_cX4_find 10 rfl
theorem dX4_find_17 : decode cX4_find 17 = .ok (.iload_n 1, 1) := dc_of qt_q140_cX4_find 11 rfl
theorem dX4_find_18 : decode cX4_find 18 = .ok (.iload_n 3, 1) := dc_of qt_q140_cX4_find 12 rfl
theorem dX4_find_19 : decode cX4_find 19 = .ok (.invokevirtual 61, 3) := dc_of qt_q140_cX4_find 13 rfl
theorem dX4_find_22 : decode cX4_find 22 = .ok (.istore 4, 2) := dc_of qt_q140_cX4_find 14 rfl
theorem dX4_find_24 : decode cX4_find 24 = .ok (.iload 4, 2) := dc_of qt_q140_cX4_find 15 rfl
theorem dX4_find_26 : decode cX4_find 26 = .ok (.ifCond .lt 19, 3) := dc_of qt_q140_cX4_find 16 rfl
theorem dX4_find_29 : decode cX4_find 29 = .ok (.iload_n 2, 1) := dc_of qt_q140_cX4_find 17 rfl
theorem dX4_find_30 : decode cX4_find 30 = .ok (.aload_n 0, 1) := dc_of qt_q140_cX4_find 18 rfl
theorem dX4_find_31 : decode cX4_find 31 = .ok (.getfield 7, 3) := dc_of qt_q140_cX4_find 19 rfl
theorem dX4_find_34 : decode cX4_find 34 = .ok (.iload_n 1, 1) := dc_of qt_q140_cX4_find 20 rfl
theorem dX4_find_35 : decode cX4_find 35 = .ok (.iaload, 1) := dc_of qt_q140_cX4_find 21 rfl
theorem dX4_find_36 : decode cX4_find 36 = .ok (.iconst 4, 1) := dc_of qt_q140_cX4_find 22 rfl
theorem dX4_find_37 : decode cX4_find 37 = .ok (.iload_n 3, 1) := dc_of qt_q140_cX4_find 23 rfl
def ql_q141_cX4_find : List (Nat × Jvm.ClassFile.Instr × Nat) := [(38, .imul, 1), (39, .iadd, 1), (40, .if_icmp .ne 5, 3), (43, .iload_n 3, 1), (44, .ireturn, 1), (45, .iload 4, 2), (47, .istore_n 3, 1), (48, .goto (-46), 3), (51, .iconst (-1), 1), (52, .ireturn, 1)]
theorem qt_q141_cX4_find : dcAll cX4_find ql_q141_cX4_find = true := by decide +kernel
theorem dX4_find_38 : decode cX4_find 38 = .ok (.imul, 1) := dc_of qt_q141_cX4_find 0 rfl
theorem dX4_find_39 : decode cX4_find 39 = .ok (.iadd, 1) := dc_of qt_q141_cX4_find 1 rfl
theorem dX4_find_40 : decode cX4_find 40 = .ok (.if_icmp .ne 5, 3) := dc_of qt_q141_cX4_find 2 rfl
theorem dX4_find_43 : decode cX4_find 43 = .ok (.iload_n 3, 1) := dc_of qt_q141_cX4_find 3 rfl
theorem dX4_find_44 : decode cX4_find 44 = .ok (.ireturn, 1) := dc_of qt_q141_cX4_find 4 rfl
theorem dX4_find_45 : decode cX4_find 45 = .ok (.iload 4, 2) := dc_of qt_q141_cX4_find 5 rfl
theorem dX4_find_47 : decode cX4_find 47 = .ok (.istore_n 3, 1) := dc_of qt_q141_cX4_find 6 rfl
theorem dX4_find_48 : decode cX4_find 48 = .ok (.goto (-46), 3) := dc_of qt_q141_cX4_find 7 rfl
theorem dX4_find_51 : decode cX4_find 51 = .ok (.iconst (-1), 1) := dc_of qt_q141_cX4_find 8 rfl
theorem dX4_find_52 : decode cX4_find 52 = .ok (.ireturn, 1) := dc_of qt_q141_cX4_find 9 rfl
set_option maxRecDepth 20000 in
theorem ggX4_objects_X4_behind : GoodIn wsX4_objects wsX4_behind := goodIn_r _ [6, 7, 1, 8, 9, 5, 10, 11, 12, 13, 14, 15, 16, 17, 18, 19, 20, 21, 22, 23, 24, 25, 26, 27, 28, 29, 30, 31, 32, 33, 34, 35, 36] rfl (by decide +kernel)
def ql_q142_cX4_objects : List (Nat × Jvm.ClassFile.Instr × Nat) := [(0, .iconst 0, 1), (1, .istore_n 2, 1), (2, .iconst 0, 1), (3, .istore_n 3, 1), (4, .iload_n 3, 1), (5, .ifCond .lt 35, 3), (8, .iload_n 3, 1), (9, .aload_n 0, 1), (10, .getfield 13, 3), (13, .iload_n 1, 1), (14, .iaload, 1), (15, .if_icmp .ge 25, 3), (18, .aload_n 0, 1), (19, .iload_n 1, 1), (20, .iload_n 3, 1), (21, .invokevirtual 61, 3), (24, .istore_n 3, 1), (25, .iload_n 3, 1), (26, .ifCond .lt 9, 3), (29, .iload_n 2, 1), (30, .iconst 1, 1), (31, .iadd, 1), (32, .goto 4, 3), (35, .iload_n 2, 1)]
theorem qt_q142_cX4_objects : dcAll cX4_objects ql_q142_cX4_objects = true := by decide +kernel
theorem dX4_objects_0 : decode cX4_objects 0 = .ok (.iconst 0, 1) := dc_of qt_q142_cX4_objects 0 rfl
theorem dX4_objects_1 : decode cX4_objects 1 = .ok (.istore_n 2, 1) := dc_of qt_q142_cX4_objects 1 rfl
theorem dX4_objects_2 : decode cX4_objects 2 = .ok (.iconst 0, 1) := dc_of qt_q142_cX4_objects 2 rfl
theorem dX4_objects_3 : decode cX4_objects 3 = .ok (.istore_n 3, 1) := dc_of qt_q142_cX4_objects 3 rfl
theorem dX4_objects_4 : decode cX4_objects 4 = .ok (.iload_n 3, 1) := dc_of qt_q142_cX4_objects 4 rfl
theorem dX4_objects_5 : decode cX4_objects 5 = .ok (.ifCond .lt 35, 3) := dc_of qt_q142_cX4_objects 5 rfl
theorem dX4_objects_8 : decode cX4_objects 8 = .ok (.iload_n 3, 1) := dc_of qt_q142_cX4_objects 6 rfl
theorem dX4_objects_9 : decode cX4_objects 9 = .ok (.aload_n 0, 1) := dc_of qt_q142_cX4_objects 7 rfl
theorem dX4_objects_10 : decode cX4_objects 10 = .ok (.getfield 13, 3) := dc_of qt_q142_cX4_objects 8 rfl
theorem dX4_objects_13 : decode cX4_objects 13 = .ok (.iload_n 1, 1) := dc_of qt_q142_cX4_objects 9 rfl
theorem dX4_objects_14 : decode cX4_objects 14 = .ok (.iaload, 1) := dc_of qt_q142_cX4_objects 10 rfl
theorem dX4_objects_15 : decode cX4_objects 15 = .ok (.if_icmp .ge 25, 3) := dc_of qt_q142_cX4_objects 11 rfl
theorem dX4_objects_18 : decode cX4_objects 18 = .ok (.aload_n 0, 1) := dc_of qt_q142_cX4_objects 12 rfl
theorem dX4_objects_19 : decode cX4_objects 19 = .ok (.iload_n 1, 1) := dc_of qt_q142_cX4_objects 13 rfl
theorem dX4_objects_20 : decode cX4_objects 20 = .ok (.iload_n 3, 1) := dc_of qt_q142_cX4_objects 14 rfl
theorem dX4_objects_21 : decode cX4_objects 21 = .ok (.invokevirtual 61, 3) := dc_of qt_q142_cX4_objects 15 rfl
theorem dX4_objects_24 : decode cX4_objects 24 = .ok (.istore_n 3, 1) := dc_of qt_q142_cX4_objects 16 rfl
theorem dX4_objects_25 : decode cX4_objects 25 = .ok (.iload_n 3, 1) := dc_of qt_q142_cX4_objects 17 rfl
theorem dX4_objects_26 : decode cX4_objects 26 = .ok (.ifCond .lt 9, 3) := dc_of qt_q142_cX4_objects 18 rfl
theorem dX4_objects_29 : decode cX4_objects 29 = .ok (.iload_n 2, 1) := dc_of qt_q142_cX4_objects 19 rfl
theorem dX4_objects_30 : decode cX4_objects 30 = .ok (.iconst 1, 1) := dc_of qt_q142_cX4_objects 20 rfl
theorem dX4_objects_31 : decode cX4_objects 31 = .ok (.iadd, 1) := dc_of qt_q142_cX4_objects 21 rfl
theorem dX4_objects_32 : decode cX4_objects 32 = .ok (.goto 4, 3) := dc_of qt_q142_cX4_objects 22 rfl
theorem dX4_objects_35 : decode cX4_objects 35 = .ok (.iload_n 2, 1) := dc_of qt_q142_cX4_objects 23 rfl
def ql_q143_cX4_objects : List (Nat × Jvm.ClassFile.Instr × Nat) := [(36, .istore_n 2, 1), (37, .goto (-33), 3), (40, .iload_n 2, 1), (41, .ireturn, 1)]
theorem qt_q143_cX4_objects : dcAll cX4_objects ql_q143_cX4_objects = true := by decide +kernel
theorem dX4_objects_36 : decode cX4_objects 36 = .ok (.istore_n 2, 1) := dc_of qt_q143_cX4_objects 0 rfl
theorem dX4_objects_37 : decode cX4_objects 37 = .ok (.goto (-33), 3) := dc_of qt_q143_cX4_objects 1 rfl
theorem dX4_objects_40 : decode cX4_objects 40 = .ok (.iload_n 2, 1) := dc_of qt_q143_cX4_objects 2 rfl
theorem dX4_objects_41 : decode cX4_objects 41 = .ok (.ireturn, 1) := dc_of qt_q143_cX4_objects 3 rfl
def ql_q144_cX4_kindAt : List (Nat × Jvm.ClassFile.Instr × Nat) := [(0, .aload_n 0, 1), (1, .getfield 16, 3), (4, .sipush 256, 3), (7, .iload_n 1, 1), (8, .imul, 1), (9, .iload_n 2, 1), (10, .iadd, 1), (11, .iaload, 1), (12, .bipush 64, 2), (14, .idiv, 1), (15, .ireturn, 1)]
theorem qt_q144_cX4_kindAt : dcAll cX4_kindAt ql_q144_cX4_kindAt = true := by decide +kernel
theorem dX4_kindAt_0 : decode cX4_kindAt 0 = .ok (.aload_n 0, 1) := dc_of qt_q144_cX4_kindAt 0 rfl
theorem dX4_kindAt_1 : decode cX4_kindAt 1 = .ok (.getfield 16, 3) := dc_of qt_q144_cX4_kindAt 1 rfl
theorem dX4_kindAt_4 : decode cX4_kindAt 4 = .ok (.sipush 256, 3) := dc_of qt_q144_cX4_kindAt 2 rfl
theorem dX4_kindAt_7 : decode cX4_kindAt 7 = .ok (.iload_n 1, 1) := dc_of qt_q144_cX4_kindAt 3 rfl
theorem dX4_kindAt_8 : decode cX4_kindAt 8 = .ok (.imul, 1) := dc_of qt_q144_cX4_kindAt 4 rfl
theorem dX4_kindAt_9 : decode cX4_kindAt 9 = .ok (.iload_n 2, 1) := dc_of qt_q144_cX4_kindAt 5 rfl
theorem dX4_kindAt_10 : decode cX4_kindAt 10 = .ok (.iadd, 1) := dc_of qt_q144_cX4_kindAt 6 rfl
theorem dX4_kindAt_11 : decode cX4_kindAt 11 = .ok (.iaload, 1) := dc_of qt_q144_cX4_kindAt 7 rfl
theorem dX4_kindAt_12 : decode cX4_kindAt 12 = .ok (.bipush 64, 2) := dc_of qt_q144_cX4_kindAt 8 rfl
theorem dX4_kindAt_14 : decode cX4_kindAt 14 = .ok (.idiv, 1) := dc_of qt_q144_cX4_kindAt 9 rfl
theorem dX4_kindAt_15 : decode cX4_kindAt 15 = .ok (.ireturn, 1) := dc_of qt_q144_cX4_kindAt 10 rfl
def ql_q145_cX4_slotsAt : List (Nat × Jvm.ClassFile.Instr × Nat) := [(0, .aload_n 0, 1), (1, .getfield 16, 3), (4, .sipush 256, 3), (7, .iload_n 1, 1), (8, .imul, 1), (9, .iload_n 2, 1), (10, .iadd, 1), (11, .iaload, 1), (12, .bipush 64, 2), (14, .irem, 1), (15, .ireturn, 1)]
theorem qt_q145_cX4_slotsAt : dcAll cX4_slotsAt ql_q145_cX4_slotsAt = true := by decide +kernel
theorem dX4_slotsAt_0 : decode cX4_slotsAt 0 = .ok (.aload_n 0, 1) := dc_of qt_q145_cX4_slotsAt 0 rfl
theorem dX4_slotsAt_1 : decode cX4_slotsAt 1 = .ok (.getfield 16, 3) := dc_of qt_q145_cX4_slotsAt 1 rfl
theorem dX4_slotsAt_4 : decode cX4_slotsAt 4 = .ok (.sipush 256, 3) := dc_of qt_q145_cX4_slotsAt 2 rfl
theorem dX4_slotsAt_7 : decode cX4_slotsAt 7 = .ok (.iload_n 1, 1) := dc_of qt_q145_cX4_slotsAt 3 rfl
theorem dX4_slotsAt_8 : decode cX4_slotsAt 8 = .ok (.imul, 1) := dc_of qt_q145_cX4_slotsAt 4 rfl
theorem dX4_slotsAt_9 : decode cX4_slotsAt 9 = .ok (.iload_n 2, 1) := dc_of qt_q145_cX4_slotsAt 5 rfl
theorem dX4_slotsAt_10 : decode cX4_slotsAt 10 = .ok (.iadd, 1) := dc_of qt_q145_cX4_slotsAt 6 rfl
theorem dX4_slotsAt_11 : decode cX4_slotsAt 11 = .ok (.iaload, 1) := dc_of qt_q145_cX4_slotsAt 7 rfl
theorem dX4_slotsAt_12 : decode cX4_slotsAt 12 = .ok (.bipush 64, 2) := dc_of qt_q145_cX4_slotsAt 8 rfl
theorem dX4_slotsAt_14 : decode cX4_slotsAt 14 = .ok (.irem, 1) := dc_of qt_q145_cX4_slotsAt 9 rfl
theorem dX4_slotsAt_15 : decode cX4_slotsAt 15 = .ok (.ireturn, 1) := dc_of qt_q145_cX4_slotsAt 10 rfl
set_option maxRecDepth 20000 in
theorem ggX4_make_X4_isHeap : GoodIn wsX4_make wsX4_isHeap := goodIn_r _ [8] rfl (by decide +kernel)
set_option maxRecDepth 20000 in
theorem ggX4_make_X4_isSize : GoodIn wsX4_make wsX4_isSize := goodIn_r _ [11] rfl (by decide +kernel)
def ql_q146_cX4_make : List (Nat × Jvm.ClassFile.Instr × Nat) := [(0, .aload_n 0, 1), (1, .iload_n 1, 1), (2, .invokestatic 65, 3), (5, .ifCond .ne 7, 3), (8, .iconst 1, 1), (9, .goto 36, 3), (12, .iload_n 2, 1), (13, .iload_n 3, 1), (14, .invokestatic 53, 3), (17, .ifCond .ne 7, 3), (20, .iconst 2, 1), (21, .goto 24, 3), (24, .aload_n 0, 1), (25, .getfield 13, 3), (28, .iload_n 1, 1), (29, .iaload, 1), (30, .iconst 1, 1), (31, .iadd, 1), (32, .iload_n 3, 1), (33, .iadd, 1), (34, .sipush 256, 3), (37, .if_icmp .le 7, 3), (40, .iconst 3, 1), (41, .goto 4, 3)]
theorem qt_q146_cX4_make : dcAll cX4_make ql_q146_cX4_make = true := by decide +kernel
theorem dX4_make_0 : decode cX4_make 0 = .ok (.aload_n 0, 1) := dc_of qt_q146_cX4_make 0 rfl
theorem dX4_make_1 : decode cX4_make 1 = .ok (.iload_n 1, 1) := dc_of qt_q146_cX4_make 1 rfl
theorem dX4_make_2 : decode cX4_make 2 = .ok (.invokestatic 65, 3) := dc_of qt_q146_cX4_make 2 rfl
theorem dX4_make_5 : decode cX4_make 5 = .ok (.ifCond .ne 7, 3) := dc_of qt_q146_cX4_make 3 rfl
theorem dX4_make_8 : decode cX4_make 8 = .ok (.iconst 1, 1) := dc_of qt_q146_cX4_make 4 rfl
theorem dX4_make_9 : decode cX4_make 9 = .ok (.goto 36, 3) := dc_of qt_q146_cX4_make 5 rfl
theorem dX4_make_12 : decode cX4_make 12 = .ok (.iload_n 2, 1) := dc_of qt_q146_cX4_make 6 rfl
theorem dX4_make_13 : decode cX4_make 13 = .ok (.iload_n 3, 1) := dc_of qt_q146_cX4_make 7 rfl
theorem dX4_make_14 : decode cX4_make 14 = .ok (.invokestatic 53, 3) := dc_of qt_q146_cX4_make 8 rfl
theorem dX4_make_17 : decode cX4_make 17 = .ok (.ifCond .ne 7, 3) := dc_of qt_q146_cX4_make 9 rfl
theorem dX4_make_20 : decode cX4_make 20 = .ok (.iconst 2, 1) := dc_of qt_q146_cX4_make 10 rfl
theorem dX4_make_21 : decode cX4_make 21 = .ok (.goto 24, 3) := dc_of qt_q146_cX4_make 11 rfl
theorem dX4_make_24 : decode cX4_make 24 = .ok (.aload_n 0, 1) := dc_of qt_q146_cX4_make 12 rfl
theorem dX4_make_25 : decode cX4_make 25 = .ok (.getfield 13, 3) := dc_of qt_q146_cX4_make 13 rfl
theorem dX4_make_28 : decode cX4_make 28 = .ok (.iload_n 1, 1) := dc_of qt_q146_cX4_make 14 rfl
theorem dX4_make_29 : decode cX4_make 29 = .ok (.iaload, 1) := dc_of qt_q146_cX4_make 15 rfl
theorem dX4_make_30 : decode cX4_make 30 = .ok (.iconst 1, 1) := dc_of qt_q146_cX4_make 16 rfl
theorem dX4_make_31 : decode cX4_make 31 = .ok (.iadd, 1) := dc_of qt_q146_cX4_make 17 rfl
theorem dX4_make_32 : decode cX4_make 32 = .ok (.iload_n 3, 1) := dc_of qt_q146_cX4_make 18 rfl
theorem dX4_make_33 : decode cX4_make 33 = .ok (.iadd, 1) := dc_of qt_q146_cX4_make 19 rfl
theorem dX4_make_34 : decode cX4_make 34 = .ok (.sipush 256, 3) := dc_of qt_q146_cX4_make 20 rfl
theorem dX4_make_37 : decode cX4_make 37 = .ok (.if_icmp .le 7, 3) := dc_of qt_q146_cX4_make 21 rfl
theorem dX4_make_40 : decode cX4_make 40 = .ok (.iconst 3, 1) := dc_of qt_q146_cX4_make 22 rfl
theorem dX4_make_41 : decode cX4_make 41 = .ok (.goto 4, 3) := dc_of qt_q146_cX4_make 23 rfl
def ql_q147_cX4_make : List (Nat × Jvm.ClassFile.Instr × Nat) := [(44, .iconst 0, 1), (45, .putfield 49, 3), (48, .aload_n 0, 1), (49, .getfield 49, 3), (52, .ifCond .le 5, 3), (55, .iconst 0, 1), (56, .ireturn, 1), (57, .aload_n 0, 1), (58, .getfield 13, 3), (61, .iload_n 1, 1), (62, .iaload, 1), (63, .istore 4, 2), (65, .aload_n 0, 1), (66, .getfield 16, 3), (69, .sipush 256, 3), (72, .iload_n 1, 1), (73, .imul, 1), (74, .iload 4, 2), (76, .iadd, 1), (77, .bipush 64, 2), (79, .iload_n 2, 1), (80, .imul, 1), (81, .iload_n 3, 1), (82, .iadd, 1)]
theorem qt_q147_cX4_make : dcAll cX4_make ql_q147_cX4_make = true := by decide +kernel
theorem dX4_make_44 : decode cX4_make 44 = .ok (.iconst 0, 1) := dc_of qt_q147_cX4_make 0 rfl
theorem dX4_make_45 : decode cX4_make 45 = .ok (.putfield 49, 3) := dc_of qt_q147_cX4_make 1 rfl
theorem dX4_make_48 : decode cX4_make 48 = .ok (.aload_n 0, 1) := dc_of qt_q147_cX4_make 2 rfl
theorem dX4_make_49 : decode cX4_make 49 = .ok (.getfield 49, 3) := dc_of qt_q147_cX4_make 3 rfl
theorem dX4_make_52 : decode cX4_make 52 = .ok (.ifCond .le 5, 3) := dc_of qt_q147_cX4_make 4 rfl
theorem dX4_make_55 : decode cX4_make 55 = .ok (.iconst 0, 1) := dc_of qt_q147_cX4_make 5 rfl
theorem dX4_make_56 : decode cX4_make 56 = .ok (.ireturn, 1) := dc_of qt_q147_cX4_make 6 rfl
theorem dX4_make_57 : decode cX4_make 57 = .ok (.aload_n 0, 1) := dc_of qt_q147_cX4_make 7 rfl
theorem dX4_make_58 : decode cX4_make 58 = .ok (.getfield 13, 3) := dc_of qt_q147_cX4_make 8 rfl
theorem dX4_make_61 : decode cX4_make 61 = .ok (.iload_n 1, 1) := dc_of qt_q147_cX4_make 9 rfl
theorem dX4_make_62 : decode cX4_make 62 = .ok (.iaload, 1) := dc_of qt_q147_cX4_make 10 rfl
theorem dX4_make_63 : decode cX4_make 63 = .ok (.istore 4, 2) := dc_of qt_q147_cX4_make 11 rfl
theorem dX4_make_65 : decode cX4_make 65 = .ok (.aload_n 0, 1) := dc_of qt_q147_cX4_make 12 rfl
theorem dX4_make_66 : decode cX4_make 66 = .ok (.getfield 16, 3) := dc_of qt_q147_cX4_make 13 rfl
theorem dX4_make_69 : decode cX4_make 69 = .ok (.sipush 256, 3) := dc_of qt_q147_cX4_make 14 rfl
theorem dX4_make_72 : decode cX4_make 72 = .ok (.iload_n 1, 1) := dc_of qt_q147_cX4_make 15 rfl
theorem dX4_make_73 : decode cX4_make 73 = .ok (.imul, 1) := dc_of qt_q147_cX4_make 16 rfl
theorem dX4_make_74 : decode cX4_make 74 = .ok (.iload 4, 2) := dc_of qt_q147_cX4_make 17 rfl
theorem dX4_make_76 : decode cX4_make 76 = .ok (.iadd, 1) := dc_of qt_q147_cX4_make 18 rfl
theorem dX4_make_77 : decode cX4_make 77 = .ok (.bipush 64, 2) := dc_of qt_q147_cX4_make 19 rfl
theorem dX4_make_79 : decode cX4_make 79 = .ok (.iload_n 2, 1) := dc_of qt_q147_cX4_make 20 rfl
theorem dX4_make_80 : decode cX4_make 80 = .ok (.imul, 1) := dc_of qt_q147_cX4_make 21 rfl
theorem dX4_make_81 : decode cX4_make 81 = .ok (.iload_n 3, 1) := dc_of qt_q147_cX4_make 22 rfl
theorem dX4_make_82 : decode cX4_make 82 = .ok (.iadd, 1) := dc_of qt_q147_cX4_make 23 rfl
def ql_q148_cX4_make : List (Nat × Jvm.ClassFile.Instr × Nat) := [(83, .iastore, 1), (84, .iconst 0, 1), (85, .istore 5, 2), (87, .iload 5, 2), (89, .iload_n 3, 1), (90, .if_icmp .ge 43, 3), (93, .aload_n 0, 1), (94, .getfield 16, 3), (97, .sipush 256, 3), (100, .iload_n 1, 1), (101, .imul, 1), (102, .iload 4, 2), (104, .iadd, 1), (105, .iconst 1, 1), (106, .iadd, 1), (107, .iload 5, 2), (109, .iadd, 1), (110, .iload_n 2, 1), (111, .iconst 3, 1), (112, .if_icmp .ne 13, 3), (115, .iload 5, 2), (117, .iconst 1, 1), (118, .if_icmp .ne 7, 3), (121, .iconst 1, 1)]
theorem qt_q148_cX4_make : dcAll cX4_make ql_q148_cX4_make = true := by decide +kernel
theorem dX4_make_83 : decode cX4_make 83 = .ok (.iastore, 1) := dc_of qt_q148_cX4_make 0 rfl
theorem dX4_make_84 : decode cX4_make 84 = .ok (.iconst 0, 1) := dc_of qt_q148_cX4_make 1 rfl
theorem dX4_make_85 : decode cX4_make 85 = .ok (.istore 5, 2) := dc_of qt_q148_cX4_make 2 rfl
theorem dX4_make_87 : decode cX4_make 87 = .ok (.iload 5, 2) := dc_of qt_q148_cX4_make 3 rfl
theorem dX4_make_89 : decode cX4_make 89 = .ok (.iload_n 3, 1) := dc_of qt_q148_cX4_make 4 rfl
theorem dX4_make_90 : decode cX4_make 90 = .ok (.if_icmp .ge 43, 3) := dc_of qt_q148_cX4_make 5 rfl
theorem dX4_make_93 : decode cX4_make 93 = .ok (.aload_n 0, 1) := dc_of qt_q148_cX4_make 6 rfl
theorem dX4_make_94 : decode cX4_make 94 = .ok (.getfield 16, 3) := dc_of qt_q148_cX4_make 7 rfl
theorem dX4_make_97 : decode cX4_make 97 = .ok (.sipush 256, 3) := dc_of qt_q148_cX4_make 8 rfl
theorem dX4_make_100 : decode cX4_make 100 = .ok (.iload_n 1, 1) := dc_of qt_q148_cX4_make 9 rfl
theorem dX4_make_101 : decode cX4_make 101 = .ok (.imul, 1) := dc_of qt_q148_cX4_make 10 rfl
theorem dX4_make_102 : decode cX4_make 102 = .ok (.iload 4, 2) := dc_of qt_q148_cX4_make 11 rfl
theorem dX4_make_104 : decode cX4_make 104 = .ok (.iadd, 1) := dc_of qt_q148_cX4_make 12 rfl
theorem dX4_make_105 : decode cX4_make 105 = .ok (.iconst 1, 1) := dc_of qt_q148_cX4_make 13 rfl
theorem dX4_make_106 : decode cX4_make 106 = .ok (.iadd, 1) := dc_of qt_q148_cX4_make 14 rfl
theorem dX4_make_107 : decode cX4_make 107 = .ok (.iload 5, 2) := dc_of qt_q148_cX4_make 15 rfl
theorem dX4_make_109 : decode cX4_make 109 = .ok (.iadd, 1) := dc_of qt_q148_cX4_make 16 rfl
theorem dX4_make_110 : decode cX4_make 110 = .ok (.iload_n 2, 1) := dc_of qt_q148_cX4_make 17 rfl
theorem dX4_make_111 : decode cX4_make 111 = .ok (.iconst 3, 1) := dc_of qt_q148_cX4_make 18 rfl
theorem dX4_make_112 : decode cX4_make 112 = .ok (.if_icmp .ne 13, 3) := dc_of qt_q148_cX4_make 19 rfl
theorem dX4_make_115 : decode cX4_make 115 = .ok (.iload 5, 2) := dc_of qt_q148_cX4_make 20 rfl
theorem dX4_make_117 : decode cX4_make 117 = .ok (.iconst 1, 1) := dc_of qt_q148_cX4_make 21 rfl
theorem dX4_make_118 : decode cX4_make 118 = .ok (.if_icmp .ne 7, 3) := dc_of qt_q148_cX4_make 22 rfl
theorem dX4_make_121 : decode cX4_make 121 = .ok (.iconst 1, 1) := dc_of qt_q148_cX4_make 23 rfl
def ql_q149_cX4_make : List (Nat × Jvm.ClassFile.Instr × Nat) := [(122, .goto 4, 3), (125, .iconst 0, 1), (126, .iastore, 1), (127, .iinc 5 1, 3), (130, .goto (-43), 3), (133, .aload_n 0, 1), (134, .getfield 13, 3), (137, .iload_n 1, 1), (138, .iload 4, 2), (140, .iconst 1, 1), (141, .iadd, 1), (142, .iload_n 3, 1), (143, .iadd, 1), (144, .iastore, 1), (145, .aload_n 0, 1), (146, .getfield 7, 3), (149, .iload_n 1, 1), (150, .iaload, 1), (151, .iconst 4, 1), (152, .iload 4, 2), (154, .imul, 1), (155, .iadd, 1), (156, .ireturn, 1)]
theorem qt_q149_cX4_make : dcAll cX4_make ql_q149_cX4_make = true := by decide +kernel
theorem dX4_make_122 : decode cX4_make 122 = .ok (.goto 4, 3) := dc_of qt_q149_cX4_make 0 rfl
theorem dX4_make_125 : decode cX4_make 125 = .ok (.iconst 0, 1) := dc_of qt_q149_cX4_make 1 rfl
theorem dX4_make_126 : decode cX4_make 126 = .ok (.iastore, 1) := dc_of qt_q149_cX4_make 2 rfl
theorem dX4_make_127 : decode cX4_make 127 = .ok (.iinc 5 1, 3) := dc_of qt_q149_cX4_make 3 rfl
theorem dX4_make_130 : decode cX4_make 130 = .ok (.goto (-43), 3) := dc_of qt_q149_cX4_make 4 rfl
theorem dX4_make_133 : decode cX4_make 133 = .ok (.aload_n 0, 1) := dc_of qt_q149_cX4_make 5 rfl
theorem dX4_make_134 : decode cX4_make 134 = .ok (.getfield 13, 3) := dc_of qt_q149_cX4_make 6 rfl
theorem dX4_make_137 : decode cX4_make 137 = .ok (.iload_n 1, 1) := dc_of qt_q149_cX4_make 7 rfl
theorem dX4_make_138 : decode cX4_make 138 = .ok (.iload 4, 2) := dc_of qt_q149_cX4_make 8 rfl
theorem dX4_make_140 : decode cX4_make 140 = .ok (.iconst 1, 1) := dc_of qt_q149_cX4_make 9 rfl
theorem dX4_make_141 : decode cX4_make 141 = .ok (.iadd, 1) := dc_of qt_q149_cX4_make 10 rfl
theorem dX4_make_142 : decode cX4_make 142 = .ok (.iload_n 3, 1) := dc_of qt_q149_cX4_make 11 rfl
theorem dX4_make_143 : decode cX4_make 143 = .ok (.iadd, 1) := dc_of qt_q149_cX4_make 12 rfl
theorem dX4_make_144 : decode cX4_make 144 = .ok (.iastore, 1) := dc_of qt_q149_cX4_make 13 rfl
theorem dX4_make_145 : decode cX4_make 145 = .ok (.aload_n 0, 1) := dc_of qt_q149_cX4_make 14 rfl
theorem dX4_make_146 : decode cX4_make 146 = .ok (.getfield 7, 3) := dc_of qt_q149_cX4_make 15 rfl
theorem dX4_make_149 : decode cX4_make 149 = .ok (.iload_n 1, 1) := dc_of qt_q149_cX4_make 16 rfl
theorem dX4_make_150 : decode cX4_make 150 = .ok (.iaload, 1) := dc_of qt_q149_cX4_make 17 rfl
theorem dX4_make_151 : decode cX4_make 151 = .ok (.iconst 4, 1) := dc_of qt_q149_cX4_make 18 rfl
theorem dX4_make_152 : decode cX4_make 152 = .ok (.iload 4, 2) := dc_of qt_q149_cX4_make 19 rfl
theorem dX4_make_154 : decode cX4_make 154 = .ok (.imul, 1) := dc_of qt_q149_cX4_make 20 rfl
theorem dX4_make_155 : decode cX4_make 155 = .ok (.iadd, 1) := dc_of qt_q149_cX4_make 21 rfl
theorem dX4_make_156 : decode cX4_make 156 = .ok (.ireturn, 1) := dc_of qt_q149_cX4_make 22 rfl
set_option maxRecDepth 20000 in
theorem ggX4_slotOf_X4_isHeap : GoodIn wsX4_slotOf wsX4_isHeap := goodIn_r _ [4] rfl (by decide +kernel)
set_option maxRecDepth 20000 in
theorem ggX4_slotOf_X4_find : GoodIn wsX4_slotOf wsX4_find := goodIn_r _ [8, 9, 10, 11, 12, 13, 3, 14, 15, 16, 17, 18, 19, 20, 21, 26, 27, 28, 29, 30, 31, 32, 33, 34, 35, 36, 37, 38, 39, 40, 41, 42, 43, 44, 45, 46, 47, 48] rfl (by decide +kernel)
set_option maxRecDepth 20000 in
theorem ggX4_slotOf_X4_slotsAt : GoodIn wsX4_slotOf wsX4_slotsAt := goodIn_r _ [25, 15, 26, 27, 28, 29, 30, 31, 32, 33, 34, 35, 36, 37, 38, 39, 40, 41, 42, 43, 44, 45, 46, 47, 48] rfl (by decide +kernel)
def ql_q150_cX4_slotOf : List (Nat × Jvm.ClassFile.Instr × Nat) := [(0, .iload_n 1, 1), (1, .invokestatic 65, 3), (4, .ifCond .eq 12, 3), (7, .aload_n 0, 1), (8, .iload_n 1, 1), (9, .iload_n 2, 1), (10, .invokevirtual 68, 3), (13, .goto 4, 3), (16, .iconst (-1), 1), (17, .istore 4, 2), (19, .iload 4, 2), (21, .ifCond .lt 18, 3), (24, .iload_n 3, 1), (25, .ifCond .lt 14, 3), (28, .iload_n 3, 1), (29, .aload_n 0, 1), (30, .iload_n 1, 1), (31, .iload 4, 2), (33, .invokevirtual 71, 3), (36, .if_icmp .lt 7, 3), (39, .iconst (-1), 1), (40, .goto 15, 3), (43, .sipush 256, 3), (46, .iload_n 1, 1)]
theorem qt_q150_cX4_slotOf : dcAll cX4_slotOf ql_q150_cX4_slotOf = true := by decide +kernel
theorem dX4_slotOf_0 : decode cX4_slotOf 0 = .ok (.iload_n 1, 1) := dc_of qt_q150_cX4_slotOf 0 rfl
theorem dX4_slotOf_1 : decode cX4_slotOf 1 = .ok (.invokestatic 65, 3) := dc_of qt_q150_cX4_slotOf 1 rfl
theorem dX4_slotOf_4 : decode cX4_slotOf 4 = .ok (.ifCond .eq 12, 3) := dc_of qt_q150_cX4_slotOf 2 rfl
theorem dX4_slotOf_7 : decode cX4_slotOf 7 = .ok (.aload_n 0, 1) := dc_of qt_q150_cX4_slotOf 3 rfl
theorem dX4_slotOf_8 : decode cX4_slotOf 8 = .ok (.iload_n 1, 1) := dc_of qt_q150_cX4_slotOf 4 rfl
theorem dX4_slotOf_9 : decode cX4_slotOf 9 = .ok (.iload_n 2, 1) := dc_of qt_q150_cX4_slotOf 5 rfl
