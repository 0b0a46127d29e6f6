theorem dX1_init_51 : decode cX1_init 51 = .ok (.putfield 28, 3) := dc_of qt_q7_cX1_init 0 rfl
theorem dX1_init_54 : decode cX1_init 54 = .ok (.aload_n 0, 1) := dc_of qt_q7_cX1_init 1 rfl
theorem dX1_init_55 : decode cX1_init 55 = .ok (.sipush 256, 3) := dc_of qt_q7_cX1_init 2 rfl
theorem dX1_init_58 : decode cX1_init 58 = .ok (.newarray .int, 2) := dc_of qt_q7_cX1_init 3 rfl
theorem dX1_init_60 : decode cX1_init 60 = .ok (.putfield 31, 3) := dc_of qt_q7_cX1_init 4 rfl
theorem dX1_init_63 : decode cX1_init 63 = .ok (.return_, 1) := dc_of qt_q7_cX1_init 5 rfl
set_option maxRecDepth 20000 in
theorem ggX1_empty_J7_fill_53178 : GoodIn wsX1_empty wsJ7_fill_53178 := goodIn_r _ [8] rfl (by decide +kernel)
def ql_q8_cX1_empty : List (Nat × Jvm.ClassFile.Instr × Nat) := [(0, .aload_n 0, 1), (1, .getfield 9, 3), (4, .iconst 0, 1), (5, .invokestatic 34, 3), (8, .aload_n 0, 1), (9, .getfield 15, 3), (12, .iconst 0, 1), (13, .invokestatic 34, 3), (16, .aload_n 0, 1), (17, .sipush 4096, 3), (20, .putfield 18, 3), (23, .aload_n 0, 1), (24, .iconst 0, 1), (25, .putfield 40, 3), (28, .return_, 1)]
theorem qt_q8_cX1_empty : dcAll cX1_empty ql_q8_cX1_empty = true := by decide +kernel
theorem dX1_empty_0 : decode cX1_empty 0 = .ok (.aload_n 0, 1) := dc_of qt_q8_cX1_empty 0 rfl
theorem dX1_empty_1 : decode cX1_empty 1 = .ok (.getfield 9, 3) := dc_of qt_q8_cX1_empty 1 rfl
theorem dX1_empty_4 : decode cX1_empty 4 = .ok (.iconst 0, 1) := dc_of qt_q8_cX1_empty 2 rfl
theorem dX1_empty_5 : decode cX1_empty 5 = .ok (.invokestatic 34, 3) := dc_of qt_q8_cX1_empty 3 rfl
theorem dX1_empty_8 : decode cX1_empty 8 = .ok (.aload_n 0, 1) := dc_of qt_q8_cX1_empty 4 rfl
theorem dX1_empty_9 : decode cX1_empty 9 = .ok (.getfield 15, 3) := dc_of qt_q8_cX1_empty 5 rfl
theorem dX1_empty_12 : decode cX1_empty 12 = .ok (.iconst 0, 1) := dc_of qt_q8_cX1_empty 6 rfl
theorem dX1_empty_13 : decode cX1_empty 13 = .ok (.invokestatic 34, 3) := dc_of qt_q8_cX1_empty 7 rfl
theorem dX1_empty_16 : decode cX1_empty 16 = .ok (.aload_n 0, 1) := dc_of qt_q8_cX1_empty 8 rfl
theorem dX1_empty_17 : decode cX1_empty 17 = .ok (.sipush 4096, 3) := dc_of qt_q8_cX1_empty 9 rfl
theorem dX1_empty_20 : decode cX1_empty 20 = .ok (.putfield 18, 3) := dc_of qt_q8_cX1_empty 10 rfl
theorem dX1_empty_23 : decode cX1_empty 23 = .ok (.aload_n 0, 1) := dc_of qt_q8_cX1_empty 11 rfl
theorem dX1_empty_24 : decode cX1_empty 24 = .ok (.iconst 0, 1) := dc_of qt_q8_cX1_empty 12 rfl
theorem dX1_empty_25 : decode cX1_empty 25 = .ok (.putfield 40, 3) := dc_of qt_q8_cX1_empty 13 rfl
theorem dX1_empty_28 : decode cX1_empty 28 = .ok (.return_, 1) := dc_of qt_q8_cX1_empty 14 rfl
def ql_q9_cX1_addressOf : List (Nat × Jvm.ClassFile.Instr × Nat) := [(0, .aload_n 0, 1), (1, .getfield 18, 3), (4, .iconst 4, 1), (5, .iload_n 1, 1), (6, .imul, 1), (7, .iadd, 1), (8, .ireturn, 1)]
theorem qt_q9_cX1_addressOf : dcAll cX1_addressOf ql_q9_cX1_addressOf = true := by decide +kernel
theorem dX1_addressOf_0 : decode cX1_addressOf 0 = .ok (.aload_n 0, 1) := dc_of qt_q9_cX1_addressOf 0 rfl
theorem dX1_addressOf_1 : decode cX1_addressOf 1 = .ok (.getfield 18, 3) := dc_of qt_q9_cX1_addressOf 1 rfl
theorem dX1_addressOf_4 : decode cX1_addressOf 4 = .ok (.iconst 4, 1) := dc_of qt_q9_cX1_addressOf 2 rfl
theorem dX1_addressOf_5 : decode cX1_addressOf 5 = .ok (.iload_n 1, 1) := dc_of qt_q9_cX1_addressOf 3 rfl
theorem dX1_addressOf_6 : decode cX1_addressOf 6 = .ok (.imul, 1) := dc_of qt_q9_cX1_addressOf 4 rfl
theorem dX1_addressOf_7 : decode cX1_addressOf 7 = .ok (.iadd, 1) := dc_of qt_q9_cX1_addressOf 5 rfl
theorem dX1_addressOf_8 : decode cX1_addressOf 8 = .ok (.ireturn, 1) := dc_of qt_q9_cX1_addressOf 6 rfl
def ql_q10_cX1_hasRoomFor : List (Nat × Jvm.ClassFile.Instr × Nat) := [(0, .aload_n 0, 1), (1, .getfield 40, 3), (4, .iconst 1, 1), (5, .iadd, 1), (6, .iload_n 1, 1), (7, .iadd, 1), (8, .sipush 256, 3), (11, .if_icmp .gt 7, 3), (14, .iconst 1, 1), (15, .goto 4, 3), (18, .iconst 0, 1), (19, .ireturn, 1)]
theorem qt_q10_cX1_hasRoomFor : dcAll cX1_hasRoomFor ql_q10_cX1_hasRoomFor = true := by decide +kernel
theorem dX1_hasRoomFor_0 : decode cX1_hasRoomFor 0 = .ok (.aload_n 0, 1) := dc_of qt_q10_cX1_hasRoomFor 0 rfl
theorem dX1_hasRoomFor_1 : decode cX1_hasRoomFor 1 = .ok (.getfield 40, 3) := dc_of qt_q10_cX1_hasRoomFor 1 rfl
theorem dX1_hasRoomFor_4 : decode cX1_hasRoomFor 4 = .ok (.iconst 1, 1) := dc_of qt_q10_cX1_hasRoomFor 2 rfl
theorem dX1_hasRoomFor_5 : decode cX1_hasRoomFor 5 = .ok (.iadd, 1) := dc_of qt_q10_cX1_hasRoomFor 3 rfl
theorem dX1_hasRoomFor_6 : decode cX1_hasRoomFor 6 = .ok (.iload_n 1, 1) := dc_of qt_q10_cX1_hasRoomFor 4 rfl
theorem dX1_hasRoomFor_7 : decode cX1_hasRoomFor 7 = .ok (.iadd, 1) := dc_of qt_q10_cX1_hasRoomFor 5 rfl
theorem dX1_hasRoomFor_8 : decode cX1_hasRoomFor 8 = .ok (.sipush 256, 3) := dc_of qt_q10_cX1_hasRoomFor 6 rfl
theorem dX1_hasRoomFor_11 : decode cX1_hasRoomFor 11 = .ok (.if_icmp .gt 7, 3) := dc_of qt_q10_cX1_hasRoomFor 7 rfl
theorem dX1_hasRoomFor_14 : decode cX1_hasRoomFor 14 = .ok (.iconst 1, 1) := dc_of qt_q10_cX1_hasRoomFor 8 rfl
theorem dX1_hasRoomFor_15 : decode cX1_hasRoomFor 15 = .ok (.goto 4, 3) := dc_of qt_q10_cX1_hasRoomFor 9 rfl
theorem dX1_hasRoomFor_18 : decode cX1_hasRoomFor 18 = .ok (.iconst 0, 1) := dc_of qt_q10_cX1_hasRoomFor 10 rfl
theorem dX1_hasRoomFor_19 : decode cX1_hasRoomFor 19 = .ok (.ireturn, 1) := dc_of qt_q10_cX1_hasRoomFor 11 rfl
def ql_q11_cX1_append : List (Nat × Jvm.ClassFile.Instr × Nat) := [(0, .aload_n 0, 1), (1, .getfield 40, 3), (4, .istore_n 3, 1), (5, .aload_n 0, 1), (6, .getfield 9, 3), (9, .iload_n 3, 1), (10, .bipush 64, 2), (12, .iload_n 1, 1), (13, .imul, 1), (14, .iload_n 2, 1), (15, .iadd, 1), (16, .iastore, 1), (17, .iload_n 3, 1), (18, .iconst 1, 1), (19, .iadd, 1), (20, .istore 4, 2), (22, .iload 4, 2), (24, .iload_n 3, 1), (25, .iload_n 2, 1), (26, .iadd, 1), (27, .if_icmp .gt 17, 3), (30, .aload_n 0, 1), (31, .getfield 9, 3), (34, .iload 4, 2)]
theorem qt_q11_cX1_append : dcAll cX1_append ql_q11_cX1_append = true := by decide +kernel
theorem dX1_append_0 : decode cX1_append 0 = .ok (.aload_n 0, 1) := dc_of qt_q11_cX1_append 0 rfl
theorem dX1_append_1 : decode cX1_append 1 = .ok (.getfield 40, 3) := dc_of qt_q11_cX1_append 1 rfl
theorem dX1_append_4 : decode cX1_append 4 = .ok (.istore_n 3, 1) := dc_of qt_q11_cX1_append 2 rfl
theorem dX1_append_5 : decode cX1_append 5 = .ok (.aload_n 0, 1) := dc_of qt_q11_cX1_append 3 rfl
theorem dX1_append_6 : decode cX1_append 6 = .ok (.getfield 9, 3) := dc_of qt_q11_cX1_append 4 rfl
theorem dX1_append_9 : decode cX1_append 9 = .ok (.iload_n 3, 1) := dc_of qt_q11_cX1_append 5 rfl
theorem dX1_append_10 : decode cX1_append 10 = .ok (.bipush 64, 2) := dc_of qt_q11_cX1_append 6 rfl
theorem dX1_append_12 : decode cX1_append 12 = .ok (.iload_n 1, 1) := dc_of qt_q11_cX1_append 7 rfl
theorem dX1_append_13 : decode cX1_append 13 = .ok (.imul, 1) := dc_of qt_q11_cX1_append 8 rfl
theorem dX1_append_14 : decode cX1_append 14 = .ok (.iload_n 2, 1) := dc_of qt_q11_cX1_append 9 rfl
theorem dX1_append_15 : decode cX1_append 15 = .ok (.iadd, 1) := dc_of qt_q11_cX1_append 10 rfl
theorem dX1_append_16 : decode cX1_append 16 = .ok (.iastore, 1) := dc_of qt_q11_cX1_append 11 rfl
theorem dX1_append_17 : decode cX1_append 17 = .ok (.iload_n 3, 1) := dc_of qt_q11_cX1_append 12 rfl
theorem dX1_append_18 : decode cX1_append 18 = .ok (.iconst 1, 1) := dc_of qt_q11_cX1_append 13 rfl
theorem dX1_append_19 : decode cX1_append 19 = .ok (.iadd, 1) := dc_of qt_q11_cX1_append 14 rfl
theorem dX1_append_20 : decode cX1_append 20 = .ok (.istore 4, 2) := dc_of qt_q11_cX1_append 15 rfl
theorem dX1_append_22 : decode cX1_append 22 = .ok (.iload 4, 2) := dc_of qt_q11_cX1_append 16 rfl
theorem dX1_append_24 : decode cX1_append 24 = .ok (.iload_n 3, 1) := dc_of qt_q11_cX1_append 17 rfl
theorem dX1_append_25 : decode cX1_append 25 = .ok (.iload_n 2, 1) := dc_of qt_q11_cX1_append 18 rfl
theorem dX1_append_26 : decode cX1_append 26 = .ok (.iadd, 1) := dc_of qt_q11_cX1_append 19 rfl
theorem dX1_append_27 : decode cX1_append 27 = .ok (.if_icmp .gt 17, 3) := dc_of qt_q11_cX1_append 20 rfl
theorem dX1_append_30 : decode cX1_append 30 = .ok (.aload_n 0, 1) := dc_of qt_q11_cX1_append 21 rfl
theorem dX1_append_31 : decode cX1_append 31 = .ok (.getfield 9, 3) := dc_of qt_q11_cX1_append 22 rfl
theorem dX1_append_34 : decode cX1_append 34 = .ok (.iload 4, 2) := dc_of qt_q11_cX1_append 23 rfl
def ql_q12_cX1_append : List (Nat × Jvm.ClassFile.Instr × Nat) := [(36, .iconst 0, 1), (37, .iastore, 1), (38, .iinc 4 1, 3), (41, .goto (-19), 3), (44, .iload_n 1, 1), (45, .iconst 3, 1), (46, .if_icmp .ne 12, 3), (49, .aload_n 0, 1), (50, .getfield 9, 3), (53, .iload_n 3, 1), (54, .iconst 2, 1), (55, .iadd, 1), (56, .iconst 1, 1), (57, .iastore, 1), (58, .aload_n 0, 1), (59, .iload_n 3, 1), (60, .iconst 1, 1), (61, .iadd, 1), (62, .iload_n 2, 1), (63, .iadd, 1), (64, .putfield 40, 3), (67, .iload_n 3, 1), (68, .ireturn, 1)]
theorem qt_q12_cX1_append : dcAll cX1_append ql_q12_cX1_append = true := by decide +kernel
theorem dX1_append_36 : decode cX1_append 36 = .ok (.iconst 0, 1) := dc_of qt_q12_cX1_append 0 rfl
theorem dX1_append_37 : decode cX1_append 37 = .ok (.iastore, 1) := dc_of qt_q12_cX1_append 1 rfl
theorem dX1_append_38 : decode cX1_append 38 = .ok (.iinc 4 1, 3) := dc_of qt_q12_cX1_append 2 rfl
theorem dX1_append_41 : decode cX1_append 41 = .ok (.goto (-19), 3) := dc_of qt_q12_cX1_append 3 rfl
theorem dX1_append_44 : decode cX1_append 44 = .ok (.iload_n 1, 1) := dc_of qt_q12_cX1_append 4 rfl
theorem dX1_append_45 : decode cX1_append 45 = .ok (.iconst 3, 1) := dc_of qt_q12_cX1_append 5 rfl
theorem dX1_append_46 : decode cX1_append 46 = .ok (.if_icmp .ne 12, 3) := dc_of qt_q12_cX1_append 6 rfl
theorem dX1_append_49 : decode cX1_append 49 = .ok (.aload_n 0, 1) := dc_of qt_q12_cX1_append 7 rfl
theorem dX1_append_50 : decode cX1_append 50 = .ok (.getfield 9, 3) := dc_of qt_q12_cX1_append 8 rfl
theorem dX1_append_53 : decode cX1_append 53 = .ok (.iload_n 3, 1) := dc_of qt_q12_cX1_append 9 rfl
theorem dX1_append_54 : decode cX1_append 54 = .ok (.iconst 2, 1) := dc_of qt_q12_cX1_append 10 rfl
theorem dX1_append_55 : decode cX1_append 55 = .ok (.iadd, 1) := dc_of qt_q12_cX1_append 11 rfl
theorem dX1_append_56 : decode cX1_append 56 = .ok (.iconst 1, 1) := dc_of qt_q12_cX1_append 12 rfl
theorem dX1_append_57 : decode cX1_append 57 = .ok (.iastore, 1) := dc_of qt_q12_cX1_append 13 rfl
theorem dX1_append_58 : decode cX1_append 58 = .ok (.aload_n 0, 1) := dc_of qt_q12_cX1_append 14 rfl
theorem dX1_append_59 : decode cX1_append 59 = .ok (.iload_n 3, 1) := dc_of qt_q12_cX1_append 15 rfl
theorem dX1_append_60 : decode cX1_append 60 = .ok (.iconst 1, 1) := dc_of qt_q12_cX1_append 16 rfl
theorem dX1_append_61 : decode cX1_append 61 = .ok (.iadd, 1) := dc_of qt_q12_cX1_append 17 rfl
theorem dX1_append_62 : decode cX1_append 62 = .ok (.iload_n 2, 1) := dc_of qt_q12_cX1_append 18 rfl
theorem dX1_append_63 : decode cX1_append 63 = .ok (.iadd, 1) := dc_of qt_q12_cX1_append 19 rfl
theorem dX1_append_64 : decode cX1_append 64 = .ok (.putfield 40, 3) := dc_of qt_q12_cX1_append 20 rfl
theorem dX1_append_67 : decode cX1_append 67 = .ok (.iload_n 3, 1) := dc_of qt_q12_cX1_append 21 rfl
theorem dX1_append_68 : decode cX1_append 68 = .ok (.ireturn, 1) := dc_of qt_q12_cX1_append 22 rfl
set_option maxRecDepth 20000 in
theorem ggX1_listObjects_J7_fill_53178 : GoodIn wsX1_listObjects wsJ7_fill_53178 := goodIn_r _ [8] rfl (by decide +kernel)
set_option maxRecDepth 20000 in
theorem ggX1_listObjects_X1_isObject : GoodIn wsX1_listObjects wsX1_isObject := goodIn_r _ [13, 14, 4, 15, 16, 17, 18, 19, 20, 21, 22, 23, 24, 25, 26, 27, 28, 29, 30, 31, 32, 33, 34, 35, 36, 37, 38, 39] rfl (by decide +kernel)
set_option maxRecDepth 20000 in
theorem ggX1_listObjects_X3_slotsOf : GoodIn wsX1_listObjects wsX3_slotsOf := goodIn_r _ [23] rfl (by decide +kernel)
def ql_q13_cX1_listObjects : List (Nat × Jvm.ClassFile.Instr × Nat) := [(0, .aload_n 0, 1), (1, .getfield 25, 3), (4, .bipush (-2), 2), (6, .invokestatic 34, 3), (9, .aload_n 0, 1), (10, .iconst 0, 1), (11, .putfield 43, 3), (14, .iconst 0, 1), (15, .istore_n 1, 1), (16, .iconst 0, 1), (17, .istore_n 2, 1), (18, .iload_n 2, 1), (19, .sipush 256, 3), (22, .if_icmp .ge 52, 3), (25, .aload_n 0, 1), (26, .iload_n 1, 1), (27, .invokevirtual 46, 3), (30, .ifCond .eq 44, 3), (33, .aload_n 0, 1), (34, .getfield 22, 3), (37, .iload_n 2, 1), (38, .iload_n 1, 1), (39, .iastore, 1), (40, .aload_n 0, 1)]
theorem qt_q13_cX1_listObjects : dcAll cX1_listObjects ql_q13_cX1_listObjects = true := by decide +kernel
theorem dX1_listObjects_0 : decode cX1_listObjects 0 = .ok (.aload_n 0, 1) := dc_of qt_q13_cX1_listObjects 0 rfl
theorem dX1_listObjects_1 : decode cX1_listObjects 1 = .ok (.getfield 25, 3) := dc_of qt_q13_cX1_listObjects 1 rfl
theorem dX1_listObjects_4 : decode cX1_listObjects 4 = .ok (.bipush (-2), 2) := dc_of qt_q13_cX1_listObjects 2 rfl
theorem dX1_listObjects_6 : decode cX1_listObjects 6 = .ok (.invokestatic 34, 3) := dc_of qt_q13_cX1_listObjects 3 rfl
theorem dX1_listObjects_9 : decode cX1_listObjects 9 = .ok (.aload_n 0, 1) := dc_of qt_q13_cX1_listObjects 4 rfl
theorem dX1_listObjects_10 : decode cX1_listObjects 10 = .ok (.iconst 0, 1) := dc_of qt_q13_cX1_listObjects 5 rfl
theorem dX1_listObjects_11 : decode cX1_listObjects 11 = .ok (.putfield 43, 3) := dc_of qt_q13_cX1_listObjects 6 rfl
theorem dX1_listObjects_14 : decode cX1_listObjects 14 = .ok (.iconst 0, 1) := dc_of qt_q13_cX1_listObjects 7 rfl
theorem dX1_listObjects_15 : decode cX1_listObjects 15 = .ok (.istore_n 1, 1) := dc_of qt_q13_cX1_listObjects 8 rfl
theorem dX1_listObjects_16 : decode cX1_listObjects 16 = .ok (.iconst 0, 1) := dc_of qt_q13_cX1_listObjects 9 rfl
theorem dX1_listObjects_17 : decode cX1_listObjects 17 = .ok (.istore_n 2, 1) := dc_of qt_q13_cX1_listObjects 10 rfl
theorem dX1_listObjects_18 : decode cX1_listObjects 18 = .ok (.iload_n 2, 1) := dc_of qt_q13_cX1_listObjects 11 rfl
theorem dX1_listObjects_19 : decode cX1_listObjects 19 = .ok (.sipush 256, 3) := dc_of qt_q13_cX1_listObjects 12 rfl
theorem dX1_listObjects_22 : decode cX1_listObjects 22 = .ok (.if_icmp .ge 52, 3) := dc_of qt_q13_cX1_listObjects 13 rfl
theorem dX1_listObjects_25 : decode cX1_listObjects 25 = .ok (.aload_n 0, 1) := dc_of qt_q13_cX1_listObjects 14 rfl
theorem dX1_listObjects_26 : decode cX1_listObjects 26 = .ok (.iload_n 1, 1) := dc_of qt_q13_cX1_listObjects 15 rfl
theorem dX1_listObjects_27 : decode cX1_listObjects 27 = .ok (.invokevirtual 46, 3) := dc_of qt_q13_cX1_listObjects 16 rfl
theorem dX1_listObjects_30 : decode cX1_listObjects 30 = .ok (.ifCond .eq 44, 3) := dc_of qt_q13_cX1_listObjects 17 rfl
theorem dX1_listObjects_33 : decode cX1_listObjects 33 = .ok (.aload_n 0, 1) := dc_of qt_q13_cX1_listObjects 18 rfl
theorem dX1_listObjects_34 : decode cX1_listObjects 34 = .ok (.getfield 22, 3) := dc_of qt_q13_cX1_listObjects 19 rfl
theorem dX1_listObjects_37 : decode cX1_listObjects 37 = .ok (.iload_n 2, 1) := dc_of qt_q13_cX1_listObjects 20 rfl
theorem dX1_listObjects_38 : decode cX1_listObjects 38 = .ok (.iload_n 1, 1) := dc_of qt_q13_cX1_listObjects 21 rfl
theorem dX1_listObjects_39 : decode cX1_listObjects 39 = .ok (.iastore, 1) := dc_of qt_q13_cX1_listObjects 22 rfl
theorem dX1_listObjects_40 : decode cX1_listObjects 40 = .ok (.aload_n 0, 1) := dc_of qt_q13_cX1_listObjects 23 rfl
def ql_q14_cX1_listObjects : List (Nat × Jvm.ClassFile.Instr × Nat) := [(41, .getfield 25, 3), (44, .iload_n 1, 1), (45, .iconst (-1), 1), (46, .iastore, 1), (47, .aload_n 0, 1), (48, .iload_n 2, 1), (49, .iconst 1, 1), (50, .iadd, 1), (51, .putfield 43, 3), (54, .iload_n 1, 1), (55, .iconst 1, 1), (56, .aload_n 0, 1), (57, .getfield 9, 3), (60, .iload_n 1, 1), (61, .iaload, 1), (62, .invokestatic 50, 3), (65, .iadd, 1), (66, .iadd, 1), (67, .istore_n 1, 1), (68, .iinc 2 1, 3), (71, .goto (-53), 3), (74, .iload_n 1, 1), (75, .ireturn, 1)]
theorem qt_q14_cX1_listObjects : dcAll cX1_listObjects ql_q14_cX1_listObjects = true := by decide +kernel
theorem dX1_listObjects_41 : decode cX1_listObjects 41 = .ok (.getfield 25, 3) := dc_of qt_q14_cX1_listObjects 0 rfl
theorem dX1_listObjects_44 : decode cX1_listObjects 44 = .ok (.iload_n 1, 1) := dc_of qt_q14_cX1_listObjects 1 rfl
theorem dX1_listObjects_45 : decode cX1_listObjects 45 = .ok (.iconst (-1), 1) := dc_of qt_q14_cX1_listObjects 2 rfl
theorem dX1_listObjects_46 : decode cX1_listObjects 46 = .ok (.iastore, 1) := dc_of qt_q14_cX1_listObjects 3 rfl
theorem dX1_listObjects_47 : decode cX1_listObjects 47 = .ok (.aload_n 0, 1) := dc_of qt_q14_cX1_listObjects 4 rfl
theorem dX1_listObjects_48 : decode cX1_listObjects 48 = .ok (.iload_n 2, 1) := dc_of qt_q14_cX1_listObjects 5 rfl
theorem dX1_listObjects_49 : decode cX1_listObjects 49 = .ok (.iconst 1, 1) := dc_of qt_q14_cX1_listObjects 6 rfl
theorem dX1_listObjects_50 : decode cX1_listObjects 50 = .ok (.iadd, 1) := dc_of qt_q14_cX1_listObjects 7 rfl
theorem dX1_listObjects_51 : decode cX1_listObjects 51 = .ok (.putfield 43, 3) := dc_of qt_q14_cX1_listObjects 8 rfl
theorem dX1_listObjects_54 : decode cX1_listObjects 54 = .ok (.iload_n 1, 1) := dc_of qt_q14_cX1_listObjects 9 rfl
theorem dX1_listObjects_55 : decode cX1_listObjects 55 = .ok (.iconst 1, 1) := dc_of qt_q14_cX1_listObjects 10 rfl
theorem dX1_listObjects_56 : decode cX1_listObjects 56 = .ok (.aload_n 0, 1) := dc_of qt_q14_cX1_listObjects 11 rfl
theorem dX1_listObjects_57 : decode cX1_listObjects 57 = .ok (.getfield 9, 3) := dc_of qt_q14_cX1_listObjects 12 rfl
theorem dX1_listObjects_60 : decode cX1_listObjects 60 = .ok (.iload_n 1, 1) := dc_of qt_q14_cX1_listObjects 13 rfl
theorem dX1_listObjects_61 : decode cX1_listObjects 61 = .ok (.iaload, 1) := dc_of qt_q14_cX1_listObjects 14 rfl
theorem dX1_listObjects_62 : decode cX1_listObjects 62 = .ok (.invokestatic 50, 3) := dc_of qt_q14_cX1_listObjects 15 rfl
theorem dX1_listObjects_65 : decode cX1_listObjects 65 = .ok (.iadd, 1) := dc_of qt_q14_cX1_listObjects 16 rfl
theorem dX1_listObjects_66 : decode cX1_listObjects 66 = .ok (.iadd, 1) := dc_of qt_q14_cX1_listObjects 17 rfl
theorem dX1_listObjects_67 : decode cX1_listObjects 67 = .ok (.istore_n 1, 1) := dc_of qt_q14_cX1_listObjects 18 rfl
theorem dX1_listObjects_68 : decode cX1_listObjects 68 = .ok (.iinc 2 1, 3) := dc_of qt_q14_cX1_listObjects 19 rfl
theorem dX1_listObjects_71 : decode cX1_listObjects 71 = .ok (.goto (-53), 3) := dc_of qt_q14_cX1_listObjects 20 rfl
theorem dX1_listObjects_74 : decode cX1_listObjects 74 = .ok (.iload_n 1, 1) := dc_of qt_q14_cX1_listObjects 21 rfl
theorem dX1_listObjects_75 : decode cX1_listObjects 75 = .ok (.ireturn, 1) := dc_of qt_q14_cX1_listObjects 22 rfl
set_option maxRecDepth 20000 in
theorem ggX1_isObject_X3_isHead : GoodIn wsX1_isObject wsX3_isHead := goodIn_r _ [5, 6, 7, 4, 8, 9, 10, 11, 12, 13, 14, 15, 16, 17] rfl (by decide +kernel)
set_option maxRecDepth 20000 in
theorem ggX1_isObject_X3_slotsOf : GoodIn wsX1_isObject wsX3_slotsOf := goodIn_r _ [11] rfl (by decide +kernel)
def ql_q15_cX1_isObject : List (Nat × Jvm.ClassFile.Instr × Nat) := [(0, .iload_n 1, 1), (1, .aload_n 0, 1), (2, .getfield 40, 3), (5, .if_icmp .ge 39, 3), (8, .aload_n 0, 1), (9, .getfield 9, 3), (12, .iload_n 1, 1), (13, .iaload, 1), (14, .invokestatic 54, 3), (17, .ifCond .eq 27, 3), (20, .iload_n 1, 1), (21, .iconst 1, 1), (22, .iadd, 1), (23, .aload_n 0, 1), (24, .getfield 9, 3), (27, .iload_n 1, 1), (28, .iaload, 1), (29, .invokestatic 50, 3), (32, .iadd, 1), (33, .aload_n 0, 1), (34, .getfield 40, 3), (37, .if_icmp .gt 7, 3), (40, .iconst 1, 1), (41, .goto 4, 3)]
theorem qt_q15_cX1_isObject : dcAll cX1_isObject ql_q15_cX1_isObject = true := by decide +kernel
theorem dX1_isObject_0 : decode cX1_isObject 0 = .ok (.iload_n 1, 1) := dc_of qt_q15_cX1_isObject 0 rfl
theorem dX1_isObject_1 : decode cX1_isObject 1 = .ok (.aload_n 0, 1) := dc_of qt_q15_cX1_isObject 1 rfl
theorem dX1_isObject_2 : decode cX1_isObject 2 = .ok (.getfield 40, 3) := dc_of qt_q15_cX1_isObject 2 rfl
theorem dX1_isObject_5 : decode cX1_isObject 5 = .ok (.if_icmp .ge 39, 3) := dc_of qt_q15_cX1_isObject 3 rfl
theorem dX1_isObject_8 : decode cX1_isObject 8 = .ok (.aload_n 0, 1) := dc_of qt_q15_cX1_isObject 4 rfl
theorem dX1_isObject_9 : decode cX1_isObject 9 = .ok (.getfield 9, 3) := dc_of qt_q15_cX1_isObject 5 rfl
theorem dX1_isObject_12 : decode cX1_isObject 12 = .ok (.iload_n 1, 1) := dc_of qt_q15_cX1_isObject 6 rfl
theorem dX1_isObject_13 : decode cX1_isObject 13 = .ok (.iaload, 1) := dc_of qt_q15_cX1_isObject 7 rfl
theorem dX1_isObject_14 : decode cX1_isObject 14 = .ok (.invokestatic 54, 3) := dc_of qt_q15_cX1_isObject 8 rfl
theorem dX1_isObject_17 : decode cX1_isObject 17 = .ok (.ifCond .eq 27, 3) := dc_of qt_q15_cX1_isObject 9 rfl
theorem dX1_isObject_20 : decode cX1_isObject 20 = .ok (.iload_n 1, 1) := dc_of qt_q15_cX1_isObject 10 rfl
theorem dX1_isObject_21 : decode cX1_isObject 21 = .ok (.iconst 1, 1) := dc_of qt_q15_cX1_isObject 11 rfl
theorem dX1_isObject_22 : decode cX1_isObject 22 = .ok (.iadd, 1) := dc_of qt_q15_cX1_isObject 12 rfl
theorem dX1_isObject_23 : decode cX1_isObject 23 = .ok (.aload_n 0, 1) := dc_of qt_q15_cX1_isObject 13 rfl
theorem dX1_isObject_24 : decode cX1_isObject 24 = .ok (.getfield 9, 3) := dc_of qt_q15_cX1_isObject 14 rfl
theorem dX1_isObject_27 : decode cX1_isObject 27 = .ok (.iload_n 1, 1) := dc_of qt_q15_cX1_isObject 15 rfl
theorem dX1_isObject_28 : decode cX1_isObject 28 = .ok (.iaload, 1) := dc_of qt_q15_cX1_isObject 16 rfl
theorem dX1_isObject_29 : decode cX1_isObject 29 = .ok (.invokestatic 50, 3) := dc_of qt_q15_cX1_isObject 17 rfl
theorem dX1_isObject_32 : decode cX1_isObject 32 = .ok (.iadd, 1) := dc_of qt_q15_cX1_isObject 18 rfl
theorem dX1_isObject_33 : decode cX1_isObject 33 = .ok (.aload_n 0, 1) := dc_of qt_q15_cX1_isObject 19 rfl
theorem dX1_isObject_34 : decode cX1_isObject 34 = .ok (.getfield 40, 3) := dc_of qt_q15_cX1_isObject 20 rfl
theorem dX1_isObject_37 : decode cX1_isObject 37 = .ok (.if_icmp .gt 7, 3) := dc_of qt_q15_cX1_isObject 21 rfl
theorem dX1_isObject_40 : decode cX1_isObject 40 = .ok (.iconst 1, 1) := dc_of qt_q15_cX1_isObject 22 rfl
theorem dX1_isObject_41 : decode cX1_isObject 41 = .ok (.goto 4, 3) := dc_of qt_q15_cX1_isObject 23 rfl
def ql_q16_cX1_isObject : List (Nat × Jvm.ClassFile.Instr × Nat) := [(44, .iconst 0, 1), (45, .ireturn, 1)]
theorem qt_q16_cX1_isObject : dcAll cX1_isObject ql_q16_cX1_isObject = true := by decide +kernel
theorem dX1_isObject_44 : decode cX1_isObject 44 = .ok (.iconst 0, 1) := dc_of qt_q16_cX1_isObject 0 rfl
theorem dX1_isObject_45 : decode cX1_isObject 45 = .ok (.ireturn, 1) := dc_of qt_q16_cX1_isObject 1 rfl
def ql_q17_cX1_headOf : List (Nat × Jvm.ClassFile.Instr × Nat) := [(0, .iload_n 1, 1), (1, .aload_n 0, 1), (2, .getfield 18, 3), (5, .isub, 1), (6, .istore_n 2, 1), (7, .iload_n 2, 1), (8, .ifCond .lt 18, 3), (11, .iload_n 2, 1), (12, .iconst 4, 1), (13, .irem, 1), (14, .ifCond .ne 12, 3), (17, .iload_n 2, 1), (18, .iconst 4, 1), (19, .idiv, 1), (20, .sipush 256, 3), (23, .if_icmp .lt 5, 3), (26, .iconst (-1), 1), (27, .ireturn, 1), (28, .iload_n 2, 1), (29, .iconst 4, 1), (30, .idiv, 1), (31, .istore_n 3, 1), (32, .aload_n 0, 1), (33, .getfield 25, 3)]
theorem qt_q17_cX1_headOf : dcAll cX1_headOf ql_q17_cX1_headOf = true := by decide +kernel
theorem dX1_headOf_0 : decode cX1_headOf 0 = .ok (.iload_n 1, 1) := dc_of qt_q17_cX1_headOf 0 rfl
theorem dX1_headOf_1 : decode cX1_headOf 1 = .ok (.aload_n 0, 1) := dc_of qt_q17_cX1_headOf 1 rfl
theorem dX1_headOf_2 : decode cX1_headOf 2 = .ok (.getfield 18, 3) := dc_of qt_q17_cX1_headOf 2 rfl
theorem dX1_headOf_5 : decode cX1_headOf 5 = .ok (.isub, 1) := dc_of qt_q17_cX1_headOf 3 rfl
theorem dX1_headOf_6 : decode cX1_headOf 6 = .ok (.istore_n 2, 1) := dc_of qt_q17_cX1_headOf 4 rfl
theorem dX1_headOf_7 : decode cX1_headOf 7 = .ok (.iload_n 2, 1) := dc_of qt_q17_cX1_headOf 5 rfl
theorem dX1_headOf_8 : decode cX1_headOf 8 = .ok (.ifCond .lt 18, 3) := dc_of qt_q17_cX1_headOf 6 rfl
theorem dX1_headOf_11 : decode cX1_headOf 11 = .ok (.iload_n 2, 1) := dc_of qt_q17_cX1_headOf 7 rfl
theorem dX1_headOf_12 : decode cX1_headOf 12 = .ok (.iconst 4, 1) := dc_of qt_q17_cX1_headOf 8 rfl
theorem dX1_headOf_13 : decode cX1_headOf 13 = .ok (.irem, 1) := dc_of qt_q17_cX1_headOf 9 rfl
theorem dX1_headOf_14 : decode cX1_headOf 14 = .ok (.ifCond .ne 12, 3) := dc_of qt_q17_cX1_headOf 10 rfl
theorem dX1_headOf_17 : decode cX1_headOf 17 = .ok (.iload_n 2, 1) := dc_of qt_q17_cX1_headOf 11 rfl
theorem dX1_headOf_18 : decode cX1_headOf 18 = .ok (.iconst 4, 1) := dc_of qt_q17_cX1_headOf 12 rfl
theorem dX1_headOf_19 : decode cX1_headOf 19 = .ok (.idiv, 1) := dc_of qt_q17_cX1_headOf 13 rfl
theorem dX1_headOf_20 : decode cX1_headOf 20 = .ok (.sipush 256, 3) := dc_of qt_q17_cX1_headOf 14 rfl
theorem dX1_headOf_23 : decode cX1_headOf 23 = .ok (.if_icmp .lt 5, 3) := dc_of qt_q17_cX1_headOf 15 rfl
theorem dX1_headOf_26 : decode cX1_headOf 26 = .ok (.iconst (-1), 1) := dc_of qt_q17_cX1_headOf 16 rfl
theorem dX1_headOf_27 : decode cX1_headOf 27 = .ok (.ireturn, 1) := dc_of qt_q17_cX1_headOf 17 rfl
theorem dX1_headOf_28 : decode cX1_headOf 28 = .ok (.iload_n 2, 1) := dc_of qt_q17_cX1_headOf 18 rfl
theorem dX1_headOf_29 : decode cX1_headOf 29 = .ok (.iconst 4, 1) := dc_of qt_q17_cX1_headOf 19 rfl
theorem dX1_headOf_30 : decode cX1_headOf 30 = .ok (.idiv, 1) := dc_of qt_q17_cX1_headOf 20 rfl
theorem dX1_headOf_31 : decode cX1_headOf 31 = .ok (.istore_n 3, 1) := dc_of qt_q17_cX1_headOf 21 rfl
theorem dX1_headOf_32 : decode cX1_headOf 32 = .ok (.aload_n 0, 1) := dc_of qt_q17_cX1_headOf 22 rfl
theorem dX1_headOf_33 : decode cX1_headOf 33 = .ok (.getfield 25, 3) := dc_of qt_q17_cX1_headOf 23 rfl
def ql_q18_cX1_headOf : List (Nat × Jvm.ClassFile.Instr × Nat) := [(36, .iload_n 3, 1), (37, .iaload, 1), (38, .bipush (-2), 2), (40, .if_icmp .ne 7, 3), (43, .iconst (-1), 1), (44, .goto 4, 3), (47, .iload_n 3, 1), (48, .ireturn, 1)]
theorem qt_q18_cX1_headOf : dcAll cX1_headOf ql_q18_cX1_headOf = true := by decide +kernel
theorem dX1_headOf_36 : decode cX1_headOf 36 = .ok (.iload_n 3, 1) := dc_of qt_q18_cX1_headOf 0 rfl
theorem dX1_headOf_37 : decode cX1_headOf 37 = .ok (.iaload, 1) := dc_of qt_q18_cX1_headOf 1 rfl
theorem dX1_headOf_38 : decode cX1_headOf 38 = .ok (.bipush (-2), 2) := dc_of qt_q18_cX1_headOf 2 rfl
theorem dX1_headOf_40 : decode cX1_headOf 40 = .ok (.if_icmp .ne 7, 3) := dc_of qt_q18_cX1_headOf 3 rfl
theorem dX1_headOf_43 : decode cX1_headOf 43 = .ok (.iconst (-1), 1) := dc_of qt_q18_cX1_headOf 4 rfl
theorem dX1_headOf_44 : decode cX1_headOf 44 = .ok (.goto 4, 3) := dc_of qt_q18_cX1_headOf 5 rfl
theorem dX1_headOf_47 : decode cX1_headOf 47 = .ok (.iload_n 3, 1) := dc_of qt_q18_cX1_headOf 6 rfl
theorem dX1_headOf_48 : decode cX1_headOf 48 = .ok (.ireturn, 1) := dc_of qt_q18_cX1_headOf 7 rfl
set_option maxRecDepth 20000 in
theorem ggX1_firstFault_X1_listObjects : GoodIn wsX1_firstFault wsX1_listObjects := goodIn_r _ [10, 11, 3, 4, 2, 12, 13, 14, 15, 16, 17, 18, 9, 19, 1, 20, 21, 22, 23, 24, 25, 26, 27, 28, 29, 30, 31, 32, 33, 34, 60, 61, 62, 63, 64, 65, 66, 67, 68, 69] rfl (by decide +kernel)
set_option maxRecDepth 20000 in
theorem ggX1_firstFault_X3_isHead : GoodIn wsX1_firstFault wsX3_isHead := goodIn_r _ [22, 23, 24, 21, 25, 26, 27, 28, 29, 30, 31, 32, 33, 34] rfl (by decide +kernel)
set_option maxRecDepth 20000 in
theorem ggX1_firstFault_X1_faultInObject : GoodIn wsX1_firstFault wsX1_faultInObject := goodIn_r _ [38, 2, 24, 21, 25, 39, 40, 23, 26, 27, 28, 41, 42, 43, 9, 44, 45, 46, 47, 48, 49, 50, 51, 52, 53, 54, 55, 11, 56, 57, 58, 59, 60, 61, 62, 63, 64, 65, 66, 67, 68, 69] rfl (by decide +kernel)
set_option maxRecDepth 20000 in
theorem ggX1_firstFault_X1_isValue : GoodIn wsX1_firstFault wsX1_isValue := goodIn_r _ [48, 49, 21, 50, 51, 52, 53, 9, 54, 55, 11, 60, 61, 62, 63, 64, 65, 66, 67, 68, 69] rfl (by decide +kernel)
def ql_q19_cX1_firstFault : List (Nat × Jvm.ClassFile.Instr × Nat) := [(0, .aload_n 0, 1), (1, .invokevirtual 57, 3), (4, .istore_n 1, 1), (5, .iload_n 1, 1), (6, .aload_n 0, 1), (7, .getfield 40, 3), (10, .if_icmp .ge 27, 3), (13, .sipush 1000, 3), (16, .aload_n 0, 1), (17, .getfield 9, 3), (20, .iload_n 1, 1), (21, .iaload, 1), (22, .invokestatic 54, 3), (25, .ifCond .eq 7, 3), (28, .iconst 2, 1), (29, .goto 4, 3), (32, .iconst 1, 1), (33, .imul, 1), (34, .iload_n 1, 1), (35, .iadd, 1), (36, .ireturn, 1), (37, .iconst 0, 1), (38, .istore_n 2, 1), (39, .iload_n 2, 1)]
theorem qt_q19_cX1_firstFault : dcAll cX1_firstFault ql_q19_cX1_firstFault = true := by decide +kernel
theorem dX1_firstFault_0 : decode cX1_firstFault 0 = .ok (.aload_n 0, 1) := dc_of qt_q19_cX1_firstFault 0 rfl
theorem dX1_firstFault_1 : decode cX1_firstFault 1 = .ok (.invokevirtual 57, 3) := dc_of qt_q19_cX1_firstFault 1 rfl
theorem dX1_firstFault_4 : decode cX1_firstFault 4 = .ok (.istore_n 1, 1) := dc_of qt_q19_cX1_firstFault 2 rfl
theorem dX1_firstFault_5 : decode cX1_firstFault 5 = .ok (.iload_n 1, 1) := dc_of qt_q19_cX1_firstFault 3 rfl
theorem dX1_firstFault_6 : decode cX1_firstFault 6 = .ok (.aload_n 0, 1) := dc_of qt_q19_cX1_firstFault 4 rfl
theorem dX1_firstFault_7 : decode cX1_firstFault 7 = .ok (.getfield 40, 3) := dc_of qt_q19_cX1_firstFault 5 rfl
theorem dX1_firstFault_10 : decode cX1_firstFault 10 = .ok (.if_icmp .ge 27, 3) := dc_of qt_q19_cX1_firstFault 6 rfl
theorem dX1_firstFault_13 : decode cX1_firstFault 13 = .ok (.sipush 1000, 3) := dc_of qt_q19_cX1_firstFault 7 rfl
theorem dX1_firstFault_16 : decode cX1_firstFault 16 = .ok (.aload_n 0, 1) := dc_of qt_q19_cX1_firstFault 8 rfl
theorem dX1_firstFault_17 : decode cX1_firstFault 17 = .ok (.getfield 9, 3) := dc_of qt_q19_cX1_firstFault 9 rfl
theorem dX1_firstFault_20 : decode cX1_firstFault 20 = .ok (.iload_n 1, 1) := dc_of qt_q19_cX1_firstFault 10 rfl
theorem dX1_firstFault_21 : decode cX1_firstFault 21 = .ok (.iaload, 1) := dc_of qt_q19_cX1_firstFault 11 rfl
theorem dX1_firstFault_22 : decode cX1_firstFault 22 = .ok (.invokestatic 54, 3) := dc_of qt_q19_cX1_firstFault 12 rfl
theorem dX1_firstFault_25 : decode cX1_firstFault 25 = .ok (.ifCond .eq 7, 3) := dc_of qt_q19_cX1_firstFault 13 rfl
theorem dX1_firstFault_28 : decode cX1_firstFault 28 = .ok (.iconst 2, 1) := dc_of qt_q19_cX1_firstFault 14 rfl
theorem dX1_firstFault_29 : decode cX1_firstFault 29 = .ok (.goto 4, 3) := dc_of qt_q19_cX1_firstFault 15 rfl
theorem dX1_firstFault_32 : decode cX1_firstFault 32 = .ok (.iconst 1, 1) := dc_of qt_q19_cX1_firstFault 16 rfl
theorem dX1_firstFault_33 : decode cX1_firstFault 33 = .ok (.imul, 1) := dc_of qt_q19_cX1_firstFault 17 rfl
theorem dX1_firstFault_34 : decode cX1_firstFault 34 = .ok (.iload_n 1, 1) := dc_of qt_q19_cX1_firstFault 18 rfl
theorem dX1_firstFault_35 : decode cX1_firstFault 35 = .ok (.iadd, 1) := dc_of qt_q19_cX1_firstFault 19 rfl
theorem dX1_firstFault_36 : decode cX1_firstFault 36 = .ok (.ireturn, 1) := dc_of qt_q19_cX1_firstFault 20 rfl
theorem dX1_firstFault_37 : decode cX1_firstFault 37 = .ok (.iconst 0, 1) := dc_of qt_q19_cX1_firstFault 21 rfl
theorem dX1_firstFault_38 : decode cX1_firstFault 38 = .ok (.istore_n 2, 1) := dc_of qt_q19_cX1_firstFault 22 rfl
theorem dX1_firstFault_39 : decode cX1_firstFault 39 = .ok (.iload_n 2, 1) := dc_of qt_q19_cX1_firstFault 23 rfl
def ql_q20_cX1_firstFault : List (Nat × Jvm.ClassFile.Instr × Nat) := [(40, .aload_n 0, 1), (41, .getfield 43, 3), (44, .if_icmp .ge 26, 3), (47, .aload_n 0, 1), (48, .aload_n 0, 1), (49, .getfield 22, 3), (52, .iload_n 2, 1), (53, .iaload, 1), (54, .invokevirtual 61, 3), (57, .istore_n 3, 1), (58, .iload_n 3, 1), (59, .ifCond .eq 5, 3), (62, .iload_n 3, 1), (63, .ireturn, 1), (64, .iinc 2 1, 3), (67, .goto (-28), 3), (70, .iconst 0, 1), (71, .istore_n 2, 1), (72, .iload_n 2, 1), (73, .iconst 4, 1), (74, .if_icmp .ge 28, 3), (77, .aload_n 0, 1), (78, .aload_n 0, 1), (79, .getfield 15, 3)]
theorem qt_q20_cX1_firstFault : dcAll cX1_firstFault ql_q20_cX1_firstFault = true := by decide +kernel
theorem dX1_firstFault_40 : decode cX1_firstFault 40 = .ok (.aload_n 0, 1) := dc_of qt_q20_cX1_firstFault 0 rfl
theorem dX1_firstFault_41 : decode cX1_firstFault 41 = .ok (.getfield 43, 3) := dc_of qt_q20_cX1_firstFault 1 rfl
theorem dX1_firstFault_44 : decode cX1_firstFault 44 = .ok (.if_icmp .ge 26, 3) := dc_of qt_q20_cX1_firstFault 2 rfl
theorem dX1_firstFault_47 : decode cX1_firstFault 47 = .ok (.aload_n 0, 1) := dc_of qt_q20_cX1_firstFault 3 rfl
theorem dX1_firstFault_48 : decode cX1_firstFault 48 = .ok (.aload_n 0, 1) := dc_of qt_q20_cX1_firstFault 4 rfl
theorem dX1_firstFault_49 : decode cX1_firstFault 49 = .ok (.getfield 22, 3) := dc_of qt_q20_cX1_firstFault 5 rfl
theorem dX1_firstFault_52 : decode cX1_firstFault 52 = .ok (.iload_n 2, 1) := dc_of qt_q20_cX1_firstFault 6 rfl
theorem dX1_firstFault_53 : decode cX1_firstFault 53 = .ok (.iaload, 1) := dc_of qt_q20_cX1_firstFault 7 rfl
theorem dX1_firstFault_54 : decode cX1_firstFault 54 = .ok (.invokevirtual 61, 3) := dc_of qt_q20_cX1_firstFault 8 rfl
theorem dX1_firstFault_57 : decode cX1_firstFault 57 = .ok (.istore_n 3, 1) := dc_of qt_q20_cX1_firstFault 9 rfl
theorem dX1_firstFault_58 : decode cX1_firstFault 58 = .ok (.iload_n 3, 1) := dc_of qt_q20_cX1_firstFault 10 rfl
theorem dX1_firstFault_59 : decode cX1_firstFault 59 = .ok (.ifCond .eq 5, 3) := dc_of qt_q20_cX1_firstFault 11 rfl
theorem dX1_firstFault_62 : decode cX1_firstFault 62 = .ok (.iload_n 3, 1) := dc_of qt_q20_cX1_firstFault 12 rfl
theorem dX1_firstFault_63 : decode cX1_firstFault 63 = .ok (.ireturn, 1) := dc_of qt_q20_cX1_firstFault 13 rfl
theorem dX1_firstFault_64 : decode cX1_firstFault 64 = .ok (.iinc 2 1, 3) := dc_of qt_q20_cX1_firstFault 14 rfl
theorem dX1_firstFault_67 : decode cX1_firstFault 67 = .ok (.goto (-28), 3) := dc_of qt_q20_cX1_firstFault 15 rfl
theorem dX1_firstFault_70 : decode cX1_firstFault 70 = .ok (.iconst 0, 1) := dc_of qt_q20_cX1_firstFault 16 rfl
theorem dX1_firstFault_71 : decode cX1_firstFault 71 = .ok (.istore_n 2, 1) := dc_of qt_q20_cX1_firstFault 17 rfl
theorem dX1_firstFault_72 : decode cX1_firstFault 72 = .ok (.iload_n 2, 1) := dc_of qt_q20_cX1_firstFault 18 rfl
theorem dX1_firstFault_73 : decode cX1_firstFault 73 = .ok (.iconst 4, 1) := dc_of qt_q20_cX1_firstFault 19 rfl
theorem dX1_firstFault_74 : decode cX1_firstFault 74 = .ok (.if_icmp .ge 28, 3) := dc_of qt_q20_cX1_firstFault 20 rfl
theorem dX1_firstFault_77 : decode cX1_firstFault 77 = .ok (.aload_n 0, 1) := dc_of qt_q20_cX1_firstFault 21 rfl
theorem dX1_firstFault_78 : decode cX1_firstFault 78 = .ok (.aload_n 0, 1) := dc_of qt_q20_cX1_firstFault 22 rfl
theorem dX1_firstFault_79 : decode cX1_firstFault 79 = .ok (.getfield 15, 3) := dc_of qt_q20_cX1_firstFault 23 rfl
def ql_q21_cX1_firstFault : List (Nat × Jvm.ClassFile.Instr × Nat) := [(82, .iload_n 2, 1), (83, .iaload, 1), (84, .invokevirtual 64, 3), (87, .ifCond .ne 9, 3), (90, .sipush 6000, 3), (93, .iload_n 2, 1), (94, .iadd, 1), (95, .ireturn, 1), (96, .iinc 2 1, 3), (99, .goto (-27), 3), (102, .iconst 0, 1), (103, .ireturn, 1)]
theorem qt_q21_cX1_firstFault : dcAll cX1_firstFault ql_q21_cX1_firstFault = true := by decide +kernel
theorem dX1_firstFault_82 : decode cX1_firstFault 82 = .ok (.iload_n 2, 1) := dc_of qt_q21_cX1_firstFault 0 rfl
theorem dX1_firstFault_83 : decode cX1_firstFault 83 = .ok (.iaload, 1) := dc_of qt_q21_cX1_firstFault 1 rfl
theorem dX1_firstFault_84 : decode cX1_firstFault 84 = .ok (.invokevirtual 64, 3) := dc_of qt_q21_cX1_firstFault 2 rfl
theorem dX1_firstFault_87 : decode cX1_firstFault 87 = .ok (.ifCond .ne 9, 3) := dc_of qt_q21_cX1_firstFault 3 rfl
theorem dX1_firstFault_90 : decode cX1_firstFault 90 = .ok (.sipush 6000, 3) := dc_of qt_q21_cX1_firstFault 4 rfl
theorem dX1_firstFault_93 : decode cX1_firstFault 93 = .ok (.iload_n 2, 1) := dc_of qt_q21_cX1_firstFault 5 rfl
theorem dX1_firstFault_94 : decode cX1_firstFault 94 = .ok (.iadd, 1) := dc_of qt_q21_cX1_firstFault 6 rfl
theorem dX1_firstFault_95 : decode cX1_firstFault 95 = .ok (.ireturn, 1) := dc_of qt_q21_cX1_firstFault 7 rfl
theorem dX1_firstFault_96 : decode cX1_firstFault 96 = .ok (.iinc 2 1, 3) := dc_of qt_q21_cX1_firstFault 8 rfl
theorem dX1_firstFault_99 : decode cX1_firstFault 99 = .ok (.goto (-27), 3) := dc_of qt_q21_cX1_firstFault 9 rfl
theorem dX1_firstFault_102 : decode cX1_firstFault 102 = .ok (.iconst 0, 1) := dc_of qt_q21_cX1_firstFault 10 rfl
theorem dX1_firstFault_103 : decode cX1_firstFault 103 = .ok (.ireturn, 1) := dc_of qt_q21_cX1_firstFault 11 rfl
